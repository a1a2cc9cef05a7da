/-! contracts, weaker, or over the world in another order -/
section CW9
variable {l : Launch} {y : MethodName} {cc : ByteArray} {nL : Nat} {ret : Option FieldType} {fr lo mc ms : Nat} {D : va_G} {cl : List vw_C} {tys : List (ClassId × FieldType)} {sb : Nat} {av : List Value} {ws ws2 : va_W} {Post Post' : Option Value → va_W → Prop}
theorem vCt.weak (h : vCt l y cc nL ret fr lo mc ms D cl tys sb av ws Post) (hp : ∀ v w, Post v w → Post' v w) : vCt l y cc nL ret fr lo mc ms D cl tys sb av ws Post' := by
  intro p e ha hc hk s m args below hf happ hP hK
  obtain ⟨n, o, h1, h2, h3, ⟨⟨v, ws', e1, q1, q2⟩, hF⟩, hL⟩ := h p e ha hc hk s m args below hf happ hP hK
  exact ⟨n, o, h1, h2, h3, ⟨⟨v, ws', e1, hp v ws' q1, q2⟩, hF⟩, hL⟩
theorem vP_perm (h : ws.Perm ws2) {H : Heap} (hP : va_P D cl ws H) : va_P D cl ws2 H := fun i q hi => by
  obtain ⟨j, hj⟩ := List.getElem?_of_mem (h.mem_iff.mpr (List.mem_of_getElem? hi))
  exact hP j q hj
theorem vD_perm (h : ws.Perm ws2) {A : Nat → Prop} (hD : va_D A ws) : va_D A ws2 :=
  vD_of ((h.map (fun q => q.1)).nodup_iff.mp (vD_nd hD)) (fun q hq => by
    obtain ⟨j, hj⟩ := List.getElem?_of_mem (h.mem_iff.mpr hq)
    exact hD.2 j q hj)
theorem outOf {L : List Nat} : ∀ (xs : List Nat), xs.Nodup → (∀ a, a ∈ xs → a ∈ L) → ∃ F, L.Perm (xs ++ F)
  | [], _, _ => ⟨L, List.Perm.refl _⟩
  | x :: xs, hn, hx => by
    obtain ⟨h1, h2⟩ := List.nodup_cons.mp hn
    obtain ⟨F, hF⟩ := outOf xs h2 (fun a ha => hx a (List.mem_cons_of_mem _ ha))
    have hm := (hF.mem_iff (a := x)).mp (hx x List.mem_cons_self)
    have hm2 : x ∈ F := (List.mem_append.mp hm).resolve_left h1
    exact ⟨F.erase x, hF.trans (((List.perm_cons_erase hm2).append_left xs).trans List.perm_middle)⟩
def mUp (f : Nat → va_E) (o : Nat → Nat) (c : Nat → va_E) : Nat → Nat → va_E
  | 0 => f
  | n + 1 => va_up (mUp f o c n) (o n) (c n)
theorem mUp_nq {f : Nat → va_E} {o : Nat → Nat} {c : Nat → va_E} {t : Nat} : ∀ (n : Nat), (∀ i, i < n → t ≠ o i) → mUp f o c n t = f t
  | 0, _ => rfl
  | n + 1, h => by
    show va_up (mUp f o c n) (o n) (c n) t = f t
    rw [va_up_nq _ (h n (by omega))]
    exact mUp_nq n (fun i hi => h i (by omega))
theorem mUp_eq {f : Nat → va_E} {o : Nat → Nat} {c : Nat → va_E} : ∀ (n : Nat), (∀ i j, i < n → j < n → o i = o j → i = j) → ∀ i, i < n → mUp f o c n (o i) = c i
  | 0, _, i, h => by omega
  | n + 1, hj, i, h => by
    show va_up (mUp f o c n) (o n) (c n) (o i) = c i
    by_cases z : i = n
    · subst z; exact va_up_eq _ _ _
    · rw [va_up_nq _ (fun e => z (hj i n h (by omega) e))]
      exact mUp_eq n (fun i j h1 h2 => hj i j (by omega) (by omega)) i (by omega)
theorem nodupO {o : Nat → Nat} {n : Nat} (hj : ∀ i j, i < n → j < n → o i = o j → i = j) : ((List.range n).map o).Nodup := by
  refine List.pairwise_iff_getElem.mpr (fun i j hi hj2 hij he => ?_)
  simp only [List.length_map, List.length_range] at hi hj2
  simp only [List.getElem_map, List.getElem_range] at he
  have := hj i j hi hj2 he
  omega
/-- the model's cells, taken out of the pool and put back -/
theorem vCt.pool {L : List Nat} {f : Nat → va_E} {o : Nat → Nat} {c c' : Nat → va_E} {v : Option Value} (hL : ∀ i, i < 10 → o i ∈ L) (hj : ∀ i j, i < 10 → j < 10 → o i = o j → i = j) (hf : ∀ i, i < 10 → f (o i) = c i)
    (h : ∀ pl : va_W, vCt l y cc nL ret fr lo mc ms D cl tys sb av ((List.range 10).map (fun i => (o i, c i)) ++ pl) (vDet v ((List.range 10).map (fun i => (o i, c' i)) ++ pl))) :
    vCt l y cc nL ret fr lo mc ms D cl tys sb av (va_pl L f) (vDet v (va_pl L (mUp f o c' 10))) := by
  intro p e ha hc hk s m args below hf9 happ hP hK
  obtain ⟨hav, hsz, hPP, hDD, hKK⟩ := hP
  have hmap : ∀ (X : List Nat) (g : Nat → va_E), (va_pl X g).map (fun q => q.1) = X := fun X g => by rw [va_pl, List.map_map]; exact List.map_id X
  have hnd : L.Nodup := by
    have := vD_nd hDD
    rwa [hmap] at this
  obtain ⟨F, hF⟩ := outOf (L := L) _ (nodupO hj) (fun a ha => by
    obtain ⟨i, hi, rfl⟩ := List.mem_map.mp ha
    exact hL i (List.mem_range.mp hi))
  have hd := (hF.nodup_iff.mp hnd)
  have hno : ∀ t, t ∈ F → ∀ i, i < 10 → t ≠ o i := fun t ht i hi e => by
    have := (List.nodup_append.mp hd).2.2 (o i) (List.mem_map.mpr ⟨i, List.mem_range.mpr hi, rfl⟩) t ht
    exact this e.symm
  have e1 : va_pl ((List.range 10).map o ++ F) f = (List.range 10).map (fun i => (o i, c i)) ++ va_pl F f := by
    simp only [va_pl, List.map_append, List.map_map]
    congr 1
    refine List.map_congr_left (fun i hi => ?_)
    show (o i, f (o i)) = _
    rw [hf i (List.mem_range.mp hi)]
  have e2 : va_pl ((List.range 10).map o ++ F) (mUp f o c' 10) = (List.range 10).map (fun i => (o i, c' i)) ++ va_pl F f := by
    simp only [va_pl, List.map_append, List.map_map]
    congr 1
    · refine List.map_congr_left (fun i hi => ?_)
      show (o i, mUp f o c' 10 (o i)) = _
      rw [mUp_eq 10 hj i (List.mem_range.mp hi)]
    · refine List.map_congr_left (fun t ht => ?_)
      rw [mUp_nq 10 (hno t ht)]
  have hp1 : (va_pl L f).Perm ((List.range 10).map (fun i => (o i, c i)) ++ va_pl F f) := by rw [← e1]; exact hF.map _
  have hp2 : (va_pl L (mUp f o c' 10)).Perm ((List.range 10).map (fun i => (o i, c' i)) ++ va_pl F f) := by rw [← e2]; exact hF.map _
  obtain ⟨n, oc, h1, h2, h3, ⟨⟨v', ws', q1, ⟨rfl, rfl⟩, q2, q3⟩, hFr⟩, hLc⟩ := h (va_pl F f) p e ha hc hk s m args below hf9 happ ⟨hav, hsz, vP_perm hp1 hPP, vD_perm hp1 hDD, hKK⟩ hK
  exact ⟨n, oc, h1, h2, h3, ⟨⟨v', _, q1, ⟨rfl, rfl⟩, vP_perm hp2.symm q2, vD_perm hp2.symm q3⟩, hFr⟩, hLc⟩
end CW9
