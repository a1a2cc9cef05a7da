/-! a world is what its members are: their order is free -/
theorem vD_nd {A : Nat → Prop} {ws : va_W} (h : va_D A ws) : (ws.map (fun q => q.1)).Nodup := by
  refine List.pairwise_iff_getElem.mpr (fun i j hi hj hij he => ?_)
  rw [List.length_map] at hi hj
  simp only [List.getElem_map] at he
  have := h.1 i j ws[i] ws[j] (List.getElem?_eq_getElem hi) (List.getElem?_eq_getElem hj) he
  omega
theorem vD_of {A : Nat → Prop} {ws : va_W} (h : (ws.map (fun q => q.1)).Nodup) (hA : ∀ q, q ∈ ws → A q.1) : va_D A ws := by
  refine ⟨fun i j p q hp hq he => ?_, fun k q hk => hA q (List.mem_of_getElem? hk)⟩
  obtain ⟨hi, rfl⟩ := List.getElem?_eq_some_iff.mp hp
  obtain ⟨hj, rfl⟩ := List.getElem?_eq_some_iff.mp hq
  have hp := List.pairwise_iff_getElem.mp h
  rcases Nat.lt_trichotomy i j with hij | hij | hij
  · exact (hp i j (by rw [List.length_map]; exact hi) (by rw [List.length_map]; exact hj) hij (by simp only [List.getElem_map]; exact he)).elim
  · exact hij
  · exact (hp j i (by rw [List.length_map]; exact hj) (by rw [List.length_map]; exact hi) hij (by simp only [List.getElem_map]; exact he.symm)).elim
section VPERM
variable {p : Program} {l : Launch} {e : Env} {R : Room} {s : State} {m : MethodId} {args : Array Value} {below : List Frame} {meth : Method} {c : Code} {nL : Nat} {D : va_G} {cl : List vw_C} {sb : Nat} {Q : State → Prop} {ws ws' : va_W} {cells slots : Nat} {pc : Nat} {lv : List (Nat × Value)} {st : List Value}
theorem vPerm (h : ws.Perm ws') (k : vV p l e R s m args below meth c nL D cl sb Q ws' cells slots pc lv st) : vV p l e R s m args below meth c nL D cl sb Q ws cells slots pc lv st := by
  intro H locs ls hP hD hS hl
  refine k H locs ls (fun i q hi => ?_) (vD_of ((h.map (fun q => q.1)).nodup_iff.mp (vD_nd hD)) (fun q hq => ?_)) hS hl
  · obtain ⟨j, hj⟩ := List.getElem?_of_mem (h.mem_iff.mpr (List.mem_of_getElem? hi))
    exact hP j q hj
  · obtain ⟨j, hj⟩ := List.getElem?_of_mem (h.mem_iff.mpr hq)
    exact hD.2 j q hj
end VPERM
