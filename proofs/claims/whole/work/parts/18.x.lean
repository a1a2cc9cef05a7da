/-! pools: a world as a list of addresses L and what each holds, f -/
section VPOOL
variable {p : Program} {l : Launch} {e : Env} {R : Room} {s : State} {m : MethodId} {args : Array Value} {below : List Frame} {meth : Method} {c : Code} {cc : ByteArray} {nL : Nat} {own : String} {Ts : List Cond} {D : va_G} {cl : List vw_C} {tys : List (ClassId × FieldType)} {sb : Nat} {Q : State → Prop} {L : List Nat} {f : Nat → va_E} {cells slots : Nat} {pc : Nat} {lv : List (Nat × Value)} {rest st : List Value}
theorem vp_ix {a : Nat} (h : a ∈ L) : ∃ k : Nat, (va_pl L f)[k]? = some (a, f a) := va_pl_get (X := []) h
theorem vp_set {A : Nat → Prop} {a k : Nat} {x : va_E} (hD : va_D A (va_pl L f)) (h : a ∈ L) (hk : (va_pl L f)[k]? = some (a, f a)) : (va_pl L f).set k (a, x) = va_pl L (va_up f a x) := va_pl_set (X := []) hD h hk
theorem vpGet (X : vCX p s m args meth c cc nL own Ts D cl tys sb) {ref C : String} {T : u_T} {N ci index a : Nat} {fs : List Value} {v : Value} (hin : ∀ w ∈ u_ws C T N, w ∈ Ts) (hc : cl[ci]? = some (C, T, N)) (ha : a ∈ L) (he : f a = .inr (ci, fs)) (k : Nat) (hk : k < N) (hlink : Cond.fieldLink own index ref (T k).2.1 (T k).2.2.1 ∈ Ts) (hsame : ∀ x, s.fieldFound? (T k).1 (T k).2.1 (T k).2.2.1 = some x → s.fieldFound? ref (T k).2.1 (T k).2.2.1 = some x) (hv : fs[k]? = some v) (hd : decode cc pc = .ok (.getfield index, 3)) (kk : vV p l e R s m args below meth c nL D cl sb Q (va_pl L f) cells slots (pc + 3) lv (v :: rest)) : vV p l e R s m args below meth c nL D cl sb Q (va_pl L f) cells slots pc lv (.ref a :: rest) := by
  obtain ⟨q, hq⟩ := vp_ix (f := f) ha
  exact vGet X hin hc q (hq.trans (by rw [he])) k hk hlink hsame hv hd kk
theorem vpPut (X : vCX p s m args meth c cc nL own Ts D cl tys sb) {ref C : String} {T : u_T} {N ci index a : Nat} {fs : List Value} {v : Value} (hin : ∀ w ∈ u_ws C T N, w ∈ Ts) (ty0 : Nat → FieldType) (hty : ∀ k, k < N → parseFieldDescriptor (T k).2.2.1 = some (ty0 k)) (hnm : ∀ a, a < N → ∀ b, b < N → a ≠ b → (T a).2.1 ≠ (T b).2.1) (hc : cl[ci]? = some (C, T, N)) (ha : a ∈ L) (he : f a = .inr (ci, fs)) (k : Nat) (hk : k < N) (hlink : Cond.fieldLink own index ref (T k).2.1 (T k).2.2.1 ∈ Ts) (hsame : ∀ x, s.fieldFound? (T k).1 (T k).2.1 (T k).2.2.1 = some x → s.fieldFound? ref (T k).2.1 (T k).2.2.1 = some x) (hfin : (T k).2.2.2 = false) {ty : FieldType} (hdd : parseFieldDescriptor (T k).2.2.1 = some ty) (hn : narrow ty v = v) (hfit : fits ty v = true) (hlen : k < fs.length) (hd : decode cc pc = .ok (.putfield index, 3)) (kk : vV p l e R s m args below meth c nL D cl sb Q (va_pl L (va_up f a (.inr (ci, fs.set k v)))) cells slots (pc + 3) lv rest) : vV p l e R s m args below meth c nL D cl sb Q (va_pl L f) cells slots pc lv (v :: .ref a :: rest) := by
  refine vPD (fun H hP hD => ?_)
  obtain ⟨q, hq⟩ := vp_ix (f := f) ha
  refine vPut X hin ty0 hty hnm hc q (hq.trans (by rw [he])) k hk hlink hsame hfin hdd hn hfit hlen hd ?_
  rw [vp_set hD ha hq]
  exact kk
theorem vpPutF (X : vCX p s m args meth c cc nL own Ts D cl tys sb) {ref C : String} {T : u_T} {N ci index a : Nat} {fs : List Value} {v : Value} (hmn : meth.name = "<init>") (hin : ∀ w ∈ u_ws C T N, w ∈ Ts) (ty0 : Nat → FieldType) (hty : ∀ k, k < N → parseFieldDescriptor (T k).2.2.1 = some (ty0 k)) (hnm : ∀ a, a < N → ∀ b, b < N → a ≠ b → (T a).2.1 ≠ (T b).2.1) (hc : cl[ci]? = some (C, T, N)) (ha : a ∈ L) (he : f a = .inr (ci, fs)) (k : Nat) (hk : k < N) (hlink : Cond.fieldLink own index ref (T k).2.1 (T k).2.2.1 ∈ Ts) (hsame : ∀ x, s.fieldFound? (T k).1 (T k).2.1 (T k).2.2.1 = some x → s.fieldFound? ref (T k).2.1 (T k).2.2.1 = some x) (hfin : (T k).2.2.2 = true) (hdecl : (T k).1 = own) {ty : FieldType} (hdd : parseFieldDescriptor (T k).2.2.1 = some ty) (hn : narrow ty v = v) (hfit : fits ty v = true) (hlen : k < fs.length) (hd : decode cc pc = .ok (.putfield index, 3)) (kk : vV p l e R s m args below meth c nL D cl sb Q (va_pl L (va_up f a (.inr (ci, fs.set k v)))) cells slots (pc + 3) lv rest) : vV p l e R s m args below meth c nL D cl sb Q (va_pl L f) cells slots pc lv (v :: .ref a :: rest) := by
  refine vPD (fun H hP hD => ?_)
  obtain ⟨q, hq⟩ := vp_ix (f := f) ha
  refine vPutF X hmn hin ty0 hty hnm hc q (hq.trans (by rw [he])) k hk hlink hsame hfin hdecl hdd hn hfit hlen hd ?_
  rw [vp_set hD ha hq]
  exact kk
theorem vpBaload (X : vCX p s m args meth c cc nL own Ts D cl tys sb) {cA : ClassId} {n a j : Nat} {g : Nat → Int32} {i : Int32} {v : Int32} (ha : a ∈ L) (he : f a = .inl (cA, n, .inl g)) (t0 : Nat) (ht : tys[t0]? = some (cA, .byte)) (hi : i = nI j) (hj : j < n) (hn : n ≤ 65536) (hv : g j = v) (hd : decode cc pc = .ok (.baload, 1)) (kk : vV p l e R s m args below meth c nL D cl sb Q (va_pl L f) cells slots (pc + 1) lv (.int v :: rest)) : vV p l e R s m args below meth c nL D cl sb Q (va_pl L f) cells slots pc lv (.int i :: .ref a :: rest) := by
  obtain ⟨q, hq⟩ := vp_ix (f := f) ha
  exact vBaload X q t0 (hq.trans (by rw [he])) ht hi hj hn hv hd kk
theorem vpBastore (X : vCX p s m args meth c cc nL own Ts D cl tys sb) {cA : ClassId} {n a j : Nat} {g g' : Nat → Int32} {i x : Int32} (ha : a ∈ L) (he : f a = .inl (cA, n, .inl g)) (t0 : Nat) (ht : tys[t0]? = some (cA, .byte)) (hi : i = nI j) (hj : j < n) (hn : n ≤ 65536) (hg : upd g j (vp_nar .byte x) = g') (hd : decode cc pc = .ok (.bastore, 1)) (kk : vV p l e R s m args below meth c nL D cl sb Q (va_pl L (va_up f a (.inl (cA, n, .inl g')))) cells slots (pc + 1) lv rest) : vV p l e R s m args below meth c nL D cl sb Q (va_pl L f) cells slots pc lv (.int x :: .int i :: .ref a :: rest) := by
  refine vPD (fun H hP hD => ?_)
  obtain ⟨q, hq⟩ := vp_ix (f := f) ha
  refine vBastore X q t0 (hq.trans (by rw [he])) ht hi hj hn hg hd ?_
  rw [vp_set hD ha hq]
  exact kk
theorem vpAlen (X : vCX p s m args meth c cc nL own Ts D cl tys sb) {cA : ClassId} {x : vp_A} {ty : FieldType} {a : Nat} {v : Int32} (ha : a ∈ L) (he : f a = .inl (cA, x)) (t0 : Nat) (ht : tys[t0]? = some (cA, ty)) (hv : Int32.ofNat x.1 = v) (hd : decode cc pc = .ok (.arraylength, 1)) (kk : vV p l e R s m args below meth c nL D cl sb Q (va_pl L f) cells slots (pc + 1) lv (.int v :: rest)) : vV p l e R s m args below meth c nL D cl sb Q (va_pl L f) cells slots pc lv (.ref a :: rest) := by
  obtain ⟨q, hq⟩ := vp_ix (f := f) ha
  exact vAlen X q t0 (hq.trans (by rw [he])) ht hv hd kk
theorem vpAaload (X : vCX p s m args meth c cc nL own Ts D cl tys sb) {cA : ClassId} {C : String} {n a j : Nat} {g : Nat → Option Nat} {i : Int32} {r : Nat} (ha : a ∈ L) (he : f a = .inl (cA, n, .inr (.inr (.inr (.inr g))))) (t0 : Nat) (ht : tys[t0]? = some (cA, .object C)) (hi : i = nI j) (hj : j < n) (hn : n ≤ 65536) (hv : g j = some r) (hd : decode cc pc = .ok (.aaload, 1)) (kk : vV p l e R s m args below meth c nL D cl sb Q (va_pl L f) cells slots (pc + 1) lv (.ref r :: rest)) : vV p l e R s m args below meth c nL D cl sb Q (va_pl L f) cells slots pc lv (.int i :: .ref a :: rest) := by
  obtain ⟨q, hq⟩ := vp_ix (f := f) ha
  exact vAaload X q t0 (hq.trans (by rw [he])) ht hi hj hn hv hd kk
theorem vpAastore (X : vCX p s m args meth c cc nL own Ts D cl tys sb) {cA : ClassId} {r : vw_C} {n a v j ci : Nat} {vs : List Value} {g g' : Nat → Option Nat} {i : Int32} (ha : a ∈ L) (he : f a = .inl (cA, n, .inr (.inr (.inr (.inr g))))) (t0 : Nat) (ht : tys[t0]? = some (cA, .object r.1)) (hvL : v ∈ L) (hv : f v = .inr (ci, vs)) (hc : cl[ci]? = some r) (hi : i = nI j) (hj : j < n) (hn : n ≤ 65536) (hg : va_up g j (some v) = g') (hd : decode cc pc = .ok (.aastore, 1)) (kk : vV p l e R s m args below meth c nL D cl sb Q (va_pl L (va_up f a (.inl (cA, n, .inr (.inr (.inr (.inr g'))))))) cells slots (pc + 1) lv rest) : vV p l e R s m args below meth c nL D cl sb Q (va_pl L f) cells slots pc lv (.ref v :: .int i :: .ref a :: rest) := by
  refine vPD (fun H hP hD => ?_)
  obtain ⟨q, hq⟩ := vp_ix (f := f) ha
  obtain ⟨q2, hq2⟩ := vp_ix (f := f) hvL
  refine vAastore X q t0 q2 ci (hq.trans (by rw [he])) ht (hq2.trans (by rw [hv])) hc hi hj hn hg hd ?_
  rw [vp_set hD ha hq]
  exact kk
theorem vNew (X : vCX p s m args meth c cc nL own Ts D cl tys sb) {ws : va_W} {C : String} {T : u_T} {N ci index : Nat} (hin : ∀ w ∈ u_ws C T N, w ∈ Ts) (ty : Nat → FieldType) (hty : ∀ k, k < N → parseFieldDescriptor (T k).2.2.1 = some (ty k)) (hcl : Cond.classLink own index C ∈ Ts) (hinst : Cond.instantiable C N ∈ Ts) (hini : Cond.initialized C ∈ Ts) (hc : cl[ci]? = some (C, T, N)) {fs : List Value} (hfs : ∀ j, j < N → defaultValue (ty j) = vp_V fs j) (hcells : cells + 1 ≤ R.cells) (hslots : slots + N ≤ R.slots) (hd : decode cc pc = .ok (.new index, 3))
    (kk : ∀ q : Nat, va_D (vAb sb) (ws ++ [(q, .inr (ci, fs))]) → vV p l e R s m args below meth c nL D cl sb Q (ws ++ [(q, .inr (ci, fs))]) (cells + 1) (slots + N) (pc + 3) lv (.ref q :: rest)) : vV p l e R s m args below meth c nL D cl sb Q ws cells slots pc lv rest :=
  fun H locs ls hP hD hS hl => va_new (D := D) X.1 X.2.1 X.2.2.2.2.1 hin ty hty X.2.2.2.1 (X.2.2.2.2.1 _ hcl) (X.2.2.2.2.1 _ hinst) (X.2.2.2.2.1 _ hini) X.2.2.2.2.2.1 hP hD hS (fun q h => Nat.le_trans X.2.2.2.2.2.2.1 h) hc hfs hcells hslots hd (fun q H1 hP1 hD1 hS1 => kk q hD1 H1 locs ls hP1 hD1 hS1 hl)
theorem vpNew (X : vCX p s m args meth c cc nL own Ts D cl tys sb) {C : String} {T : u_T} {N ci index : Nat} (hin : ∀ w ∈ u_ws C T N, w ∈ Ts) (ty : Nat → FieldType) (hty : ∀ k, k < N → parseFieldDescriptor (T k).2.2.1 = some (ty k)) (hcl : Cond.classLink own index C ∈ Ts) (hinst : Cond.instantiable C N ∈ Ts) (hini : Cond.initialized C ∈ Ts) (hc : cl[ci]? = some (C, T, N)) {fs : List Value} (hfs : ∀ j, j < N → defaultValue (ty j) = vp_V fs j) (hcells : cells + 1 ≤ R.cells) (hslots : slots + N ≤ R.slots) (hd : decode cc pc = .ok (.new index, 3))
    (kk : ∀ q : Nat, q ∉ L → vV p l e R s m args below meth c nL D cl sb Q (va_pl (L ++ [q]) (va_up f q (.inr (ci, fs)))) (cells + 1) (slots + N) (pc + 3) lv (.ref q :: rest)) : vV p l e R s m args below meth c nL D cl sb Q (va_pl L f) cells slots pc lv rest := by
  refine vNew X hin ty hty hcl hinst hini hc hfs hcells hslots hd (fun q hD => ?_)
  have hq : q ∉ L := va_pl_fresh2 (X := []) hD
  rw [va_pl_push hq]
  exact kk q hq
/-- the byte rows' class is one: what is made has the class that the tables name -/
theorem va_RA_one {U : State} {a b : ClassId} {ty : FieldType} (h1 : va_RA U a ty) (h2 : va_RA U b ty) : a = b := by
  cases ty with
  | object C =>
    obtain ⟨_, _, _, _, _, e1⟩ := h1
    obtain ⟨_, _, _, _, _, e2⟩ := h2
    exact Option.some.inj (e1.symm.trans e2)
  | _ => exact Option.some.inj (Eq.trans (Eq.symm h1) h2)
theorem vNewa (X : vCX p s m args meth c cc nL own Ts D cl tys sb) {ws : va_W} {atype : ArrayType} (harr : Cond.arrayClass (newarray.typeOf atype) ∈ Ts) {ty : FieldType} (hty : newarray.typeOf atype = ty) {cA : ClassId} (t0 : Nat) (ht : tys[t0]? = some (cA, ty)) {n : Int32} {N' : Nat} {a0 : vp_A} (ha : ∀ cA : ClassId, vp_cell cA a0 = arrV cA N' (fun _ => defaultValue ty)) (hn : n = nI N') (hN : N' ≤ 65536) (hbytes : N' * componentBytes ty ≤ 536870912) (hcells : cells + 1 ≤ R.cells) (hslots : slots + N' ≤ R.slots) (hd : decode cc pc = .ok (.newarray atype, 2))
    (kk : ∀ q : Nat, va_D (vAb sb) (ws ++ [(q, .inl (cA, a0))]) → vV p l e R s m args below meth c nL D cl sb Q (ws ++ [(q, .inl (cA, a0))]) (cells + 1) (slots + N') (pc + 2) lv (.ref q :: rest)) : vV p l e R s m args below meth c nL D cl sb Q ws cells slots pc lv (.int n :: rest) := by
  subst hn
  intro H locs ls hP hD hS hl
  refine va_newa (D := D) X.1 X.2.1 (X.2.2.2.2.1 _ harr) hty X.2.2.2.2.2.1 hP hD hS (fun q h => Nat.le_trans X.2.2.2.2.2.2.1 h) ha (fun q => absurd q (nI_pos (by omega))) (nI_clamp (by omega)) hbytes hcells hslots hd (fun q cA' H1 hK1 hP1 hD1 hS1 => ?_)
  have e : cA' = cA := by
    have h1 := hK1.2 tys.length (cA', ty) (by rw [List.getElem?_append_right (Nat.le_refl _), Nat.sub_self]; rfl)
    have hlt := (List.getElem?_eq_some_iff.mp ht).1
    have h2 := hK1.2 t0 (cA, ty) (by rw [List.getElem?_append_left hlt]; exact ht)
    exact va_RA_one h1.2 h2.2
  subst e
  exact kk q hD1 H1 locs ls hP1 hD1 hS1 hl
theorem vpNewB (X : vCX p s m args meth c cc nL own Ts D cl tys sb) (harr : Cond.arrayClass .byte ∈ Ts) {cA : ClassId} (t0 : Nat) (ht : tys[t0]? = some (cA, .byte)) {n : Int32} {N' : Nat} (hn : n = nI N') (hN : N' ≤ 65536) (hcells : cells + 1 ≤ R.cells) (hslots : slots + N' ≤ R.slots) (hd : decode cc pc = .ok (.newarray .byte, 2))
    (kk : ∀ q : Nat, q ∉ L → vV p l e R s m args below meth c nL D cl sb Q (va_pl (L ++ [q]) (va_up f q (.inl (cA, N', .inl (fun _ => 0))))) (cells + 1) (slots + N') (pc + 2) lv (.ref q :: rest)) : vV p l e R s m args below meth c nL D cl sb Q (va_pl L f) cells slots pc lv (.int n :: rest) := by
  refine vNewa X (atype := .byte) (ty := .byte) harr rfl t0 ht (a0 := (N', .inl (fun _ => 0))) (fun cA => rfl) hn hN (by show N' * 1 ≤ _; omega) hcells hslots hd (fun q hD => ?_)
  have hq : q ∉ L := va_pl_fresh2 (X := []) hD
  rw [va_pl_push hq]
  exact kk q hq
end VPOOL
