/-! the law's wrappers: methods with a table of handlers, which catch what the class throws -/
section NCL
def ncA : List String := ["java/lang/IndexOutOfBoundsException", "java/lang/IllegalArgumentException", "java/lang/IllegalStateException", "java/lang/UnsupportedOperationException", "java/util/NoSuchElementException", "java/lang/ArithmeticException"]
def ncL : List (String × String) := [("java/lang/ArithmeticException", "java/lang/IndexOutOfBoundsException"), ("java/lang/ArithmeticException", "java/lang/UnsupportedOperationException"), ("java/lang/IllegalArgumentException", "java/lang/IndexOutOfBoundsException"), ("java/lang/IllegalArgumentException", "java/lang/UnsupportedOperationException"), ("java/lang/IllegalStateException", "java/lang/IllegalArgumentException"), ("java/lang/IllegalStateException", "java/lang/IndexOutOfBoundsException"), ("java/lang/IllegalStateException", "java/lang/UnsupportedOperationException"), ("java/lang/UnsupportedOperationException", "java/lang/IllegalArgumentException"), ("java/lang/UnsupportedOperationException", "java/lang/IndexOutOfBoundsException"), ("java/util/NoSuchElementException", "java/lang/IndexOutOfBoundsException"), ("java/util/NoSuchElementException", "java/lang/UnsupportedOperationException")]
def vEL (sb : Nat) (U : State) : Prop := vEX sb U ∧ ∀ q : String × String, q ∈ ncL → va_Nc q.1 q.2 U
theorem vEL.go {sb : Nat} {s U : State} {H : Heap} {locs : List Loc} (h : vEL sb s) (hW : s.WarmedH U.vm) (hU : U.heap = H) (hS : va_S (vAb sb) s.heap H locs) : vEL sb U := ⟨h.1.go hW hU hS, fun q hq => va_Nc.moved hW.alike (h.2 q hq)⟩
theorem vEL.calling {sb : Nat} {U : State} (h : vEL sb U) (g : JFrame) (mk : MethodId) (a : Array Value) : vEL sb (U.calling g mk a) := ⟨h.1.calling g mk a, fun q hq => va_Nc.moved (u := U) (U := U.calling g mk a) (Vm.Alike.refl U.vm) (h.2 q hq)⟩
def vPreL (D : va_G) (cl : List vw_C) (tys : List (ClassId × FieldType)) (sb : Nat) (ws : va_W) : State → Prop := fun U => vPre D cl tys sb ws U ∧ vEL sb U
def vCtL (l : Launch) (y : MethodName) (cc : ByteArray) (nL : Nat) (hh : List (Nat × Nat × Nat × Nat)) (fr lo mc ms : Nat) (D : va_G) (cl : List vw_C) (tys : List (ClassId × FieldType)) (sb : Nat) (av : List Value) (ws : va_W) (Post : Option Value → va_W → Prop) : Prop :=
  vx_Met l y (Cond.codeWith y cc nL (some .int) hh :: vGW) ({ frames := fr, cells := mc, slots := ms, locals := lo }) (va_Pc av (vPreL D cl tys sb ws)) (vQc D cl sb Post) (fun _ _ _ => False) mc ms (vAb sb)
theorem vBlindL {D : va_G} {cl : List vw_C} {tys : List (ClassId × FieldType)} {sb : Nat} {ws : va_W} {av : List Value} : FrameBlind (va_Pc av (vPreL D cl tys sb ws)) := fun a U g mk q => by
  obtain ⟨q0, ⟨q1, qP, qD, qK⟩, qE⟩ := q
  exact ⟨q0, ⟨q1, qP, qD, va_K.moved (u := U) (U := U.calling g mk a) (Vm.Alike.refl U.vm) qK⟩, qE.calling g mk a⟩
theorem vOfL {l : Launch} {y : MethodName} {cc : ByteArray} {nL : Nat} {hh : List (Nat × Nat × Nat × Nat)} {fr lo mc ms : Nat} {D : va_G} {cl : List vw_C} {tys : List (ClassId × FieldType)} {sb : Nat} {av : List Value} {ws : va_W} {Post : Option Value → va_W → Prop} (hy : plainName y.cls = true) (hlen : (lg_sl av).length ≤ nL)
    (body : ∀ (p : Program) (e : Env) (s : State) (m : MethodId) (below : List Frame) (meth : Method) (c : Code), vCX p s m av.toArray meth c cc nL y.cls (Cond.codeWith y cc nL (some .int) hh :: vGW) D cl tys sb → meth.sig.returnType = some .int → c.exceptionTable.toList = tableOf hh → vEL sb s →
      vV p l e ({ frames := fr, cells := mc, slots := ms, locals := lo }) s m av.toArray below meth c nL D cl sb (vx_MQ below (vQc D cl sb Post) (fun _ _ _ => False) av.toArray s mc ms (vAb sb)) ws 0 0 0 (lv_args 0 av) []) : vCtL l y cc nL hh fr lo mc ms D cl tys sb av ws Post := by
  refine vx_ofWH (cc := cc) (maxL := nL) (ret := some .int) (hh := hh) hy rfl ?_
  intro p e s m args below meth c s₁ B hml hv
  obtain ⟨rfl, ⟨hsz, hP, hD, hK⟩, hE⟩ := hv
  rw [lg_entry_eq]
  have hat : ∀ w ∈ (Cond.codeWith y cc nL (some .int) hh :: vGW), w.before av.toArray s = true := atoms_spec B.pre
  exact body p e s m below meth c ⟨B.exec, B.bytes, hml, findClass_of_methodNamed B.named, hat, hK, hsz, B.notSynchronized⟩ B.returns (vx_table (x := y) B (hat _ List.mem_cons_self)) hE s.heap [] _ hP hD va_S.rf (lv_entry av hlen)
end NCL
section VWR
variable {p : Program} {l : Launch} {e : Env} {R : Room} {s : State} {m : MethodId} {args : Array Value} {below : List Frame} {meth : Method} {c : Code} {cc : ByteArray} {nL : Nat} {own : String} {Ts : List Cond} {D : va_G} {cl : List vw_C} {tys : List (ClassId × FieldType)} {sb : Nat} {Q : State → Prop} {ws : va_W} {L : List Nat} {f : Nat → va_E} {cells slots : Nat} {pc : Nat} {lv : List (Nat × Value)} {rest st : List Value}
theorem vCatch (X : vCX p s m args meth c cc nL own Ts D cl tys sb) (hE : vEL sb s) {y : MethodName} {bytes : ByteArray} {maxL : Nat} {ret : Option FieldType} {fr lo mc ms b index : Nat} {As : List Value} {E : String} (rest : List Value) (hM : vCtX l y bytes maxL ret fr lo mc ms D cl tys sb (.ref b :: As) ws E)
    (hG : GoodIn Ts (wsV own index y.cls y (Cond.code y bytes maxL ret :: vGW))) (hy : y.cls ≠ "java/lang/invoke/MethodHandle" ∧ y.cls ≠ "java/lang/invoke/VarHandle" ∧ (parseMethodDescriptor y.desc).map (fun d => d.parameters.length) = some As.length) (hR : fr + 1 ≤ R.frames ∧ 8 + (maxL + 11) + lo ≤ R.locals)
    (q0 ci : Nat) {q : vw_C} {fs : List Value} (hc : cl[ci]? = some q) (hcq : q.1 = y.cls) (he : ws[q0]? = some (b, .inr (ci, fs))) (hst : st = As.reverse ++ .ref b :: rest) (hroom : (rest.map fun v => v.category).sum ≤ 8) (hd : decode cc pc = .ok (.invokevirtual index, 3)) (hf : cells + mc ≤ R.cells ∧ slots + ms ≤ R.slots)
    (pre : List ExceptionTableEntry) (x : ExceptionTableEntry) (suf : List ExceptionTableEntry) (hsplit : c.exceptionTable.toList = pre ++ x :: suf) (hpass : ∀ z ∈ pre, z.catchType ≠ 0 ∧ ∃ nm : String, Cond.classLink own z.catchType nm ∈ Ts ∧ (E, nm) ∈ ncL) (hx9 : covers x pc = true) (h0 : x.catchType ≠ 0) {name : String} (hlink : Cond.classLink own x.catchType name ∈ Ts) (hcast : Cond.castable E name ∈ lw_tbl)
    (kk : ∀ a : Nat, vV p l e R s m args below meth c nL D cl sb Q ws (cells + mc) (slots + ms) x.handlerPc lv [.ref a]) : vV p l e R s m args below meth c nL D cl sb Q ws cells slots pc lv st := by
  intro H locs ls hP hD hS hl
  obtain ⟨hx, hb, hml, hown, hts, hK, hsb, hlk⟩ := X
  have run := vx_runV (e := e) (below := below) (meth := meth) (locs := locs) (g := F0 m pc ls st) (As := As) (rest := rest) (b := b) (C := y.cls) ⟨hx, hb, hml, hown, hts⟩ hM (cwV As.length hts hG rfl rfl rfl ⟨rfl, hy⟩ hR) ⟨vBlindX, by rw [← hcq]; exact va_recv hK hP hc he, fun U hU hW => ⟨rfl, ⟨by rw [hU]; exact Nat.le_trans hsb hS.1, by rw [hU]; exact hP, hD, va_K.moved hW.alike hK⟩, hE.1.go hW hU hS⟩⟩ rfl rfl hl.1 hst (lv_room hroom) hd hf
  intro T hT Xs
  rcases run T hT Xs with ⟨v, st₀, t, T', L9, h0', X', hL, e1, e2, hno, -⟩ | ⟨q9, st₀, t, T', L9, E', ce, h0', X', hL, e1, e2, ⟨rfl, hP1, hD1, hF⟩, hce, hcv, hcl, goes⟩
  · exact hno.elim
  · obtain ⟨k1, k2, k3⟩ := vx_keep (A0 := vAb sb) (A1 := vAb sb) (free := vAb sb) h0' e1 hS (fun _ _ h => h) (fun _ h => h) hL hF
    have w : vx_W p l e R s m args below meth c T'.heap (locs ++ L9) (cells + mc) (slots + ms) Q (F0 m pc ls rest) q9 :=
      vx_catch hown pre x suf hsplit (fun z hz => by obtain ⟨z1, nm, z2, z3⟩ := hpass z hz; exact Or.inr ⟨z1, nm, hts _ z2, hE.2 _ z3⟩) hx9 h0 (hts _ hlink) (va_Nw.use rfl (hE.1.2.2.1 _ _ hcast)) (by rw [e1]; exact hce) hcv hcl (kk q9 T'.heap (locs ++ L9) ls (by rw [e1]; exact hP1) hD1 k3 hl)
    obtain ⟨t2, a1, b1⟩ := w T' rfl X'
    exact ⟨t2, goes.trans a1, b1⟩
theorem vRetIL (X : vCX p s m args meth c cc nL own Ts D cl tys sb) {Post : Option Value → va_W → Prop} {XC : String → State → State → Prop} (hr : meth.sig.returnType = some .int) {v : Int32} (hd : decode cc pc = .ok (.ireturn, 1)) (hq : Post (some (.int v)) ws) : vV p l e R s m args below meth c nL D cl sb (vx_MQ below (vQc D cl sb Post) XC args s cells slots (vAb sb)) ws cells slots pc lv [.int v] :=
  fun H locs ls hP hD hS hl => vx_ret (vRetI X hr hd hq H locs ls hP hD hS hl)
/-- a wrapper is called -/
theorem vCallL (X : vCX p s m args meth c cc nL own Ts D cl tys sb) (hE : vEL sb s) {y : MethodName} {bytes : ByteArray} {maxL : Nat} {hh : List (Nat × Nat × Nat × Nat)} {fr lo mc ms index : Nat} {As : List Value} {Post : Option Value → va_W → Prop} (rest : List Value) (hM : vCtL l y bytes maxL hh fr lo mc ms D cl tys sb As ws Post)
    (hG : GoodIn Ts (va_wsS own index y (Cond.codeWith y bytes maxL (some .int) hh :: vGW))) (hyo : y.cls = own) (hy : y.cls ≠ "java/lang/invoke/MethodHandle" ∧ y.cls ≠ "java/lang/invoke/VarHandle" ∧ (parseMethodDescriptor y.desc).map (fun d => d.parameters.length) = some As.length) (hR : fr + 1 ≤ R.frames ∧ 8 + (maxL + 11) + lo ≤ R.locals)
    (hst : st = As.reverse ++ rest) (hroom : (rest.map fun v => v.category).sum ≤ 8) (hd : decode cc pc = .ok (.invokestatic index, 3)) (hf : cells + mc ≤ R.cells ∧ slots + ms ≤ R.slots)
    (kk : ∀ (v : Option Value) (ws' : va_W), Post v ws' → vV p l e R s m args below meth c nL D cl sb Q ws' (cells + mc) (slots + ms) (pc + 3) lv (v.toList ++ rest)) : vV p l e R s m args below meth c nL D cl sb Q ws cells slots pc lv st := by
  intro H locs ls hP hD hS hl
  obtain ⟨hx, hb, hml, hown, hts, hK, hsb, hlk⟩ := X
  have run := vx_runSX (e := e) (below := below) (meth := meth) (locs := locs) (g := F0 m pc ls st) (As := As) (rest := rest) ⟨hx, hb, hml, hown, hts⟩ hM (vx_cwSW As.length hts hG rfl rfl rfl hy hR) ⟨vBlindL, fun U hU hW => ⟨rfl, ⟨by rw [hU]; exact Nat.le_trans hsb hS.1, by rw [hU]; exact hP, hD, va_K.moved hW.alike hK⟩, hE.go hW hU hS⟩⟩ rfl rfl hl.1 hst (lv_room hroom) hd hf
  intro T hT Xs
  rcases run T hT Xs with ⟨v, st₀, t, T', L9, h0', X', hL, e1, e2, ⟨⟨v', ws', hv, hp, hP1, hD1⟩, hF⟩, goes⟩ | ⟨q9, st₀, t, T', L9, E', ce, h0', X', hL, e1, e2, hno, -⟩
  · cases hv
    obtain ⟨k1, k2, k3⟩ := vx_keep (A0 := vAb sb) (A1 := vAb sb) (free := vAb sb) h0' e1 hS (fun _ _ h => h) (fun _ h => h) hL hF
    obtain ⟨t2, a1, b1⟩ := kk v ws' hp T'.heap (locs ++ L9) ls (by rw [e1]; exact hP1) hD1 k3 hl T' rfl X'
    exact ⟨t2, goes t2 a1, b1⟩
  · exact hno.elim
theorem vpLastore (X : vCX p s m args meth c cc nL own Ts D cl tys sb) {cA : ClassId} {n a j : Nat} {g g' : Nat → Int64} {i : Int32} {x : Int64} (ha : a ∈ L) (he : f a = .inl (cA, n, .inr (.inl g))) (t0 : Nat) (ht : tys[t0]? = some (cA, .long)) (hi : i = nI j) (hj : j < n) (hn : n ≤ 65536) (hg : vp_updL g j x = g') (hd : decode cc pc = .ok (.lastore, 1)) (kk : vV p l e R s m args below meth c nL D cl sb Q (va_pl L (va_up f a (.inl (cA, n, .inr (.inl g'))))) cells slots (pc + 1) lv rest) : vV p l e R s m args below meth c nL D cl sb Q (va_pl L f) cells slots pc lv (.long x :: .int i :: .ref a :: rest) := by
  refine vPD (fun H hP hD => ?_)
  obtain ⟨q, hq⟩ := vp_ix (f := f) ha
  refine vLastore X q t0 (hq.trans (by rw [he])) ht hi hj hn hg hd ?_
  rw [vp_set hD ha hq]
  exact kk
theorem vpDastore (X : vCX p s m args meth c cc nL own Ts D cl tys sb) {cA : ClassId} {n a j : Nat} {g g' : Nat → UInt64} {i : Int32} {x : UInt64} (ha : a ∈ L) (he : f a = .inl (cA, n, .inr (.inr (.inr (.inl g))))) (t0 : Nat) (ht : tys[t0]? = some (cA, .double)) (hi : i = nI j) (hj : j < n) (hn : n ≤ 65536) (hg : vf_upd g j x = g') (hd : decode cc pc = .ok (.dastore, 1)) (kk : vV p l e R s m args below meth c nL D cl sb Q (va_pl L (va_up f a (.inl (cA, n, .inr (.inr (.inr (.inl g'))))))) cells slots (pc + 1) lv rest) : vV p l e R s m args below meth c nL D cl sb Q (va_pl L f) cells slots pc lv (.double x :: .int i :: .ref a :: rest) := by
  refine vPD (fun H hP hD => ?_)
  obtain ⟨q, hq⟩ := vp_ix (f := f) ha
  refine vDastore X q t0 (hq.trans (by rw [he])) ht hi hj hn hg hd ?_
  rw [vp_set hD ha hq]
  exact kk
theorem vpLaload (X : vCX p s m args meth c cc nL own Ts D cl tys sb) {cA : ClassId} {n a j : Nat} {g : Nat → Int64} {i : Int32} {v : Int64} (ha : a ∈ L) (he : f a = .inl (cA, n, .inr (.inl g))) (t0 : Nat) (ht : tys[t0]? = some (cA, .long)) (hi : i = nI j) (hj : j < n) (hn : n ≤ 65536) (hv : g j = v) (hd : decode cc pc = .ok (.laload, 1)) (kk : vV p l e R s m args below meth c nL D cl sb Q (va_pl L f) cells slots (pc + 1) lv (.long v :: rest)) : vV p l e R s m args below meth c nL D cl sb Q (va_pl L f) cells slots pc lv (.int i :: .ref a :: rest) := by
  obtain ⟨q, hq⟩ := vp_ix (f := f) ha
  exact vLaload X q t0 (hq.trans (by rw [he])) ht hi hj hn hv hd kk
theorem vpDaload (X : vCX p s m args meth c cc nL own Ts D cl tys sb) {cA : ClassId} {n a j : Nat} {g : Nat → UInt64} {i : Int32} {v : UInt64} (ha : a ∈ L) (he : f a = .inl (cA, n, .inr (.inr (.inr (.inl g))))) (t0 : Nat) (ht : tys[t0]? = some (cA, .double)) (hi : i = nI j) (hj : j < n) (hn : n ≤ 65536) (hv : g j = v) (hd : decode cc pc = .ok (.daload, 1)) (kk : vV p l e R s m args below meth c nL D cl sb Q (va_pl L f) cells slots (pc + 1) lv (.double v :: rest)) : vV p l e R s m args below meth c nL D cl sb Q (va_pl L f) cells slots pc lv (.int i :: .ref a :: rest) := by
  obtain ⟨q, hq⟩ := vp_ix (f := f) ha
  exact vDaload X q t0 (hq.trans (by rw [he])) ht hi hj hn hv hd kk
end VWR
theorem cInv.obj {k : Nat → ClassId} {L : List Nat} {f : Nat → va_E} {Z : Nat → Prop} {x : Nat} {B : Nat → Nat → Int32} {Ln Rm : Nat → Nat} {Rd : Nat → Option Nat} {Pl Mk : Nat → Nat} {G : Nat → Nat → Int32} {Sz : Nat → Nat} (h : cInv k L f Z x B Ln Rm Rd Pl Mk G Sz) : x ∈ L ∧ ∃ fs, f x = .inr (3, fs) := by
  obtain ⟨aW, aG, aR, tr, tg, gW, gG, gR, A, AB, U, UR, UB, R, C, GU, h⟩ := h
  exact ⟨h.1.1.1, _, h.1.2.1⟩
theorem cInv.foreign {k : Nat → ClassId} {L L' : List Nat} {f f' : Nat → va_E} {Z : Nat → Prop} {x : Nat} {B : Nat → Nat → Int32} {Ln Rm : Nat → Nat} {Rd : Nat → Option Nat} {Pl Mk : Nat → Nat} {G : Nat → Nat → Int32} {Sz : Nat → Nat} (h : cInv k L f Z x B Ln Rm Rd Pl Mk G Sz) (hk : ∀ t, t ∈ L → t ∈ L' ∧ (¬ Z t → f' t = f t)) : cInv k L' f' Z x B Ln Rm Rd Pl Mk G Sz := by
  obtain ⟨aW, aG, aR, tr, tg, gW, gG, gR, A, AB, U, UR, UB, R, C, GU, h⟩ := h
  exact ⟨aW, aG, aR, tr, tg, gW, gG, gR, A, AB, U, UR, UB, R, C, GU, h.foreign hk⟩
