/-! contracts over whole worlds: a method that is given the world ws comes back with a world and an answer that Post names -/
def vQc (D : va_G) (cl : List vw_C) (sb : Nat) (Post : Option Value → va_W → Prop) : Array Value → State → Outcome → State → Prop := fun _ st oc t => (∃ (v : Option Value) (ws' : va_W), oc = .returned v ∧ Post v ws' ∧ va_P D cl ws' t.heap ∧ va_D (vAb sb) ws') ∧ va_F (vAb sb) st t
def vPre (D : va_G) (cl : List vw_C) (tys : List (ClassId × FieldType)) (sb : Nat) (ws : va_W) : State → Prop := fun U => sb ≤ U.heap.size ∧ va_P D cl ws U.heap ∧ va_D (vAb sb) ws ∧ va_K D cl tys U
def vCt (l : Launch) (y : MethodName) (cc : ByteArray) (nL : Nat) (ret : Option FieldType) (fr lo mc ms : Nat) (D : va_G) (cl : List vw_C) (tys : List (ClassId × FieldType)) (sb : Nat) (av : List Value) (ws : va_W) (Post : Option Value → va_W → Prop) : Prop :=
  Met l y (Cond.code y cc nL ret :: vGW) ({ frames := fr, cells := mc, slots := ms, locals := lo }) (va_Pc av (vPre D cl tys sb ws)) (vQc D cl sb Post) mc ms (vAb sb)
theorem vBlind {D : va_G} {cl : List vw_C} {tys : List (ClassId × FieldType)} {sb : Nat} {ws : va_W} {av : List Value} : FrameBlind (va_Pc av (vPre D cl tys sb ws)) := fun a U g mk q => by
  obtain ⟨q0, q1, qP, qD, qK⟩ := q
  exact ⟨q0, q1, qP, qD, va_K.moved (u := U) (U := U.calling g mk a) (Vm.Alike.refl U.vm) qK⟩
theorem vGsub {c : Cond} {ws : List Cond} (h : ∀ w ∈ ws, w ∈ vGW) : GoodIn (c :: vGW) ws := fun w hw => ⟨List.mem_cons_of_mem _ (h w hw), good_of_word (vGW_good (h w hw)).2⟩
theorem vGV {c : Cond} {y : MethodName} {bytes : ByteArray} {maxL : Nat} {ret : Option FieldType} {own C : String} {idx : Nat} (h1 : Cond.methodLink own idx y ∈ vGW) (h2 : Cond.instanceMethod y ∈ vGW) (h3 : Cond.selects C y y ∈ vGW) (h4 : Cond.initialized C ∈ vGW) (h5 : Cond.code y bytes maxL ret ∈ vGW) : GoodIn (c :: vGW) (wsV own idx C y (Cond.code y bytes maxL ret :: vGW)) := vGsub fun w hw => by
  simp only [wsV, List.cons_append, List.nil_append, List.mem_cons] at hw
  rcases hw with rfl | rfl | rfl | rfl | rfl | hw <;> assumption
theorem vGS {c : Cond} {y : MethodName} {bytes : ByteArray} {maxL : Nat} {ret : Option FieldType} {own : String} {idx : Nat} (h1 : Cond.methodLink own idx y ∈ vGW) (h2 : Cond.static y ∈ vGW) (h4 : Cond.initialized own ∈ vGW) (h5 : Cond.code y bytes maxL ret ∈ vGW) : GoodIn (c :: vGW) (wsS own idx y (Cond.code y bytes maxL ret :: vGW)) := vGsub fun w hw => by
  simp only [wsS, List.cons_append, List.nil_append, List.mem_cons] at hw
  rcases hw with rfl | rfl | rfl | rfl | hw <;> assumption
theorem vGI {c : Cond} {y : MethodName} {bytes : ByteArray} {maxL : Nat} {ret : Option FieldType} (h5 : Cond.code y bytes maxL ret ∈ vGW) : GoodIn (c :: vGW) (Cond.code y bytes maxL ret :: vGW) := vGsub fun w hw => by
  rcases List.mem_cons.mp hw with rfl | hw <;> assumption
theorem vOf {l : Launch} {y : MethodName} {cc : ByteArray} {nL : Nat} {ret : Option FieldType} {fr lo mc ms : Nat} {D : va_G} {cl : List vw_C} {tys : List (ClassId × FieldType)} {sb : Nat} {av : List Value} {ws : va_W} {Post : Option Value → va_W → Prop} (hy : plainName y.cls = true) (hlen : (lg_sl av).length ≤ nL)
    (body : ∀ (p : Program) (e : Env) (s : State) (m : MethodId) (below : List Frame) (meth : Method) (c : Code), vCX p s m av.toArray meth c cc nL y.cls (Cond.code y cc nL ret :: vGW) D cl tys sb → meth.sig.returnType = ret → meth.name = y.name →
      vV p l e ({ frames := fr, cells := mc, slots := ms, locals := lo }) s m av.toArray below meth c nL D cl sb (MQ below (vQc D cl sb Post) av.toArray s mc ms (vAb sb)) ws 0 0 0 (lv_args 0 av) []) : vCt l y cc nL ret fr lo mc ms D cl tys sb av ws Post := by
  refine Met.ofW (cc := cc) (maxL := nL) (ret := ret) hy rfl ?_
  intro p e s m args below meth c s₁ B hml hv
  obtain ⟨rfl, hsz, hP, hD, hK⟩ := hv
  rw [lg_entry_eq]
  exact body p e s m below meth c ⟨B.exec, B.bytes, hml, findClass_of_methodNamed B.named, atoms_spec B.pre, hK, hsz, B.notSynchronized⟩ B.returns (name_of_methodNamed B.named B.method).1 s.heap [] _ hP hD va_S.rf (lv_entry av hlen)
section VCC
variable {p : Program} {l : Launch} {e : Env} {R : Room} {s : State} {m : MethodId} {args : Array Value} {below : List Frame} {meth : Method} {c : Code} {cc : ByteArray} {nL : Nat} {own : String} {Ts : List Cond} {D : va_G} {cl : List vw_C} {tys : List (ClassId × FieldType)} {sb : Nat} {Q : State → Prop} {ws : va_W} {cells slots : Nat} {pc : Nat} {lv : List (Nat × Value)} {rest st : List Value}
/-- from a run to the walk behind it -/
theorem vRunGo {mc ms : Nat} {Post : Option Value → va_W → Prop} {a : Array Value} {H : Heap} {locs : List Loc} {ls : Array Slot} (run : va_Run p l e R s m args below meth c H locs cells slots mc ms (F0 m pc ls st) rest (vQc D cl sb Post a) (vAb sb)) (hS : va_S (vAb sb) s.heap H locs) (hl : lv_has ls nL lv)
    (kk : ∀ (v : Option Value) (ws' : va_W), Post v ws' → vV p l e R s m args below meth c nL D cl sb Q ws' (cells + mc) (slots + ms) (pc + 3) lv (v.toList ++ rest)) : W p l e R s m args below meth c H locs cells slots Q (F0 m pc ls st) := by
  intro T hT Xs
  obtain ⟨v, st₀, t, T', L, h0, X', hL, e1, e2, ⟨⟨v', ws', hv, hp, hP1, hD1⟩, hF⟩, goes⟩ := run T hT Xs
  cases hv
  obtain ⟨k1, k2, k3⟩ := vx_keep (A0 := vAb sb) (A1 := vAb sb) (free := vAb sb) h0 e1 hS (fun _ _ h => h) (fun _ h => h) hL hF
  obtain ⟨t2, a1, b1⟩ := kk v ws' hp T'.heap (locs ++ L) ls (by rw [e1]; exact hP1) hD1 k3 hl T' rfl X'
  exact ⟨t2, goes t2 a1, b1⟩
theorem vCallV (X : vCX p s m args meth c cc nL own Ts D cl tys sb) {y : MethodName} {bytes : ByteArray} {maxL : Nat} {ret : Option FieldType} {fr lo mc ms b index : Nat} {As : List Value} {Post : Option Value → va_W → Prop} (rest : List Value) (hM : vCt l y bytes maxL ret fr lo mc ms D cl tys sb (.ref b :: As) ws Post)
    (hG : GoodIn Ts (wsV own index y.cls y (Cond.code y bytes maxL ret :: vGW))) (hy : y.cls ≠ "java/lang/invoke/MethodHandle" ∧ y.cls ≠ "java/lang/invoke/VarHandle" ∧ (parseMethodDescriptor y.desc).map (fun d => d.parameters.length) = some As.length) (hR : fr + 1 ≤ R.frames ∧ 8 + (maxL + 11) + lo ≤ R.locals)
    (q0 ci : Nat) {q : vw_C} {fs : List Value} (hc : cl[ci]? = some q) (hcq : q.1 = y.cls) (he : ws[q0]? = some (b, .inr (ci, fs))) (hst : st = As.reverse ++ .ref b :: rest) (hroom : (rest.map fun v => v.category).sum ≤ 8) (hd : decode cc pc = .ok (.invokevirtual index, 3)) (hf : cells + mc ≤ R.cells ∧ slots + ms ≤ R.slots)
    (kk : ∀ (v : Option Value) (ws' : va_W), Post v ws' → vV p l e R s m args below meth c nL D cl sb Q ws' (cells + mc) (slots + ms) (pc + 3) lv (v.toList ++ rest)) : vV p l e R s m args below meth c nL D cl sb Q ws cells slots pc lv st := by
  intro H locs ls hP hD hS hl
  obtain ⟨hx, hb, hml, hown, hts, hK, hsb, hlk⟩ := X
  refine vRunGo (lv := lv) (va_runV (g := F0 m pc ls st) (As := As) (rest := rest) (b := b) (C := y.cls) ⟨hx, hb, hml, hown, hts⟩ hM (cwV As.length hts hG rfl rfl rfl ⟨rfl, hy⟩ hR) ⟨vBlind, ?_, fun U hU hW => ⟨rfl, ?_, by rw [hU]; exact hP, hD, va_K.moved hW.alike hK⟩⟩ rfl rfl hl.1 hst (lv_room hroom) hd hf) hS hl kk
  · rw [← hcq]; exact va_recv hK hP hc he
  · rw [hU]; exact Nat.le_trans hsb hS.1
theorem vCallS (X : vCX p s m args meth c cc nL own Ts D cl tys sb) {y : MethodName} {bytes : ByteArray} {maxL : Nat} {ret : Option FieldType} {fr lo mc ms index : Nat} {As : List Value} {Post : Option Value → va_W → Prop} (rest : List Value) (hM : vCt l y bytes maxL ret fr lo mc ms D cl tys sb As ws Post)
    (hG : GoodIn Ts (wsS own index y (Cond.code y bytes maxL ret :: vGW))) (hyo : y.cls = own) (hy : y.cls ≠ "java/lang/invoke/MethodHandle" ∧ y.cls ≠ "java/lang/invoke/VarHandle" ∧ (parseMethodDescriptor y.desc).map (fun d => d.parameters.length) = some As.length) (hR : fr + 1 ≤ R.frames ∧ 8 + (maxL + 11) + lo ≤ R.locals)
    (hst : st = As.reverse ++ rest) (hroom : (rest.map fun v => v.category).sum ≤ 8) (hd : decode cc pc = .ok (.invokestatic index, 3)) (hf : cells + mc ≤ R.cells ∧ slots + ms ≤ R.slots)
    (kk : ∀ (v : Option Value) (ws' : va_W), Post v ws' → vV p l e R s m args below meth c nL D cl sb Q ws' (cells + mc) (slots + ms) (pc + 3) lv (v.toList ++ rest)) : vV p l e R s m args below meth c nL D cl sb Q ws cells slots pc lv st := by
  intro H locs ls hP hD hS hl
  obtain ⟨hx, hb, hml, hown, hts, hK, hsb, hlk⟩ := X
  refine vRunGo (lv := lv) (va_runS (g := F0 m pc ls st) (As := As) (rest := rest) ⟨hx, hb, hml, hown, hts⟩ hM (cwS As.length hts hG rfl rfl rfl ⟨hyo, hy⟩ hR) ⟨vBlind, fun U hU hW => ⟨rfl, ?_, by rw [hU]; exact hP, hD, va_K.moved hW.alike hK⟩⟩ rfl rfl hl.1 hst (lv_room hroom) hd hf) hS hl kk
  rw [hU]; exact Nat.le_trans hsb hS.1
theorem vCallI (X : vCX p s m args meth c cc nL own Ts D cl tys sb) {y : MethodName} {bytes : ByteArray} {maxL : Nat} {fr lo mc ms b index : Nat} {As : List Value} {Post : Option Value → va_W → Prop} (rest : List Value) (hM : vCt l y bytes maxL none fr lo mc ms D cl tys sb (.ref b :: As) ws Post)
    (hG : GoodIn Ts (Cond.code y bytes maxL none :: vGW)) (hn : y.name = "<init>") (h1 : Cond.initialized y.cls ∈ Ts) (h2 : Cond.methodLink own index y ∈ Ts) (h3 : Cond.instanceMethod y ∈ Ts) (hy : y.cls ≠ "java/lang/invoke/MethodHandle" ∧ y.cls ≠ "java/lang/invoke/VarHandle" ∧ (parseMethodDescriptor y.desc).map (fun d => d.parameters.length) = some As.length) (hR : fr + 1 ≤ R.frames ∧ 8 + (maxL + 11) + lo ≤ R.locals)
    (hst : st = As.reverse ++ .ref b :: rest) (hroom : (rest.map fun v => v.category).sum ≤ 8) (hd : decode cc pc = .ok (.invokespecial index, 3)) (hf : cells + mc ≤ R.cells ∧ slots + ms ≤ R.slots)
    (kk : ∀ (v : Option Value) (ws' : va_W), Post v ws' → vV p l e R s m args below meth c nL D cl sb Q ws' (cells + mc) (slots + ms) (pc + 3) lv (v.toList ++ rest)) : vV p l e R s m args below meth c nL D cl sb Q ws cells slots pc lv st := by
  intro H locs ls hP hD hS hl
  obtain ⟨hx, hb, hml, hown, hts, hK, hsb, hlk⟩ := X
  refine vRunGo (lv := lv) (va_runI (g := F0 m pc ls st) (As := As) (rest := rest) (b := b) ⟨hx, hb, hml, hown, hts⟩ hM (cwI As.length hts hG rfl rfl rfl (hts _ h1) (hts _ h2) (hts _ h3) hn hy hR) ⟨vBlind, fun U hU hW => ⟨rfl, ?_, by rw [hU]; exact hP, hD, va_K.moved hW.alike hK⟩⟩ rfl rfl hl.1 hst (lv_room hroom) hd hf) hS hl kk
  rw [hU]; exact Nat.le_trans hsb hS.1
variable {Post : Option Value → va_W → Prop}
theorem vRetI (X : vCX p s m args meth c cc nL own Ts D cl tys sb) (hr : meth.sig.returnType = some .int) {v : Int32} (hd : decode cc pc = .ok (.ireturn, 1)) (hq : Post (some (.int v)) ws) : vV p l e R s m args below meth c nL D cl sb (MQ below (vQc D cl sb Post) args s cells slots (vAb sb)) ws cells slots pc lv [.int v] :=
  fun H locs ls hP hD hS hl => W.iret X.1 X.2.1 hr (fun t ht hW => ⟨⟨_, ws, rfl, hq, by rw [ht]; exact hP, hD⟩, hS.F ht⟩) hS.2.2 hd X.2.2.2.2.2.2.2
theorem vRetZ (X : vCX p s m args meth c cc nL own Ts D cl tys sb) (hr : meth.sig.returnType = some .boolean) {v : Int32} (hn : narrow .boolean (.int v) = .int v) (hd : decode cc pc = .ok (.ireturn, 1)) (hq : Post (some (.int v)) ws) : vV p l e R s m args below meth c nL D cl sb (MQ below (vQc D cl sb Post) args s cells slots (vAb sb)) ws cells slots pc lv [.int v] :=
  fun H locs ls hP hD hS hl => W.zret X.1 X.2.1 hr hn (fun t ht hW => ⟨⟨_, ws, rfl, hq, by rw [ht]; exact hP, hD⟩, hS.F ht⟩) hS.2.2 hd X.2.2.2.2.2.2.2
theorem vRetL (X : vCX p s m args meth c cc nL own Ts D cl tys sb) (hr : meth.sig.returnType = some .long) {v : Int64} (hd : decode cc pc = .ok (.lreturn, 1)) (hq : Post (some (.long v)) ws) : vV p l e R s m args below meth c nL D cl sb (MQ below (vQc D cl sb Post) args s cells slots (vAb sb)) ws cells slots pc lv [.long v] :=
  fun H locs ls hP hD hS hl => W.lret X.1 X.2.1 hr (fun t ht hW => ⟨⟨_, ws, rfl, hq, by rw [ht]; exact hP, hD⟩, hS.F ht⟩) hS.2.2 hd X.2.2.2.2.2.2.2
theorem vRetF (X : vCX p s m args meth c cc nL own Ts D cl tys sb) (hr : meth.sig.returnType = some .float) {v : UInt32} (hd : decode cc pc = .ok (.freturn, 1)) (hq : Post (some (.float v)) ws) : vV p l e R s m args below meth c nL D cl sb (MQ below (vQc D cl sb Post) args s cells slots (vAb sb)) ws cells slots pc lv [.float v] :=
  fun H locs ls hP hD hS hl => W.fret X.1 X.2.1 hr (fun t ht hW => ⟨⟨_, ws, rfl, hq, by rw [ht]; exact hP, hD⟩, hS.F ht⟩) hS.2.2 hd X.2.2.2.2.2.2.2
theorem vRetD (X : vCX p s m args meth c cc nL own Ts D cl tys sb) (hr : meth.sig.returnType = some .double) {v : UInt64} (hd : decode cc pc = .ok (.dreturn, 1)) (hq : Post (some (.double v)) ws) : vV p l e R s m args below meth c nL D cl sb (MQ below (vQc D cl sb Post) args s cells slots (vAb sb)) ws cells slots pc lv [.double v] :=
  fun H locs ls hP hD hS hl => W.dret X.1 X.2.1 hr (fun t ht hW => ⟨⟨_, ws, rfl, hq, by rw [ht]; exact hP, hD⟩, hS.F ht⟩) hS.2.2 hd X.2.2.2.2.2.2.2
theorem vRetA (X : vCX p s m args meth c cc nL own Ts D cl tys sb) {C : String} (hr : meth.sig.returnType = some (.object C)) {v : Nat} (hd : decode cc pc = .ok (.areturn, 1)) (hq : Post (some (.ref v)) ws) : vV p l e R s m args below meth c nL D cl sb (MQ below (vQc D cl sb Post) args s cells slots (vAb sb)) ws cells slots pc lv [.ref v] :=
  fun H locs ls hP hD hS hl => W.aret X.1 X.2.1 hr (Or.inl ⟨_, rfl⟩) (Or.inr ⟨_, rfl⟩) (fun t ht hW => ⟨⟨_, ws, rfl, hq, by rw [ht]; exact hP, hD⟩, hS.F ht⟩) hS.2.2 hd X.2.2.2.2.2.2.2
theorem vRetV (X : vCX p s m args meth c cc nL own Ts D cl tys sb) (hr : meth.sig.returnType = none) (hd : decode cc pc = .ok (.return_, 1)) (hq : Post none ws) : vV p l e R s m args below meth c nL D cl sb (MQ below (vQc D cl sb Post) args s cells slots (vAb sb)) ws cells slots pc lv [] :=
  fun H locs ls hP hD hS hl => W.vret X.1 X.2.1 hr (fun t ht hW => ⟨⟨_, ws, rfl, hq, by rw [ht]; exact hP, hD⟩, hS.F ht⟩) hS.2.2 hd X.2.2.2.2.2.2.2
end VCC
