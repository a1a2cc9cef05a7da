/-! the constructor: it makes arrays of references -/
def vAO (U : State) : Prop := va_AO "Bytewell$Row" U ∧ va_AO "Bytewell$Gatherer" U ∧ va_AO "Bytewell$Reader" U
theorem vAO.moved {u U : State} (h : u.vm.Alike U.vm) (q : vAO u) : vAO U := ⟨q.1.moved h, q.2.1.moved h, q.2.2.moved h⟩
def vPreO (D : va_G) (cl : List vw_C) (tys : List (ClassId × FieldType)) (sb : Nat) (ws : va_W) : State → Prop := fun U => vPre D cl tys sb ws U ∧ vAO U
def vCtO (l : Launch) (y : MethodName) (cc : ByteArray) (nL : Nat) (ret : Option FieldType) (fr lo mc ms : Nat) (D : va_G) (cl : List vw_C) (tys : List (ClassId × FieldType)) (sb : Nat) (av : List Value) (ws : va_W) (Post : Option Value → va_W → Prop) : Prop :=
  Met l y (Cond.code y cc nL ret :: vGW) ({ frames := fr, cells := mc, slots := ms, locals := lo }) (va_Pc av (vPreO D cl tys sb ws)) (vQc D cl sb Post) mc ms (vAb sb)
theorem vBlindO {D : va_G} {cl : List vw_C} {tys : List (ClassId × FieldType)} {sb : Nat} {ws : va_W} {av : List Value} : FrameBlind (va_Pc av (vPreO D cl tys sb ws)) := fun a U g mk q => by
  obtain ⟨q0, ⟨q1, qP, qD, qK⟩, qO⟩ := q
  exact ⟨q0, ⟨q1, qP, qD, va_K.moved (u := U) (U := U.calling g mk a) (Vm.Alike.refl U.vm) qK⟩, vAO.moved (u := U) (U := U.calling g mk a) (Vm.Alike.refl U.vm) qO⟩
theorem vOfO {l : Launch} {y : MethodName} {cc : ByteArray} {nL : Nat} {ret : Option FieldType} {fr lo mc ms : Nat} {D : va_G} {cl : List vw_C} {tys : List (ClassId × FieldType)} {sb : Nat} {av : List Value} {ws : va_W} {Post : Option Value → va_W → Prop} (hy : plainName y.cls = true) (hlen : (lg_sl av).length ≤ nL)
    (body : ∀ (p : Program) (e : Env) (s : State) (m : MethodId) (below : List Frame) (meth : Method) (c : Code), vCX p s m av.toArray meth c cc nL y.cls (Cond.code y cc nL ret :: vGW) D cl tys sb → meth.sig.returnType = ret → meth.name = y.name → vAO s →
      vV p l e ({ frames := fr, cells := mc, slots := ms, locals := lo }) s m av.toArray below meth c nL D cl sb (MQ below (vQc D cl sb Post) av.toArray s mc ms (vAb sb)) ws 0 0 0 (lv_args 0 av) []) : vCtO l y cc nL ret fr lo mc ms D cl tys sb av ws Post := by
  refine Met.ofW (cc := cc) (maxL := nL) (ret := ret) hy rfl ?_
  intro p e s m args below meth c s₁ B hml hv
  obtain ⟨rfl, ⟨hsz, hP, hD, hK⟩, hO⟩ := hv
  rw [lg_entry_eq]
  exact body p e s m below meth c ⟨B.exec, B.bytes, hml, findClass_of_methodNamed B.named, atoms_spec B.pre, hK, hsz, B.notSynchronized⟩ B.returns (name_of_methodNamed B.named B.method).1 hO s.heap [] _ hP hD va_S.rf (lv_entry av hlen)
section VCTOR
variable {p : Program} {l : Launch} {e : Env} {R : Room} {s : State} {m : MethodId} {args : Array Value} {below : List Frame} {meth : Method} {c : Code} {cc : ByteArray} {nL : Nat} {own : String} {Ts : List Cond} {D : va_G} {cl : List vw_C} {tys : List (ClassId × FieldType)} {sb : Nat} {Q : State → Prop} {ws : va_W} {L : List Nat} {f : Nat → va_E} {cells slots : Nat} {pc : Nat} {lv : List (Nat × Value)} {rest st : List Value}
theorem vCallIO (X : vCX p s m args meth c cc nL own Ts D cl tys sb) (hO : vAO s) {y : MethodName} {bytes : ByteArray} {maxL : Nat} {fr lo mc ms b index : Nat} {As : List Value} {Post : Option Value → va_W → Prop} (rest : List Value) (hM : vCtO l y bytes maxL none fr lo mc ms D cl tys sb (.ref b :: As) ws Post)
    (hG : GoodIn Ts (Cond.code y bytes maxL none :: vGW)) (hn : y.name = "<init>") (h1 : Cond.initialized y.cls ∈ Ts) (h2 : Cond.methodLink own index y ∈ Ts) (h3 : Cond.instanceMethod y ∈ Ts) (hy : y.cls ≠ "java/lang/invoke/MethodHandle" ∧ y.cls ≠ "java/lang/invoke/VarHandle" ∧ (parseMethodDescriptor y.desc).map (fun d => d.parameters.length) = some As.length) (hR : fr + 1 ≤ R.frames ∧ 8 + (maxL + 11) + lo ≤ R.locals)
    (hst : st = As.reverse ++ .ref b :: rest) (hroom : (rest.map fun v => v.category).sum ≤ 8) (hd : decode cc pc = .ok (.invokespecial index, 3)) (hf : cells + mc ≤ R.cells ∧ slots + ms ≤ R.slots)
    (kk : ∀ (v : Option Value) (ws' : va_W), Post v ws' → vV p l e R s m args below meth c nL D cl sb Q ws' (cells + mc) (slots + ms) (pc + 3) lv (v.toList ++ rest)) : vV p l e R s m args below meth c nL D cl sb Q ws cells slots pc lv st := by
  intro H locs ls hP hD hS hl
  obtain ⟨hx, hb, hml, hown, hts, hK, hsb, hlk⟩ := X
  refine vRunGo (lv := lv) (va_runI (g := F0 m pc ls st) (As := As) (rest := rest) (b := b) ⟨hx, hb, hml, hown, hts⟩ hM (cwI As.length hts hG rfl rfl rfl (hts _ h1) (hts _ h2) (hts _ h3) hn hy hR) ⟨vBlindO, fun U hU hW => ⟨rfl, ⟨?_, by rw [hU]; exact hP, hD, va_K.moved hW.alike hK⟩, hO.moved hW.alike⟩⟩ rfl rfl hl.1 hst (lv_room hroom) hd hf) hS hl kk
  rw [hU]; exact Nat.le_trans hsb hS.1
theorem vpAnew (X : vCX p s m args meth c cc nL own Ts D cl tys sb) {index : Nat} {C : String} (hlink : Cond.classLink own index C ∈ Ts) (hover : va_AO C s) {cA : ClassId} (t0 : Nat) (ht : tys[t0]? = some (cA, .object C)) {n : Int32} {N' : Nat} (hn : n = nI N') (hN : N' ≤ 65536) (hcells : cells + 1 ≤ R.cells) (hslots : slots + N' ≤ R.slots) (hd : decode cc pc = .ok (.anewarray index, 3))
    (kk : ∀ q : Nat, q ∉ L → vV p l e R s m args below meth c nL D cl sb Q (va_pl (L ++ [q]) (va_up f q (.inl (cA, N', .inr (.inr (.inr (.inr (fun _ => none)))))))) (cells + 1) (slots + N') (pc + 3) lv (.ref q :: rest)) : vV p l e R s m args below meth c nL D cl sb Q (va_pl L f) cells slots pc lv (.int n :: rest) := by
  subst hn
  intro H locs ls hP hD hS hl
  refine va_newq (D := D) (C := C) X.1 X.2.1 X.2.2.2.1 (X.2.2.2.2.1 _ hlink) hover X.2.2.2.2.2.1 hP hD hS (fun q h => Nat.le_trans X.2.2.2.2.2.2.1 h) (fun q => absurd q (nI_pos (by omega))) (nI_clamp (by omega)) (by omega) hcells hslots hd (fun q cA' H1 hK1 hP1 hD1 hS1 => ?_)
  have e : cA' = cA := by
    have h1 := hK1.2 tys.length (cA', .object C) (by rw [List.getElem?_append_right (Nat.le_refl _), Nat.sub_self]; rfl)
    have hlt := (List.getElem?_eq_some_iff.mp ht).1
    have h2 := hK1.2 t0 (cA, .object C) (by rw [List.getElem?_append_left hlt]; exact ht)
    exact va_RA_one h1.2 h2.2
  subst e
  have hq : q ∉ L := va_pl_fresh2 (X := []) hD1
  have k1 := kk q hq
  rw [← va_pl_push hq] at k1
  exact k1 H1 locs ls hP1 hD1 hS1 hl
end VCTOR
