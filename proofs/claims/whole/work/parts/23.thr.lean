/-! methods that throw: what they need of the start, and what they leave: the world as it was -/
def vEX (sb : Nat) (U : State) : Prop := vx_Zq Bundle.tN "UNASSIGNED_STACK" Bundle.steD (vAb sb) U U.heap ∧ vx_Zq Bundle.tN "SUPPRESSED_SENTINEL" Bundle.listD (vAb sb) U U.heap ∧ (∀ C T, Cond.castable C T ∈ lw_tbl → va_Nw (.castable C T) U) ∧ (∀ x, Cond.declares x ∈ lw_tbl → va_Nw (.declares x) U) ∧ ∀ i tx, Cond.stringRef RX3 i tx ∈ lw_tbl → ∃ a, vk_R RX3 i tx a U
theorem vEX.go {sb : Nat} {s U : State} {H : Heap} {locs : List Loc} (h : vEX sb s) (hW : s.WarmedH U.vm) (hU : U.heap = H) (hS : va_S (vAb sb) s.heap H locs) : vEX sb U := by
  obtain ⟨h1, h2, h3, h4, h5⟩ := h
  refine ⟨?_, ?_, fun C T q => va_Nw.warmC hW (h3 C T q), fun x q => va_Nw.warmD hW (h4 x q), fun i tx q => (h5 i tx q).elim (fun a ha => ⟨a, vk_R.warm hW ha⟩)⟩
  · rw [hU]; exact vx_Zq.moved hW.alike (h1.kept hS.2.1)
  · rw [hU]; exact vx_Zq.moved hW.alike (h2.kept hS.2.1)
theorem vEX.calling {sb : Nat} {U : State} (h : vEX sb U) (g : JFrame) (mk : MethodId) (a : Array Value) : vEX sb (U.calling g mk a) := by
  obtain ⟨h1, h2, h3, h4, h5⟩ := h
  exact ⟨vx_Zq.moved (u := U) (U := U.calling g mk a) (Vm.Alike.refl U.vm) h1, vx_Zq.moved (u := U) (U := U.calling g mk a) (Vm.Alike.refl U.vm) h2, fun C T q => va_Nw.same rfl (u := U) (U := U.calling g mk a) rfl (h3 C T q), fun x q => va_Nw.same rfl (u := U) (U := U.calling g mk a) rfl (h4 x q), fun i tx q => (h5 i tx q).elim (fun b hb => ⟨b, vk_R.same (u := U) (U := U.calling g mk a) rfl hb⟩)⟩
def vPreX (D : va_G) (cl : List vw_C) (tys : List (ClassId × FieldType)) (sb : Nat) (ws : va_W) : State → Prop := fun U => vPre D cl tys sb ws U ∧ vEX sb U
def vXC (D : va_G) (cl : List vw_C) (sb : Nat) (ws : va_W) (E : String) : String → State → State → Prop := fun E' st t => E' = E ∧ va_P D cl ws t.heap ∧ va_D (vAb sb) ws ∧ va_F (vAb sb) st t
def vNo : Array Value → State → Outcome → State → Prop := fun _ _ _ _ => False
def vCtX (l : Launch) (y : MethodName) (cc : ByteArray) (nL : Nat) (ret : Option FieldType) (fr lo mc ms : Nat) (D : va_G) (cl : List vw_C) (tys : List (ClassId × FieldType)) (sb : Nat) (av : List Value) (ws : va_W) (E : String) : Prop :=
  vx_Met l y (Cond.code y cc nL ret :: vGW) ({ frames := fr, cells := mc, slots := ms, locals := lo }) (va_Pc av (vPreX D cl tys sb ws)) vNo (vXC D cl sb ws E) mc ms (vAb sb)
theorem vBlindX {D : va_G} {cl : List vw_C} {tys : List (ClassId × FieldType)} {sb : Nat} {ws : va_W} {av : List Value} : FrameBlind (va_Pc av (vPreX D cl tys sb ws)) := fun a U g mk q => by
  obtain ⟨q0, ⟨q1, qP, qD, qK⟩, qE⟩ := q
  exact ⟨q0, ⟨q1, qP, qD, va_K.moved (u := U) (U := U.calling g mk a) (Vm.Alike.refl U.vm) qK⟩, qE.calling g mk a⟩
theorem vOfX {l : Launch} {y : MethodName} {cc : ByteArray} {nL : Nat} {ret : Option FieldType} {fr lo mc ms : Nat} {D : va_G} {cl : List vw_C} {tys : List (ClassId × FieldType)} {sb : Nat} {av : List Value} {ws : va_W} {E : String} (hy : plainName y.cls = true) (hlen : (lg_sl av).length ≤ nL)
    (body : ∀ (p : Program) (e : Env) (s : State) (m : MethodId) (below : List Frame) (meth : Method) (c : Code), vCX p s m av.toArray meth c cc nL y.cls (Cond.code y cc nL ret :: vGW) D cl tys sb → vEX sb s → (∀ x ∈ c.exceptionTable.toList, False) →
      vV p l e ({ frames := fr, cells := mc, slots := ms, locals := lo }) s m av.toArray below meth c nL D cl sb (vx_MQ below vNo (vXC D cl sb ws E) av.toArray s mc ms (vAb sb)) ws 0 0 0 (lv_args 0 av) []) : vCtX l y cc nL ret fr lo mc ms D cl tys sb av ws E := by
  refine vx_ofW (cc := cc) (maxL := nL) (ret := ret) hy rfl ?_
  intro p e s m args below meth c s₁ B hml hnt hv
  obtain ⟨rfl, ⟨hsz, hP, hD, hK⟩, hE⟩ := hv
  rw [lg_entry_eq]
  exact body p e s m below meth c ⟨B.exec, B.bytes, hml, findClass_of_methodNamed B.named, atoms_spec B.pre, hK, hsz, B.notSynchronized⟩ hE hnt s.heap [] _ hP hD va_S.rf (lv_entry av hlen)
section VXX
variable {p : Program} {l : Launch} {e : Env} {R : Room} {s : State} {m : MethodId} {args : Array Value} {below : List Frame} {meth : Method} {c : Code} {cc : ByteArray} {nL : Nat} {own : String} {Ts : List Cond} {D : va_G} {cl : List vw_C} {tys : List (ClassId × FieldType)} {sb : Nat} {Q : State → Prop} {ws : va_W} {cells slots : Nat} {pc : Nat} {lv : List (Nat × Value)} {rest st : List Value}
theorem vKeptP {ws : va_W} {H : Heap} {t : State} (hP : va_P D cl ws H) (h : ∀ q : Nat, q < H.size → t.heap[q]? = H[q]?) : va_P D cl ws t.heap := va_P.kept hP (fun k q hk => h q.1 ((hP k q hk).lt))
/-- a callee throws and this method has no handler: it goes on -/
theorem vThrown {mc ms mc' ms' : Nat} {E : String} {a : Array Value} {H : Heap} {locs : List Loc} {ls : Array Slot} {Qc : Array Value → State → Outcome → State → Prop} (run : vx_Run p l e R s m args below meth c H locs cells slots mc ms (F0 m pc ls st) rest (vNo a) (vXC D cl sb ws E) (vAb sb)) (hS : va_S (vAb sb) s.heap H locs) (hnt : ∀ x ∈ c.exceptionTable.toList, False) (hlk : meth.locks = false) (hc : cells + mc ≤ mc') (hs : slots + ms ≤ ms') :
    W p l e R s m args below meth c H locs cells slots (vx_MQ below Qc (vXC D cl sb ws E) args s mc' ms' (vAb sb)) (F0 m pc ls st) := by
  intro T hT Xs
  rcases run T hT Xs with ⟨v, st₀, t, T', L, h0, X', hL, e1, e2, hno, -⟩ | ⟨q, st₀, t, T', L, E', ce, h0, X', hL, e1, e2, ⟨rfl, hP1, hD1, hF⟩, hce, hcv, hcl, goes⟩
  · exact hno.elim
  · obtain ⟨k1, k2, k3⟩ := vx_keep (A0 := vAb sb) (A1 := vAb sb) (free := vAb sb) h0 e1 hS (fun _ _ h => h) (fun _ h => h) hL hF
    have w : vx_W p l e R s m args below meth c T'.heap (locs ++ L) (cells + mc) (slots + ms) (vx_MQ below Qc (vXC D cl sb ws E') args s mc' ms' (vAb sb)) (F0 m pc ls rest) q :=
      vx_out (fun x hx => (hnt x hx).elim) hlk (by rw [e1]; exact hce) hcv hcl (fun t2 ht2 _ => ⟨rfl, by rw [ht2, e1]; exact hP1, hD1, k3.F ht2⟩) k3.2.2 hc hs
    obtain ⟨t2, a1, b1⟩ := w T' rfl X'
    exact ⟨t2, goes.trans a1, b1⟩
theorem vCallVT (X : vCX p s m args meth c cc nL own Ts D cl tys sb) (hE : vEX sb s) (hnt : ∀ x ∈ c.exceptionTable.toList, False) {y : MethodName} {bytes : ByteArray} {maxL : Nat} {ret : Option FieldType} {fr lo mc ms mc' ms' b index : Nat} {As : List Value} {E : String} {Qc : Array Value → State → Outcome → State → Prop} (rest : List Value) (hM : vCtX l y bytes maxL ret fr lo mc ms D cl tys sb (.ref b :: As) ws E)
    (hG : GoodIn Ts (wsV own index y.cls y (Cond.code y bytes maxL ret :: vGW))) (hy : y.cls ≠ "java/lang/invoke/MethodHandle" ∧ y.cls ≠ "java/lang/invoke/VarHandle" ∧ (parseMethodDescriptor y.desc).map (fun d => d.parameters.length) = some As.length) (hR : fr + 1 ≤ R.frames ∧ 8 + (maxL + 11) + lo ≤ R.locals)
    (q0 ci : Nat) {q : vw_C} {fs : List Value} (hc : cl[ci]? = some q) (hcq : q.1 = y.cls) (he : ws[q0]? = some (b, .inr (ci, fs))) (hst : st = As.reverse ++ .ref b :: rest) (hroom : (rest.map fun v => v.category).sum ≤ 8) (hd : decode cc pc = .ok (.invokevirtual index, 3)) (hf : cells + mc ≤ R.cells ∧ slots + ms ≤ R.slots) (hcm : cells + mc ≤ mc') (hsm : slots + ms ≤ ms') :
    vV p l e R s m args below meth c nL D cl sb (vx_MQ below Qc (vXC D cl sb ws E) args s mc' ms' (vAb sb)) ws cells slots pc lv st := by
  intro H locs ls hP hD hS hl
  obtain ⟨hx, hb, hml, hown, hts, hK, hsb, hlk⟩ := X
  refine vThrown (vx_runV (g := F0 m pc ls st) (As := As) (rest := rest) (b := b) (C := y.cls) ⟨hx, hb, hml, hown, hts⟩ hM (cwV As.length hts hG rfl rfl rfl ⟨rfl, hy⟩ hR) ⟨vBlindX, ?_, fun U hU hW => ⟨rfl, ⟨?_, by rw [hU]; exact hP, hD, va_K.moved hW.alike hK⟩, hE.go hW hU hS⟩⟩ rfl rfl hl.1 hst (lv_room hroom) hd hf) hS hnt hlk hcm hsm
  · rw [← hcq]; exact va_recv hK hP hc he
  · rw [hU]; exact Nat.le_trans hsb hS.1
theorem vCallST (X : vCX p s m args meth c cc nL own Ts D cl tys sb) (hE : vEX sb s) (hnt : ∀ x ∈ c.exceptionTable.toList, False) {y : MethodName} {bytes : ByteArray} {maxL : Nat} {ret : Option FieldType} {fr lo mc ms mc' ms' index : Nat} {As : List Value} {E : String} {Qc : Array Value → State → Outcome → State → Prop} (rest : List Value) (hM : vCtX l y bytes maxL ret fr lo mc ms D cl tys sb As ws E)
    (hG : GoodIn Ts (wsS own index y (Cond.code y bytes maxL ret :: vGW))) (hyo : y.cls = own) (hy : y.cls ≠ "java/lang/invoke/MethodHandle" ∧ y.cls ≠ "java/lang/invoke/VarHandle" ∧ (parseMethodDescriptor y.desc).map (fun d => d.parameters.length) = some As.length) (hR : fr + 1 ≤ R.frames ∧ 8 + (maxL + 11) + lo ≤ R.locals)
    (hst : st = As.reverse ++ rest) (hroom : (rest.map fun v => v.category).sum ≤ 8) (hd : decode cc pc = .ok (.invokestatic index, 3)) (hf : cells + mc ≤ R.cells ∧ slots + ms ≤ R.slots) (hcm : cells + mc ≤ mc') (hsm : slots + ms ≤ ms') :
    vV p l e R s m args below meth c nL D cl sb (vx_MQ below Qc (vXC D cl sb ws E) args s mc' ms' (vAb sb)) ws cells slots pc lv st := by
  intro H locs ls hP hD hS hl
  obtain ⟨hx, hb, hml, hown, hts, hK, hsb, hlk⟩ := X
  refine vThrown (vx_runS (g := F0 m pc ls st) (As := As) (rest := rest) ⟨hx, hb, hml, hown, hts⟩ hM (cwS As.length hts hG rfl rfl rfl ⟨hyo, hy⟩ hR) ⟨vBlindX, fun U hU hW => ⟨rfl, ⟨?_, by rw [hU]; exact hP, hD, va_K.moved hW.alike hK⟩, hE.go hW hU hS⟩⟩ rfl rfl hl.1 hst (lv_room hroom) hd hf) hS hnt hlk hcm hsm
  rw [hU]; exact Nat.le_trans hsb hS.1
/-- the words that are no good ones, of a throw -/
def vBad : Cond → Bool
  | .castable .. => true
  | .declares .. => true
  | _ => false
theorem vHat {L : List Cond} (hE : vEX sb s) (hts : ∀ w ∈ vGW, w.before args s = true) (h1 : ∀ w ∈ L.filter goodWord, w ∈ vGW) (h2 : ∀ w ∈ L.filter (fun w => !goodWord w), vBad w = true ∧ w ∈ lw_tbl) : ∀ w ∈ L, w.before args s = true := by
  refine vx_hat (B := L.filter (fun w => !goodWord w)) (fun w hw => hts w (h1 w hw)) (fun w hw => hw) (fun w hw => ?_)
  obtain ⟨q1, q2⟩ := h2 w hw
  cases w <;> first | (simp [vBad] at q1; done) | exact va_Nw.use rfl (hE.2.2.1 _ _ q2) | exact va_Nw.use rfl (hE.2.2.2.1 _ q2)
theorem vThrowS {y0 : MethodName} {r0 : Option FieldType} (X : vCX p s m args meth c cc nL RX3 (Cond.code y0 cc nL r0 :: vGW) D cl tys sb) (hE : vEX sb s) (hl : l.stackTraces = false) (hnt : ∀ x ∈ c.exceptionTable.toList, False) {cls text : String} {ik is ic mc ms : Nat} {Qc : Array Value → State → Outcome → State → Prop} (hcls : Bundle.fit cls = true) (hk : Cond.classLink RX3 ik cls ∈ vGW) (hini : Cond.initialized cls ∈ vGW) (hstr : Cond.stringRef RX3 is text ∈ lw_tbl)
    (h1 : ∀ w ∈ (vx_atS RX3 ic cls ["java/lang/RuntimeException", "java/lang/Exception"]).filter goodWord, w ∈ vGW) (h2 : ∀ w ∈ (vx_atS RX3 ic cls ["java/lang/RuntimeException", "java/lang/Exception"]).filter (fun w => !goodWord w), vBad w = true ∧ w ∈ lw_tbl)
    (hg : ∀ w ∈ Cond.classLink RX3 ik cls :: Cond.initialized cls :: vx_atS RX3 ic cls ["java/lang/RuntimeException", "java/lang/Exception"], vx_ot w = true)
    (d0 : decode cc pc = .ok (.new ik, 3)) (d3 : decode cc (pc + 3) = .ok (.dup, 1)) (d4 : decode cc (pc + 4) = .ok (.ldc is, 2)) (d6 : decode cc (pc + 6) = .ok (.invokespecial ic, 3)) (d9 : decode cc (pc + 9) = .ok (.athrow, 1))
    (hfr : 5 < R.frames) (hlo : (rest.map fun v => v.category).sum + 82 ≤ R.locals) (hRc : cells + 1 ≤ R.cells) (hRs : slots + 6 ≤ R.slots) (hc : cells + 1 ≤ mc) (hs : slots + 6 ≤ ms) :
    vV p l e R s m args below meth c nL D cl sb (vx_MQ below Qc (vXC D cl sb ws cls) args s mc ms (vAb sb)) ws cells slots pc lv rest := by
  intro H locs ls hP hD hS hls
  have hts : ∀ w ∈ vGW, w.before args s = true := fun w hw => X.2.2.2.2.1 w (List.mem_cons_of_mem _ hw)
  obtain ⟨sa, hsa⟩ := hE.2.2.2.2 is text hstr
  exact vx_throwS (names := ["java/lang/RuntimeException", "java/lang/Exception"]) (A := vAb sb) X.1 X.2.1 hl X.2.2.2.1 hcls (by decide +kernel) (hts _ hk) (hts _ hini) hsa (vHat hE hts h1 h2) hg hE.1 hE.2.1 hS (by rw [X.2.2.1]; exact hls.1) d0 d3 d4 d6 d9 (fun x hx => (hnt x hx).elim) hfr hlo hRc hRs X.2.2.2.2.2.2.2
    (fun t ha hz hk2 => ⟨rfl, vKeptP hP hk2, hD, ⟨Nat.le_trans hS.1 hz, fun q q1 q2 => (hk2 q (Nat.lt_of_lt_of_le q1 hS.1)).trans (hS.2.1 q q1 q2)⟩⟩) hS.2.2 hc hs
end VXX
