def lNext (p : Program) (l : Launch) (e : Env) (s : State) (m : MethodId) (below : List Frame) (meth : Method) (c : Code) (D : va_G) (k : Nat → ClassId) (o : Nat → Nat) (b x ou od : Nat) (Q : State → Prop) (i cells slots : Nat) : Prop :=
  ∀ (L : List Nat) (f : Nat → va_E) (B : Nat → Nat → Int32) (Ln Rm : Nat → Nat) (Rd : Nat → Option Nat) (Pl Mk : Nat → Nat) (G : Nat → Nat → Int32) (Sz : Nat → Nat) (Kp : Nat → Int32) (th : Int32) (gL : Nat → Int64) (gD : Nat → UInt64), lInv k o ou od x L f B Ln Rm Rd Pl Mk G Sz Kp th gL gD →
    vV p l e room_1 s m #[.ref b] below meth c 9 D vCl s.heap.size Q (va_pl L f) (cells + 8) (slots + 800) 2499 [(5, .int (nI i)), (4, .ref od), (3, .ref ou), (2, .ref (o 0)), (1, .ref x), (0, .ref b)] []
theorem lZ.mem {k : Nat → ClassId} {o : Nat → Nat} {ou od x : Nat} {L : List Nat} {f : Nat → va_E} {B : Nat → Nat → Int32} {Ln Rm : Nat → Nat} {Rd : Nat → Option Nat} {Pl Mk : Nat → Nat} {G : Nat → Nat → Int32} {Sz : Nat → Nat} {Kp : Nat → Int32} {th : Int32} {gL : Nat → Int64} {gD : Nat → UInt64} (h : lInv k o ou od x L f B Ln Rm Rd Pl Mk G Sz Kp th gL gD) : ∀ a, lZ o ou od a → a ∈ L := fun a ha => by
  rcases ha with ⟨j, hj, e⟩ | e | e
  · rw [e]; exact h.2.1.1 j hj
  · rw [e]; exact h.2.2.1
  · rw [e]; exact h.2.2.2.1
theorem nkk {n : Nat} (h : ¬ n = 0) (hn : n ≤ 9) : ¬ nI n = 0 := fun q => h ((nI_eq (b := 0) (by omega) (by decide)).mp q)
set_option maxHeartbeats 4000000 in
theorem lw_make {p : Program} {e : Env} {s : State} {m : MethodId} {below : List Frame} {meth : Method} {c : Code} (l : Launch) {D : va_G} {k : Nat → ClassId} {o : Nat → Nat} {b LL x ou od : Nat} {xs : Nat → Int32} {Q : State → Prop} (X : vCX p s m #[.ref b] meth c cL_law 9 RL (Cond.initialized "Bytewell" :: vGW) D vCl (vTy k) s.heap.size) (hE : vEL s.heap.size s) (hl : l.stackTraces = false) (hX : va_X b LL xs s s.heap) (hbl : b < s.heap.size) (hLL : LL ≤ 3072) {i : Nat} (hi : i + 6 ≤ LL) {cells slots : Nat} (hc : cells + 8 ≤ 603072) (hs : slots + 800 ≤ 7219306) {L : List Nat} {f : Nat → va_E} {B : Nat → Nat → Int32} {Ln Rm : Nat → Nat} {Rd : Nat → Option Nat} {Pl Mk : Nat → Nat} {G : Nat → Nat → Int32} {Sz : Nat → Nat} {Kp : Nat → Int32} {th : Int32} {gL : Nat → Int64} {gD : Nat → UInt64} (h : lInv k o ou od x L f B Ln Rm Rd Pl Mk G Sz Kp th gL gD) (kk : lNext p l e s m below meth c D k o b x ou od Q i cells slots) :
    vV p l e room_1 s m #[.ref b] below meth c 9 D vCl s.heap.size Q (va_pl L f) cells slots 196 [(5, .int (nI i)), (4, .ref od), (3, .ref ou), (2, .ref (o 0)), (1, .ref x), (0, .ref b)] [] := by
  have hZ := lZ.mem h
  obtain ⟨hi0, hm0, hou, hod, fou, fod, ho1, ho2, ho3⟩ := h
  obtain ⟨kk9, v, B', Ln', Rm', Rd', Pl', Mk', G', Sz', hkk, hct, hm9⟩ := lc_make l D k s.heap.size L f (lZ o ou od) x B Ln Rm Rd Pl Mk G Sz hl hi0 hZ ou gL hou (Or.inr (Or.inl rfl)) fou (xs (i + 1)) (xs (i + 2))
  refine vAloadN X dL_law_196 4 rfl ?_
  refine vAloadN X dL_law_197 5 rfl ?_
  refine vIload X dL_law_198 0 rfl ?_
  refine vIconst X dL_law_200 (v := nI 1) (by decide) ?_
  refine vIadd X dL_law_201 (nI_add i 1) ?_
  refine vSld X hX hbl (Nat.le_refl _) hLL (j := i + 1) rfl (by omega) dL_law_202 ?_
  refine vAloadN X dL_law_203 5 rfl ?_
  refine vIload X dL_law_204 0 rfl ?_
  refine vIconst X dL_law_206 (v := nI 2) (by decide) ?_
  refine vIadd X dL_law_207 (nI_add i 2) ?_
  refine vSld X hX hbl (Nat.le_refl _) hLL (j := i + 2) rfl (by omega) dL_law_208 ?_
  refine vAloadN X dL_law_209 2 rfl ?_
  refine vCallL X hE [] hct (vGL q_254 q_255 q_23 q_256) rfl ⟨by decide, by decide, (show _ = some 4 from by decide +kernel)⟩ ⟨(Nat.le_of_ble_eq_true rfl), (Nat.le_of_ble_eq_true rfl)⟩ rfl (Nat.le_of_ble_eq_true rfl) dL_law_210 ⟨(show cells + 2 ≤ 603072 by omega), (show slots + 257 ≤ 7219306 by omega)⟩ (fun v9 w9 hp9 => ?_)
  obtain ⟨L1, f1, g1, rfl, rfl, hk1, fo1, hg1, hi1⟩ := hp9
  refine vIstore X [(6, .int (nI kk9)), (5, .int (nI i)), (4, .ref od), (3, .ref ou), (2, .ref (o 0)), (1, .ref x), (0, .ref b)] dL_law_213 (by decide) rfl ?_
  have hm1 : mIn k o L1 f1 B Ln Rm Rd Pl Mk G Sz Kp th := hm0.kp (fun a ha => (hk1 a ha).1) (fun j hj => (hk1 _ (hm0.1 j hj)).2 (Or.inl ⟨j, hj, rfl⟩) (fun e => ho1 j hj e.symm))
  obtain ⟨Kp', hm8⟩ := hm9 o Kp th
  have hmc := hm1.call hm8
  refine vAloadN X dL_law_215 4 rfl ?_
  refine vAloadN X dL_law_216 6 rfl ?_
  refine vIload X dL_law_217 1 rfl ?_
  refine vIconst X dL_law_219 (v := nI 1) (by decide) ?_
  refine vIadd X dL_law_220 (nI_add i 1) ?_
  refine vSld X hX hbl (Nat.le_refl _) hLL (j := i + 1) rfl (by omega) dL_law_221 ?_
  refine vAloadN X dL_law_222 6 rfl ?_
  refine vIload X dL_law_223 1 rfl ?_
  refine vIconst X dL_law_225 (v := nI 2) (by decide) ?_
  refine vIadd X dL_law_226 (nI_add i 2) ?_
  refine vSld X hX hbl (Nat.le_refl _) hLL (j := i + 2) rfl (by omega) dL_law_227 ?_
  obtain ⟨ix, hix⟩ := vp_ix (f := f1) (hm1.1 0 (by decide))
  have hfo : f1 (o 0) = .inr (4, _) := hm1.2.2 0 (by decide)
  refine vCallV X [] hmc (vGV q_778 q_779 q_780 q_29 q_781) ⟨by decide, by decide, (show _ = some 2 from by decide +kernel)⟩ ⟨(Nat.le_of_ble_eq_true rfl), (Nat.le_of_ble_eq_true rfl)⟩ ix 4 rfl rfl (hix.trans (by rw [hfo])) rfl (Nat.le_of_ble_eq_true rfl) dL_law_228 ⟨(show cells + 2 + 0 ≤ 603072 by omega), (show slots + 257 + 0 ≤ 7219306 by omega)⟩ (fun v8 w8 hp8 => ?_)
  obtain ⟨rfl, f2, rfl, hk2, hm2⟩ := hp8
  refine vIstore X [(7, .int v), (6, .int (nI kk9)), (5, .int (nI i)), (4, .ref od), (3, .ref ou), (2, .ref (o 0)), (1, .ref x), (0, .ref b)] dL_law_231 (by decide) rfl ?_
  have hmt := hm2.call (fun pl => mm_thrown l D k o pl s.heap.size B' Ln' Rm' Rd' Pl' Mk' G' Sz' Kp' (nI kk9))
  refine vAloadN X dL_law_233 5 rfl ?_
  obtain ⟨ixt, hixt⟩ := vp_ix (f := f2) (hm2.1 0 (by decide))
  have hfot : f2 (o 0) = .inr (4, _) := hm2.2.2 0 (by decide)
  refine vCallV X [] hmt (vGV q_774 q_775 q_776 q_29 q_777) ⟨by decide, by decide, (show _ = some 0 from by decide +kernel)⟩ ⟨(Nat.le_of_ble_eq_true rfl), (Nat.le_of_ble_eq_true rfl)⟩ ixt 4 rfl rfl (hixt.trans (by rw [hfot])) rfl (Nat.le_of_ble_eq_true rfl) dL_law_234 ⟨(show cells + 2 + 0 + 0 ≤ 603072 by omega), (show slots + 257 + 0 + 0 ≤ 7219306 by omega)⟩ (fun v8 w8 hp8 => ?_)
  obtain ⟨rfl, f3, rfl, hk3, hm3⟩ := hp8
  refine vIload X dL_law_237 1 rfl ?_
  refine vIcmp_eqT X 244 dL_law_239 (by decide) rfl ?_
  have fo3 : f3 ou = .inl (k 5, 1, .inr (.inl g1)) := (hk3 ou ho1).trans ((hk2 ou ho1).trans fo1)
  have fo4 := (hk3 od ho2).trans ((hk2 od ho2).trans (((hk1 od hod).2 (Or.inr (Or.inr rfl)) (Ne.symm ho3)).trans fod))
  have hfin : lInv k o ou od x L1 f3 B' Ln' Rm' Rd' Pl' Mk' G' Sz' Kp' (nI kk9) g1 gD := ⟨hi1.foreign (fun t ht => ⟨ht, fun hz => (hk3 t (fun j hj e => hz (Or.inl ⟨j, hj, e⟩))).trans (hk2 t (fun j hj e => hz (Or.inl ⟨j, hj, e⟩)))⟩), hm3, (hk1 ou hou).1, (hk1 od hod).1, fo3, fo4, ho1, ho2, ho3⟩
  refine vIload X dL_law_244 1 rfl ?_
  by_cases h0 : kk9 = 0
  rotate_left
  · refine vIf_neT X 261 dL_law_246 (by decide) (nkk h0 (by omega)) ?_
    refine vGoto X 2499 dL_law_261 (by decide) ?_
    refine vSub [2, 3, 4, 5, 6, 7] [(5, .int (nI i)), (4, .ref od), (3, .ref ou), (2, .ref (o 0)), (1, .ref x), (0, .ref b)] rfl ?_
    refine vWiden (cells + 8) (slots + 800) (by omega) (by omega) ?_
    exact kk _ _ _ _ _ _ _ _ _ _ _ _ _ _ hfin
  · refine vIf_neF X 261 dL_law_246 (by decide) (by rw [h0]; rfl) ?_
    refine vAloadN X dL_law_249 4 rfl ?_
    refine vIconst X dL_law_250 (v := nI 0) (by decide) ?_
    refine vpLaload X (hk1 ou hou).1 fo3 5 rfl rfl (by decide) (by decide) (hg1 h0) dL_law_251 ?_
    refine vIload X dL_law_252 0 rfl ?_
    refine vI2l X dL_law_254 (v := v.toInt64) rfl ?_
    refine vLcmp X dL_law_255 ?_
    refine vIf_eqT X 261 dL_law_256 (by decide) (lgc_self _) ?_
    refine vGoto X 2499 dL_law_261 (by decide) ?_
    refine vSub [2, 3, 4, 5, 6, 7] [(5, .int (nI i)), (4, .ref od), (3, .ref ou), (2, .ref (o 0)), (1, .ref x), (0, .ref b)] rfl ?_
    refine vWiden (cells + 8) (slots + 800) (by omega) (by omega) ?_
    exact kk _ _ _ _ _ _ _ _ _ _ _ _ _ _ hfin
set_option maxHeartbeats 4000000 in
theorem lw_lend {p : Program} {e : Env} {s : State} {m : MethodId} {below : List Frame} {meth : Method} {c : Code} (l : Launch) {D : va_G} {k : Nat → ClassId} {o : Nat → Nat} {b LL x ou od : Nat} {xs : Nat → Int32} {Q : State → Prop} (X : vCX p s m #[.ref b] meth c cL_law 9 RL (Cond.initialized "Bytewell" :: vGW) D vCl (vTy k) s.heap.size) (hE : vEL s.heap.size s) (hl : l.stackTraces = false) (hX : va_X b LL xs s s.heap) (hbl : b < s.heap.size) (hLL : LL ≤ 3072) {i : Nat} (hi : i + 6 ≤ LL) {cells slots : Nat} (hc : cells + 8 ≤ 603072) (hs : slots + 800 ≤ 7219306) {L : List Nat} {f : Nat → va_E} {B : Nat → Nat → Int32} {Ln Rm : Nat → Nat} {Rd : Nat → Option Nat} {Pl Mk : Nat → Nat} {G : Nat → Nat → Int32} {Sz : Nat → Nat} {Kp : Nat → Int32} {th : Int32} {gL : Nat → Int64} {gD : Nat → UInt64} (h : lInv k o ou od x L f B Ln Rm Rd Pl Mk G Sz Kp th gL gD) (kk : lNext p l e s m below meth c D k o b x ou od Q i cells slots) :
    vV p l e room_1 s m #[.ref b] below meth c 9 D vCl s.heap.size Q (va_pl L f) cells slots 264 [(5, .int (nI i)), (4, .ref od), (3, .ref ou), (2, .ref (o 0)), (1, .ref x), (0, .ref b)] [] := by
  have hZ := lZ.mem h
  obtain ⟨hi0, hm0, hou, hod, fou, fod, ho1, ho2, ho3⟩ := h
  obtain ⟨kk9, v, B', Ln', Rm', Rd', Pl', Mk', G', Sz', hkk, hct, hm9⟩ := lc_lend l D k s.heap.size L f (lZ o ou od) x B Ln Rm Rd Pl Mk G Sz hl hi0 hZ ou gL hou (Or.inr (Or.inl rfl)) fou (xs (i + 1)) (xs (i + 2))
  refine vAloadN X dL_law_264 4 rfl ?_
  refine vAloadN X dL_law_265 5 rfl ?_
  refine vIload X dL_law_266 0 rfl ?_
  refine vIconst X dL_law_268 (v := nI 1) (by decide) ?_
  refine vIadd X dL_law_269 (nI_add i 1) ?_
  refine vSld X hX hbl (Nat.le_refl _) hLL (j := i + 1) rfl (by omega) dL_law_270 ?_
  refine vAloadN X dL_law_271 5 rfl ?_
  refine vIload X dL_law_272 0 rfl ?_
  refine vIconst X dL_law_274 (v := nI 2) (by decide) ?_
  refine vIadd X dL_law_275 (nI_add i 2) ?_
  refine vSld X hX hbl (Nat.le_refl _) hLL (j := i + 2) rfl (by omega) dL_law_276 ?_
  refine vAloadN X dL_law_277 2 rfl ?_
  refine vCallL X hE [] hct (vGL q_378 q_379 q_23 q_380) rfl ⟨by decide, by decide, (show _ = some 4 from by decide +kernel)⟩ ⟨(Nat.le_of_ble_eq_true rfl), (Nat.le_of_ble_eq_true rfl)⟩ rfl (Nat.le_of_ble_eq_true rfl) dL_law_278 ⟨(show cells + 1 ≤ 603072 by omega), (show slots + 6 ≤ 7219306 by omega)⟩ (fun v9 w9 hp9 => ?_)
  obtain ⟨L1, f1, g1, rfl, rfl, hk1, fo1, hg1, hi1⟩ := hp9
  refine vIstore X [(6, .int (nI kk9)), (5, .int (nI i)), (4, .ref od), (3, .ref ou), (2, .ref (o 0)), (1, .ref x), (0, .ref b)] dL_law_281 (by decide) rfl ?_
  have hm1 : mIn k o L1 f1 B Ln Rm Rd Pl Mk G Sz Kp th := hm0.kp (fun a ha => (hk1 a ha).1) (fun j hj => (hk1 _ (hm0.1 j hj)).2 (Or.inl ⟨j, hj, rfl⟩) (fun e => ho1 j hj e.symm))
  obtain ⟨Kp', hm8⟩ := hm9 o Kp th
  have hmc := hm1.call hm8
  refine vAloadN X dL_law_283 4 rfl ?_
  refine vAloadN X dL_law_284 6 rfl ?_
  refine vIload X dL_law_285 1 rfl ?_
  refine vIconst X dL_law_287 (v := nI 1) (by decide) ?_
  refine vIadd X dL_law_288 (nI_add i 1) ?_
  refine vSld X hX hbl (Nat.le_refl _) hLL (j := i + 1) rfl (by omega) dL_law_289 ?_
  refine vAloadN X dL_law_290 6 rfl ?_
  refine vIload X dL_law_291 1 rfl ?_
  refine vIconst X dL_law_293 (v := nI 2) (by decide) ?_
  refine vIadd X dL_law_294 (nI_add i 2) ?_
  refine vSld X hX hbl (Nat.le_refl _) hLL (j := i + 2) rfl (by omega) dL_law_295 ?_
  obtain ⟨ix, hix⟩ := vp_ix (f := f1) (hm1.1 0 (by decide))
  have hfo : f1 (o 0) = .inr (4, _) := hm1.2.2 0 (by decide)
  refine vCallV X [] hmc (vGV q_802 q_803 q_804 q_29 q_805) ⟨by decide, by decide, (show _ = some 2 from by decide +kernel)⟩ ⟨(Nat.le_of_ble_eq_true rfl), (Nat.le_of_ble_eq_true rfl)⟩ ix 4 rfl rfl (hix.trans (by rw [hfo])) rfl (Nat.le_of_ble_eq_true rfl) dL_law_296 ⟨(show cells + 1 + 0 ≤ 603072 by omega), (show slots + 6 + 0 ≤ 7219306 by omega)⟩ (fun v8 w8 hp8 => ?_)
  obtain ⟨rfl, f2, rfl, hk2, hm2⟩ := hp8
  refine vIstore X [(7, .int v), (6, .int (nI kk9)), (5, .int (nI i)), (4, .ref od), (3, .ref ou), (2, .ref (o 0)), (1, .ref x), (0, .ref b)] dL_law_299 (by decide) rfl ?_
  have hmt := hm2.call (fun pl => mm_thrown l D k o pl s.heap.size B' Ln' Rm' Rd' Pl' Mk' G' Sz' Kp' (nI kk9))
  refine vAloadN X dL_law_301 5 rfl ?_
  obtain ⟨ixt, hixt⟩ := vp_ix (f := f2) (hm2.1 0 (by decide))
  have hfot : f2 (o 0) = .inr (4, _) := hm2.2.2 0 (by decide)
  refine vCallV X [] hmt (vGV q_774 q_775 q_776 q_29 q_777) ⟨by decide, by decide, (show _ = some 0 from by decide +kernel)⟩ ⟨(Nat.le_of_ble_eq_true rfl), (Nat.le_of_ble_eq_true rfl)⟩ ixt 4 rfl rfl (hixt.trans (by rw [hfot])) rfl (Nat.le_of_ble_eq_true rfl) dL_law_302 ⟨(show cells + 1 + 0 + 0 ≤ 603072 by omega), (show slots + 6 + 0 + 0 ≤ 7219306 by omega)⟩ (fun v8 w8 hp8 => ?_)
  obtain ⟨rfl, f3, rfl, hk3, hm3⟩ := hp8
  refine vIload X dL_law_305 1 rfl ?_
  refine vIcmp_eqT X 312 dL_law_307 (by decide) rfl ?_
  have fo3 : f3 ou = .inl (k 5, 1, .inr (.inl g1)) := (hk3 ou ho1).trans ((hk2 ou ho1).trans fo1)
  have fo4 := (hk3 od ho2).trans ((hk2 od ho2).trans (((hk1 od hod).2 (Or.inr (Or.inr rfl)) (Ne.symm ho3)).trans fod))
  have hfin : lInv k o ou od x L1 f3 B' Ln' Rm' Rd' Pl' Mk' G' Sz' Kp' (nI kk9) g1 gD := ⟨hi1.foreign (fun t ht => ⟨ht, fun hz => (hk3 t (fun j hj e => hz (Or.inl ⟨j, hj, e⟩))).trans (hk2 t (fun j hj e => hz (Or.inl ⟨j, hj, e⟩)))⟩), hm3, (hk1 ou hou).1, (hk1 od hod).1, fo3, fo4, ho1, ho2, ho3⟩
  refine vIload X dL_law_312 1 rfl ?_
  by_cases h0 : kk9 = 0
  rotate_left
  · refine vIf_neT X 329 dL_law_314 (by decide) (nkk h0 (by omega)) ?_
    refine vGoto X 2499 dL_law_329 (by decide) ?_
    refine vSub [2, 3, 4, 5, 6, 7] [(5, .int (nI i)), (4, .ref od), (3, .ref ou), (2, .ref (o 0)), (1, .ref x), (0, .ref b)] rfl ?_
    refine vWiden (cells + 8) (slots + 800) (by omega) (by omega) ?_
    exact kk _ _ _ _ _ _ _ _ _ _ _ _ _ _ hfin
  · refine vIf_neF X 329 dL_law_314 (by decide) (by rw [h0]; rfl) ?_
    refine vAloadN X dL_law_317 4 rfl ?_
    refine vIconst X dL_law_318 (v := nI 0) (by decide) ?_
    refine vpLaload X (hk1 ou hou).1 fo3 5 rfl rfl (by decide) (by decide) (hg1 h0) dL_law_319 ?_
    refine vIload X dL_law_320 0 rfl ?_
    refine vI2l X dL_law_322 (v := v.toInt64) rfl ?_
    refine vLcmp X dL_law_323 ?_
    refine vIf_eqT X 329 dL_law_324 (by decide) (lgc_self _) ?_
    refine vGoto X 2499 dL_law_329 (by decide) ?_
    refine vSub [2, 3, 4, 5, 6, 7] [(5, .int (nI i)), (4, .ref od), (3, .ref ou), (2, .ref (o 0)), (1, .ref x), (0, .ref b)] rfl ?_
    refine vWiden (cells + 8) (slots + 800) (by omega) (by omega) ?_
    exact kk _ _ _ _ _ _ _ _ _ _ _ _ _ _ hfin
set_option maxHeartbeats 4000000 in
theorem lw_length {p : Program} {e : Env} {s : State} {m : MethodId} {below : List Frame} {meth : Method} {c : Code} (l : Launch) {D : va_G} {k : Nat → ClassId} {o : Nat → Nat} {b LL x ou od : Nat} {xs : Nat → Int32} {Q : State → Prop} (X : vCX p s m #[.ref b] meth c cL_law 9 RL (Cond.initialized "Bytewell" :: vGW) D vCl (vTy k) s.heap.size) (hE : vEL s.heap.size s) (hl : l.stackTraces = false) (hX : va_X b LL xs s s.heap) (hbl : b < s.heap.size) (hLL : LL ≤ 3072) {i : Nat} (hi : i + 6 ≤ LL) {cells slots : Nat} (hc : cells + 8 ≤ 603072) (hs : slots + 800 ≤ 7219306) {L : List Nat} {f : Nat → va_E} {B : Nat → Nat → Int32} {Ln Rm : Nat → Nat} {Rd : Nat → Option Nat} {Pl Mk : Nat → Nat} {G : Nat → Nat → Int32} {Sz : Nat → Nat} {Kp : Nat → Int32} {th : Int32} {gL : Nat → Int64} {gD : Nat → UInt64} (h : lInv k o ou od x L f B Ln Rm Rd Pl Mk G Sz Kp th gL gD) (kk : lNext p l e s m below meth c D k o b x ou od Q i cells slots) :
    vV p l e room_1 s m #[.ref b] below meth c 9 D vCl s.heap.size Q (va_pl L f) cells slots 332 [(5, .int (nI i)), (4, .ref od), (3, .ref ou), (2, .ref (o 0)), (1, .ref x), (0, .ref b)] [] := by
  have hZ := lZ.mem h
  obtain ⟨hi0, hm0, hou, hod, fou, fod, ho1, ho2, ho3⟩ := h
  obtain ⟨kk9, v, B', Ln', Rm', Rd', Pl', Mk', G', Sz', hkk, hct, hm9⟩ := lc_length l D k s.heap.size L f (lZ o ou od) x B Ln Rm Rd Pl Mk G Sz hl hi0 hZ ou gL hou (Or.inr (Or.inl rfl)) fou (xs (i + 1))
  refine vAloadN X dL_law_332 4 rfl ?_
  refine vAloadN X dL_law_333 5 rfl ?_
  refine vIload X dL_law_334 0 rfl ?_
  refine vIconst X dL_law_336 (v := nI 1) (by decide) ?_
  refine vIadd X dL_law_337 (nI_add i 1) ?_
  refine vSld X hX hbl (Nat.le_refl _) hLL (j := i + 1) rfl (by omega) dL_law_338 ?_
  refine vAloadN X dL_law_339 2 rfl ?_
  refine vCallL X hE [] hct (vGL q_385 q_386 q_23 q_387) rfl ⟨by decide, by decide, (show _ = some 3 from by decide +kernel)⟩ ⟨(Nat.le_of_ble_eq_true rfl), (Nat.le_of_ble_eq_true rfl)⟩ rfl (Nat.le_of_ble_eq_true rfl) dL_law_340 ⟨(show cells + 1 ≤ 603072 by omega), (show slots + 6 ≤ 7219306 by omega)⟩ (fun v9 w9 hp9 => ?_)
  obtain ⟨L1, f1, g1, rfl, rfl, hk1, fo1, hg1, hi1⟩ := hp9
  refine vIstore X [(6, .int (nI kk9)), (5, .int (nI i)), (4, .ref od), (3, .ref ou), (2, .ref (o 0)), (1, .ref x), (0, .ref b)] dL_law_343 (by decide) rfl ?_
  have hm1 : mIn k o L1 f1 B Ln Rm Rd Pl Mk G Sz Kp th := hm0.kp (fun a ha => (hk1 a ha).1) (fun j hj => (hk1 _ (hm0.1 j hj)).2 (Or.inl ⟨j, hj, rfl⟩) (fun e => ho1 j hj e.symm))
  obtain ⟨Kp', hm8⟩ := hm9 o Kp th
  have hmc := hm1.call hm8
  refine vAloadN X dL_law_345 4 rfl ?_
  refine vAloadN X dL_law_346 6 rfl ?_
  refine vIload X dL_law_347 1 rfl ?_
  refine vIconst X dL_law_349 (v := nI 1) (by decide) ?_
  refine vIadd X dL_law_350 (nI_add i 1) ?_
  refine vSld X hX hbl (Nat.le_refl _) hLL (j := i + 1) rfl (by omega) dL_law_351 ?_
  obtain ⟨ix, hix⟩ := vp_ix (f := f1) (hm1.1 0 (by decide))
  have hfo : f1 (o 0) = .inr (4, _) := hm1.2.2 0 (by decide)
  refine vCallV X [] hmc (vGV q_806 q_807 q_808 q_29 q_809) ⟨by decide, by decide, (show _ = some 1 from by decide +kernel)⟩ ⟨(Nat.le_of_ble_eq_true rfl), (Nat.le_of_ble_eq_true rfl)⟩ ix 4 rfl rfl (hix.trans (by rw [hfo])) rfl (Nat.le_of_ble_eq_true rfl) dL_law_352 ⟨(show cells + 1 + 0 ≤ 603072 by omega), (show slots + 6 + 0 ≤ 7219306 by omega)⟩ (fun v8 w8 hp8 => ?_)
  obtain ⟨rfl, f2, rfl, hk2, hm2⟩ := hp8
  refine vIstore X [(7, .int v), (6, .int (nI kk9)), (5, .int (nI i)), (4, .ref od), (3, .ref ou), (2, .ref (o 0)), (1, .ref x), (0, .ref b)] dL_law_355 (by decide) rfl ?_
  have hmt := hm2.call (fun pl => mm_thrown l D k o pl s.heap.size B' Ln' Rm' Rd' Pl' Mk' G' Sz' Kp' (nI kk9))
  refine vAloadN X dL_law_357 5 rfl ?_
  obtain ⟨ixt, hixt⟩ := vp_ix (f := f2) (hm2.1 0 (by decide))
  have hfot : f2 (o 0) = .inr (4, _) := hm2.2.2 0 (by decide)
  refine vCallV X [] hmt (vGV q_774 q_775 q_776 q_29 q_777) ⟨by decide, by decide, (show _ = some 0 from by decide +kernel)⟩ ⟨(Nat.le_of_ble_eq_true rfl), (Nat.le_of_ble_eq_true rfl)⟩ ixt 4 rfl rfl (hixt.trans (by rw [hfot])) rfl (Nat.le_of_ble_eq_true rfl) dL_law_358 ⟨(show cells + 1 + 0 + 0 ≤ 603072 by omega), (show slots + 6 + 0 + 0 ≤ 7219306 by omega)⟩ (fun v8 w8 hp8 => ?_)
  obtain ⟨rfl, f3, rfl, hk3, hm3⟩ := hp8
  refine vIload X dL_law_361 1 rfl ?_
  refine vIcmp_eqT X 368 dL_law_363 (by decide) rfl ?_
  have fo3 : f3 ou = .inl (k 5, 1, .inr (.inl g1)) := (hk3 ou ho1).trans ((hk2 ou ho1).trans fo1)
  have fo4 := (hk3 od ho2).trans ((hk2 od ho2).trans (((hk1 od hod).2 (Or.inr (Or.inr rfl)) (Ne.symm ho3)).trans fod))
  have hfin : lInv k o ou od x L1 f3 B' Ln' Rm' Rd' Pl' Mk' G' Sz' Kp' (nI kk9) g1 gD := ⟨hi1.foreign (fun t ht => ⟨ht, fun hz => (hk3 t (fun j hj e => hz (Or.inl ⟨j, hj, e⟩))).trans (hk2 t (fun j hj e => hz (Or.inl ⟨j, hj, e⟩)))⟩), hm3, (hk1 ou hou).1, (hk1 od hod).1, fo3, fo4, ho1, ho2, ho3⟩
  refine vIload X dL_law_368 1 rfl ?_
  by_cases h0 : kk9 = 0
  rotate_left
  · refine vIf_neT X 385 dL_law_370 (by decide) (nkk h0 (by omega)) ?_
    refine vGoto X 2499 dL_law_385 (by decide) ?_
    refine vSub [2, 3, 4, 5, 6, 7] [(5, .int (nI i)), (4, .ref od), (3, .ref ou), (2, .ref (o 0)), (1, .ref x), (0, .ref b)] rfl ?_
    refine vWiden (cells + 8) (slots + 800) (by omega) (by omega) ?_
    exact kk _ _ _ _ _ _ _ _ _ _ _ _ _ _ hfin
  · refine vIf_neF X 385 dL_law_370 (by decide) (by rw [h0]; rfl) ?_
    refine vAloadN X dL_law_373 4 rfl ?_
    refine vIconst X dL_law_374 (v := nI 0) (by decide) ?_
    refine vpLaload X (hk1 ou hou).1 fo3 5 rfl rfl (by decide) (by decide) (hg1 h0) dL_law_375 ?_
    refine vIload X dL_law_376 0 rfl ?_
    refine vI2l X dL_law_378 (v := v.toInt64) rfl ?_
    refine vLcmp X dL_law_379 ?_
    refine vIf_eqT X 385 dL_law_380 (by decide) (lgc_self _) ?_
    refine vGoto X 2499 dL_law_385 (by decide) ?_
    refine vSub [2, 3, 4, 5, 6, 7] [(5, .int (nI i)), (4, .ref od), (3, .ref ou), (2, .ref (o 0)), (1, .ref x), (0, .ref b)] rfl ?_
    refine vWiden (cells + 8) (slots + 800) (by omega) (by omega) ?_
    exact kk _ _ _ _ _ _ _ _ _ _ _ _ _ _ hfin
set_option maxHeartbeats 4000000 in
theorem lw_get {p : Program} {e : Env} {s : State} {m : MethodId} {below : List Frame} {meth : Method} {c : Code} (l : Launch) {D : va_G} {k : Nat → ClassId} {o : Nat → Nat} {b LL x ou od : Nat} {xs : Nat → Int32} {Q : State → Prop} (X : vCX p s m #[.ref b] meth c cL_law 9 RL (Cond.initialized "Bytewell" :: vGW) D vCl (vTy k) s.heap.size) (hE : vEL s.heap.size s) (hl : l.stackTraces = false) (hX : va_X b LL xs s s.heap) (hbl : b < s.heap.size) (hLL : LL ≤ 3072) {i : Nat} (hi : i + 6 ≤ LL) {cells slots : Nat} (hc : cells + 8 ≤ 603072) (hs : slots + 800 ≤ 7219306) {L : List Nat} {f : Nat → va_E} {B : Nat → Nat → Int32} {Ln Rm : Nat → Nat} {Rd : Nat → Option Nat} {Pl Mk : Nat → Nat} {G : Nat → Nat → Int32} {Sz : Nat → Nat} {Kp : Nat → Int32} {th : Int32} {gL : Nat → Int64} {gD : Nat → UInt64} (h : lInv k o ou od x L f B Ln Rm Rd Pl Mk G Sz Kp th gL gD) (kk : lNext p l e s m below meth c D k o b x ou od Q i cells slots) :
    vV p l e room_1 s m #[.ref b] below meth c 9 D vCl s.heap.size Q (va_pl L f) cells slots 388 [(5, .int (nI i)), (4, .ref od), (3, .ref ou), (2, .ref (o 0)), (1, .ref x), (0, .ref b)] [] := by
  have hZ := lZ.mem h
  obtain ⟨hi0, hm0, hou, hod, fou, fod, ho1, ho2, ho3⟩ := h
  obtain ⟨kk9, v, B', Ln', Rm', Rd', Pl', Mk', G', Sz', hkk, hct, hm9⟩ := lc_get l D k s.heap.size L f (lZ o ou od) x B Ln Rm Rd Pl Mk G Sz hl hi0 hZ ou gL hou (Or.inr (Or.inl rfl)) fou (xs (i + 1)) (xs (i + 2))
  refine vAloadN X dL_law_388 4 rfl ?_
  refine vAloadN X dL_law_389 5 rfl ?_
  refine vIload X dL_law_390 0 rfl ?_
  refine vIconst X dL_law_392 (v := nI 1) (by decide) ?_
  refine vIadd X dL_law_393 (nI_add i 1) ?_
  refine vSld X hX hbl (Nat.le_refl _) hLL (j := i + 1) rfl (by omega) dL_law_394 ?_
  refine vAloadN X dL_law_395 5 rfl ?_
  refine vIload X dL_law_396 0 rfl ?_
  refine vIconst X dL_law_398 (v := nI 2) (by decide) ?_
  refine vIadd X dL_law_399 (nI_add i 2) ?_
  refine vSld X hX hbl (Nat.le_refl _) hLL (j := i + 2) rfl (by omega) dL_law_400 ?_
  refine vAloadN X dL_law_401 2 rfl ?_
  refine vCallL X hE [] hct (vGL q_392 q_393 q_23 q_394) rfl ⟨by decide, by decide, (show _ = some 4 from by decide +kernel)⟩ ⟨(Nat.le_of_ble_eq_true rfl), (Nat.le_of_ble_eq_true rfl)⟩ rfl (Nat.le_of_ble_eq_true rfl) dL_law_402 ⟨(show cells + 1 ≤ 603072 by omega), (show slots + 6 ≤ 7219306 by omega)⟩ (fun v9 w9 hp9 => ?_)
  obtain ⟨L1, f1, g1, rfl, rfl, hk1, fo1, hg1, hi1⟩ := hp9
  refine vIstore X [(6, .int (nI kk9)), (5, .int (nI i)), (4, .ref od), (3, .ref ou), (2, .ref (o 0)), (1, .ref x), (0, .ref b)] dL_law_405 (by decide) rfl ?_
  have hm1 : mIn k o L1 f1 B Ln Rm Rd Pl Mk G Sz Kp th := hm0.kp (fun a ha => (hk1 a ha).1) (fun j hj => (hk1 _ (hm0.1 j hj)).2 (Or.inl ⟨j, hj, rfl⟩) (fun e => ho1 j hj e.symm))
  obtain ⟨Kp', hm8⟩ := hm9 o Kp th
  have hmc := hm1.call hm8
  refine vAloadN X dL_law_407 4 rfl ?_
  refine vAloadN X dL_law_408 6 rfl ?_
  refine vIload X dL_law_409 1 rfl ?_
  refine vIconst X dL_law_411 (v := nI 1) (by decide) ?_
  refine vIadd X dL_law_412 (nI_add i 1) ?_
  refine vSld X hX hbl (Nat.le_refl _) hLL (j := i + 1) rfl (by omega) dL_law_413 ?_
  refine vAloadN X dL_law_414 6 rfl ?_
  refine vIload X dL_law_415 1 rfl ?_
  refine vIconst X dL_law_417 (v := nI 2) (by decide) ?_
  refine vIadd X dL_law_418 (nI_add i 2) ?_
  refine vSld X hX hbl (Nat.le_refl _) hLL (j := i + 2) rfl (by omega) dL_law_419 ?_
  obtain ⟨ix, hix⟩ := vp_ix (f := f1) (hm1.1 0 (by decide))
  have hfo : f1 (o 0) = .inr (4, _) := hm1.2.2 0 (by decide)
  refine vCallV X [] hmc (vGV q_810 q_811 q_812 q_29 q_813) ⟨by decide, by decide, (show _ = some 2 from by decide +kernel)⟩ ⟨(Nat.le_of_ble_eq_true rfl), (Nat.le_of_ble_eq_true rfl)⟩ ix 4 rfl rfl (hix.trans (by rw [hfo])) rfl (Nat.le_of_ble_eq_true rfl) dL_law_420 ⟨(show cells + 1 + 0 ≤ 603072 by omega), (show slots + 6 + 0 ≤ 7219306 by omega)⟩ (fun v8 w8 hp8 => ?_)
  obtain ⟨rfl, f2, rfl, hk2, hm2⟩ := hp8
  refine vIstore X [(7, .int v), (6, .int (nI kk9)), (5, .int (nI i)), (4, .ref od), (3, .ref ou), (2, .ref (o 0)), (1, .ref x), (0, .ref b)] dL_law_423 (by decide) rfl ?_
  have hmt := hm2.call (fun pl => mm_thrown l D k o pl s.heap.size B' Ln' Rm' Rd' Pl' Mk' G' Sz' Kp' (nI kk9))
  refine vAloadN X dL_law_425 5 rfl ?_
  obtain ⟨ixt, hixt⟩ := vp_ix (f := f2) (hm2.1 0 (by decide))
  have hfot : f2 (o 0) = .inr (4, _) := hm2.2.2 0 (by decide)
  refine vCallV X [] hmt (vGV q_774 q_775 q_776 q_29 q_777) ⟨by decide, by decide, (show _ = some 0 from by decide +kernel)⟩ ⟨(Nat.le_of_ble_eq_true rfl), (Nat.le_of_ble_eq_true rfl)⟩ ixt 4 rfl rfl (hixt.trans (by rw [hfot])) rfl (Nat.le_of_ble_eq_true rfl) dL_law_426 ⟨(show cells + 1 + 0 + 0 ≤ 603072 by omega), (show slots + 6 + 0 + 0 ≤ 7219306 by omega)⟩ (fun v8 w8 hp8 => ?_)
  obtain ⟨rfl, f3, rfl, hk3, hm3⟩ := hp8
  refine vIload X dL_law_429 1 rfl ?_
  refine vIcmp_eqT X 436 dL_law_431 (by decide) rfl ?_
  have fo3 : f3 ou = .inl (k 5, 1, .inr (.inl g1)) := (hk3 ou ho1).trans ((hk2 ou ho1).trans fo1)
  have fo4 := (hk3 od ho2).trans ((hk2 od ho2).trans (((hk1 od hod).2 (Or.inr (Or.inr rfl)) (Ne.symm ho3)).trans fod))
  have hfin : lInv k o ou od x L1 f3 B' Ln' Rm' Rd' Pl' Mk' G' Sz' Kp' (nI kk9) g1 gD := ⟨hi1.foreign (fun t ht => ⟨ht, fun hz => (hk3 t (fun j hj e => hz (Or.inl ⟨j, hj, e⟩))).trans (hk2 t (fun j hj e => hz (Or.inl ⟨j, hj, e⟩)))⟩), hm3, (hk1 ou hou).1, (hk1 od hod).1, fo3, fo4, ho1, ho2, ho3⟩
  refine vIload X dL_law_436 1 rfl ?_
  by_cases h0 : kk9 = 0
  rotate_left
  · refine vIf_neT X 453 dL_law_438 (by decide) (nkk h0 (by omega)) ?_
    refine vGoto X 2499 dL_law_453 (by decide) ?_
    refine vSub [2, 3, 4, 5, 6, 7] [(5, .int (nI i)), (4, .ref od), (3, .ref ou), (2, .ref (o 0)), (1, .ref x), (0, .ref b)] rfl ?_
    refine vWiden (cells + 8) (slots + 800) (by omega) (by omega) ?_
    exact kk _ _ _ _ _ _ _ _ _ _ _ _ _ _ hfin
  · refine vIf_neF X 453 dL_law_438 (by decide) (by rw [h0]; rfl) ?_
    refine vAloadN X dL_law_441 4 rfl ?_
    refine vIconst X dL_law_442 (v := nI 0) (by decide) ?_
    refine vpLaload X (hk1 ou hou).1 fo3 5 rfl rfl (by decide) (by decide) (hg1 h0) dL_law_443 ?_
    refine vIload X dL_law_444 0 rfl ?_
    refine vI2l X dL_law_446 (v := v.toInt64) rfl ?_
    refine vLcmp X dL_law_447 ?_
    refine vIf_eqT X 453 dL_law_448 (by decide) (lgc_self _) ?_
    refine vGoto X 2499 dL_law_453 (by decide) ?_
    refine vSub [2, 3, 4, 5, 6, 7] [(5, .int (nI i)), (4, .ref od), (3, .ref ou), (2, .ref (o 0)), (1, .ref x), (0, .ref b)] rfl ?_
    refine vWiden (cells + 8) (slots + 800) (by omega) (by omega) ?_
    exact kk _ _ _ _ _ _ _ _ _ _ _ _ _ _ hfin
set_option maxHeartbeats 4000000 in
theorem lw_put {p : Program} {e : Env} {s : State} {m : MethodId} {below : List Frame} {meth : Method} {c : Code} (l : Launch) {D : va_G} {k : Nat → ClassId} {o : Nat → Nat} {b LL x ou od : Nat} {xs : Nat → Int32} {Q : State → Prop} (X : vCX p s m #[.ref b] meth c cL_law 9 RL (Cond.initialized "Bytewell" :: vGW) D vCl (vTy k) s.heap.size) (hE : vEL s.heap.size s) (hl : l.stackTraces = false) (hX : va_X b LL xs s s.heap) (hbl : b < s.heap.size) (hLL : LL ≤ 3072) {i : Nat} (hi : i + 6 ≤ LL) {cells slots : Nat} (hc : cells + 8 ≤ 603072) (hs : slots + 800 ≤ 7219306) {L : List Nat} {f : Nat → va_E} {B : Nat → Nat → Int32} {Ln Rm : Nat → Nat} {Rd : Nat → Option Nat} {Pl Mk : Nat → Nat} {G : Nat → Nat → Int32} {Sz : Nat → Nat} {Kp : Nat → Int32} {th : Int32} {gL : Nat → Int64} {gD : Nat → UInt64} (h : lInv k o ou od x L f B Ln Rm Rd Pl Mk G Sz Kp th gL gD) (kk : lNext p l e s m below meth c D k o b x ou od Q i cells slots) :
    vV p l e room_1 s m #[.ref b] below meth c 9 D vCl s.heap.size Q (va_pl L f) cells slots 456 [(5, .int (nI i)), (4, .ref od), (3, .ref ou), (2, .ref (o 0)), (1, .ref x), (0, .ref b)] [] := by
  have hZ := lZ.mem h
  obtain ⟨hi0, hm0, hou, hod, fou, fod, ho1, ho2, ho3⟩ := h
  obtain ⟨kk9, v, B', Ln', Rm', Rd', Pl', Mk', G', Sz', hkk, hct, hm9⟩ := lc_put l D k s.heap.size L f (lZ o ou od) x B Ln Rm Rd Pl Mk G Sz hl hi0 hZ ou gL hou (Or.inr (Or.inl rfl)) fou (xs (i + 1)) (xs (i + 2)) (xs (i + 3))
  refine vAloadN X dL_law_456 4 rfl ?_
  refine vAloadN X dL_law_457 5 rfl ?_
  refine vIload X dL_law_458 0 rfl ?_
  refine vIconst X dL_law_460 (v := nI 1) (by decide) ?_
  refine vIadd X dL_law_461 (nI_add i 1) ?_
  refine vSld X hX hbl (Nat.le_refl _) hLL (j := i + 1) rfl (by omega) dL_law_462 ?_
  refine vAloadN X dL_law_463 5 rfl ?_
  refine vIload X dL_law_464 0 rfl ?_
  refine vIconst X dL_law_466 (v := nI 2) (by decide) ?_
  refine vIadd X dL_law_467 (nI_add i 2) ?_
  refine vSld X hX hbl (Nat.le_refl _) hLL (j := i + 2) rfl (by omega) dL_law_468 ?_
  refine vAloadN X dL_law_469 5 rfl ?_
  refine vIload X dL_law_470 0 rfl ?_
  refine vIconst X dL_law_472 (v := nI 3) (by decide) ?_
  refine vIadd X dL_law_473 (nI_add i 3) ?_
  refine vSld X hX hbl (Nat.le_refl _) hLL (j := i + 3) rfl (by omega) dL_law_474 ?_
  refine vAloadN X dL_law_475 2 rfl ?_
  refine vCallL X hE [] hct (vGL q_405 q_406 q_23 q_407) rfl ⟨by decide, by decide, (show _ = some 5 from by decide +kernel)⟩ ⟨(Nat.le_of_ble_eq_true rfl), (Nat.le_of_ble_eq_true rfl)⟩ rfl (Nat.le_of_ble_eq_true rfl) dL_law_476 ⟨(show cells + 1 ≤ 603072 by omega), (show slots + 6 ≤ 7219306 by omega)⟩ (fun v9 w9 hp9 => ?_)
  obtain ⟨L1, f1, g1, rfl, rfl, hk1, fo1, hg1, hi1⟩ := hp9
  refine vIstore X [(6, .int (nI kk9)), (5, .int (nI i)), (4, .ref od), (3, .ref ou), (2, .ref (o 0)), (1, .ref x), (0, .ref b)] dL_law_479 (by decide) rfl ?_
  have hm1 : mIn k o L1 f1 B Ln Rm Rd Pl Mk G Sz Kp th := hm0.kp (fun a ha => (hk1 a ha).1) (fun j hj => (hk1 _ (hm0.1 j hj)).2 (Or.inl ⟨j, hj, rfl⟩) (fun e => ho1 j hj e.symm))
  obtain ⟨Kp', hm8⟩ := hm9 o Kp th
  have hmc := hm1.call hm8
  refine vAloadN X dL_law_481 4 rfl ?_
  refine vAloadN X dL_law_482 6 rfl ?_
  refine vIload X dL_law_483 1 rfl ?_
  refine vIconst X dL_law_485 (v := nI 1) (by decide) ?_
  refine vIadd X dL_law_486 (nI_add i 1) ?_
  refine vSld X hX hbl (Nat.le_refl _) hLL (j := i + 1) rfl (by omega) dL_law_487 ?_
  refine vAloadN X dL_law_488 6 rfl ?_
  refine vIload X dL_law_489 1 rfl ?_
  refine vIconst X dL_law_491 (v := nI 2) (by decide) ?_
  refine vIadd X dL_law_492 (nI_add i 2) ?_
  refine vSld X hX hbl (Nat.le_refl _) hLL (j := i + 2) rfl (by omega) dL_law_493 ?_
  refine vAloadN X dL_law_494 6 rfl ?_
  refine vIload X dL_law_495 1 rfl ?_
  refine vIconst X dL_law_497 (v := nI 3) (by decide) ?_
  refine vIadd X dL_law_498 (nI_add i 3) ?_
  refine vSld X hX hbl (Nat.le_refl _) hLL (j := i + 3) rfl (by omega) dL_law_499 ?_
  obtain ⟨ix, hix⟩ := vp_ix (f := f1) (hm1.1 0 (by decide))
  have hfo : f1 (o 0) = .inr (4, _) := hm1.2.2 0 (by decide)
  refine vCallV X [] hmc (vGV q_818 q_819 q_820 q_29 q_821) ⟨by decide, by decide, (show _ = some 3 from by decide +kernel)⟩ ⟨(Nat.le_of_ble_eq_true rfl), (Nat.le_of_ble_eq_true rfl)⟩ ix 4 rfl rfl (hix.trans (by rw [hfo])) rfl (Nat.le_of_ble_eq_true rfl) dL_law_500 ⟨(show cells + 1 + 0 ≤ 603072 by omega), (show slots + 6 + 0 ≤ 7219306 by omega)⟩ (fun v8 w8 hp8 => ?_)
  obtain ⟨rfl, f2, rfl, hk2, hm2⟩ := hp8
  refine vIstore X [(7, .int v), (6, .int (nI kk9)), (5, .int (nI i)), (4, .ref od), (3, .ref ou), (2, .ref (o 0)), (1, .ref x), (0, .ref b)] dL_law_503 (by decide) rfl ?_
  have hmt := hm2.call (fun pl => mm_thrown l D k o pl s.heap.size B' Ln' Rm' Rd' Pl' Mk' G' Sz' Kp' (nI kk9))
  refine vAloadN X dL_law_505 5 rfl ?_
  obtain ⟨ixt, hixt⟩ := vp_ix (f := f2) (hm2.1 0 (by decide))
  have hfot : f2 (o 0) = .inr (4, _) := hm2.2.2 0 (by decide)
  refine vCallV X [] hmt (vGV q_774 q_775 q_776 q_29 q_777) ⟨by decide, by decide, (show _ = some 0 from by decide +kernel)⟩ ⟨(Nat.le_of_ble_eq_true rfl), (Nat.le_of_ble_eq_true rfl)⟩ ixt 4 rfl rfl (hixt.trans (by rw [hfot])) rfl (Nat.le_of_ble_eq_true rfl) dL_law_506 ⟨(show cells + 1 + 0 + 0 ≤ 603072 by omega), (show slots + 6 + 0 + 0 ≤ 7219306 by omega)⟩ (fun v8 w8 hp8 => ?_)
  obtain ⟨rfl, f3, rfl, hk3, hm3⟩ := hp8
  refine vIload X dL_law_509 1 rfl ?_
  refine vIcmp_eqT X 516 dL_law_511 (by decide) rfl ?_
  have fo3 : f3 ou = .inl (k 5, 1, .inr (.inl g1)) := (hk3 ou ho1).trans ((hk2 ou ho1).trans fo1)
  have fo4 := (hk3 od ho2).trans ((hk2 od ho2).trans (((hk1 od hod).2 (Or.inr (Or.inr rfl)) (Ne.symm ho3)).trans fod))
  have hfin : lInv k o ou od x L1 f3 B' Ln' Rm' Rd' Pl' Mk' G' Sz' Kp' (nI kk9) g1 gD := ⟨hi1.foreign (fun t ht => ⟨ht, fun hz => (hk3 t (fun j hj e => hz (Or.inl ⟨j, hj, e⟩))).trans (hk2 t (fun j hj e => hz (Or.inl ⟨j, hj, e⟩)))⟩), hm3, (hk1 ou hou).1, (hk1 od hod).1, fo3, fo4, ho1, ho2, ho3⟩
  refine vIload X dL_law_516 1 rfl ?_
  by_cases h0 : kk9 = 0
  rotate_left
  · refine vIf_neT X 533 dL_law_518 (by decide) (nkk h0 (by omega)) ?_
    refine vGoto X 2499 dL_law_533 (by decide) ?_
    refine vSub [2, 3, 4, 5, 6, 7] [(5, .int (nI i)), (4, .ref od), (3, .ref ou), (2, .ref (o 0)), (1, .ref x), (0, .ref b)] rfl ?_
    refine vWiden (cells + 8) (slots + 800) (by omega) (by omega) ?_
    exact kk _ _ _ _ _ _ _ _ _ _ _ _ _ _ hfin
  · refine vIf_neF X 533 dL_law_518 (by decide) (by rw [h0]; rfl) ?_
    refine vAloadN X dL_law_521 4 rfl ?_
    refine vIconst X dL_law_522 (v := nI 0) (by decide) ?_
    refine vpLaload X (hk1 ou hou).1 fo3 5 rfl rfl (by decide) (by decide) (hg1 h0) dL_law_523 ?_
    refine vIload X dL_law_524 0 rfl ?_
    refine vI2l X dL_law_526 (v := v.toInt64) rfl ?_
    refine vLcmp X dL_law_527 ?_
    refine vIf_eqT X 533 dL_law_528 (by decide) (lgc_self _) ?_
    refine vGoto X 2499 dL_law_533 (by decide) ?_
    refine vSub [2, 3, 4, 5, 6, 7] [(5, .int (nI i)), (4, .ref od), (3, .ref ou), (2, .ref (o 0)), (1, .ref x), (0, .ref b)] rfl ?_
    refine vWiden (cells + 8) (slots + 800) (by omega) (by omega) ?_
    exact kk _ _ _ _ _ _ _ _ _ _ _ _ _ _ hfin
set_option maxHeartbeats 4000000 in
theorem lw_fill {p : Program} {e : Env} {s : State} {m : MethodId} {below : List Frame} {meth : Method} {c : Code} (l : Launch) {D : va_G} {k : Nat → ClassId} {o : Nat → Nat} {b LL x ou od : Nat} {xs : Nat → Int32} {Q : State → Prop} (X : vCX p s m #[.ref b] meth c cL_law 9 RL (Cond.initialized "Bytewell" :: vGW) D vCl (vTy k) s.heap.size) (hE : vEL s.heap.size s) (hl : l.stackTraces = false) (hX : va_X b LL xs s s.heap) (hbl : b < s.heap.size) (hLL : LL ≤ 3072) {i : Nat} (hi : i + 6 ≤ LL) {cells slots : Nat} (hc : cells + 8 ≤ 603072) (hs : slots + 800 ≤ 7219306) {L : List Nat} {f : Nat → va_E} {B : Nat → Nat → Int32} {Ln Rm : Nat → Nat} {Rd : Nat → Option Nat} {Pl Mk : Nat → Nat} {G : Nat → Nat → Int32} {Sz : Nat → Nat} {Kp : Nat → Int32} {th : Int32} {gL : Nat → Int64} {gD : Nat → UInt64} (h : lInv k o ou od x L f B Ln Rm Rd Pl Mk G Sz Kp th gL gD) (kk : lNext p l e s m below meth c D k o b x ou od Q i cells slots) :
    vV p l e room_1 s m #[.ref b] below meth c 9 D vCl s.heap.size Q (va_pl L f) cells slots 536 [(5, .int (nI i)), (4, .ref od), (3, .ref ou), (2, .ref (o 0)), (1, .ref x), (0, .ref b)] [] := by
  have hZ := lZ.mem h
  obtain ⟨hi0, hm0, hou, hod, fou, fod, ho1, ho2, ho3⟩ := h
  obtain ⟨kk9, v, B', Ln', Rm', Rd', Pl', Mk', G', Sz', hkk, hct, hm9⟩ := lc_fill l D k s.heap.size L f (lZ o ou od) x B Ln Rm Rd Pl Mk G Sz hl hi0 hZ ou gL hou (Or.inr (Or.inl rfl)) fou (xs (i + 1)) (xs (i + 2)) (xs (i + 3)) (xs (i + 4)) (xs (i + 5))
  refine vAloadN X dL_law_536 4 rfl ?_
  refine vAloadN X dL_law_537 5 rfl ?_
  refine vIload X dL_law_538 0 rfl ?_
  refine vIconst X dL_law_540 (v := nI 1) (by decide) ?_
  refine vIadd X dL_law_541 (nI_add i 1) ?_
  refine vSld X hX hbl (Nat.le_refl _) hLL (j := i + 1) rfl (by omega) dL_law_542 ?_
  refine vAloadN X dL_law_543 5 rfl ?_
  refine vIload X dL_law_544 0 rfl ?_
  refine vIconst X dL_law_546 (v := nI 2) (by decide) ?_
  refine vIadd X dL_law_547 (nI_add i 2) ?_
  refine vSld X hX hbl (Nat.le_refl _) hLL (j := i + 2) rfl (by omega) dL_law_548 ?_
  refine vAloadN X dL_law_549 5 rfl ?_
  refine vIload X dL_law_550 0 rfl ?_
  refine vIconst X dL_law_552 (v := nI 3) (by decide) ?_
  refine vIadd X dL_law_553 (nI_add i 3) ?_
  refine vSld X hX hbl (Nat.le_refl _) hLL (j := i + 3) rfl (by omega) dL_law_554 ?_
  refine vAloadN X dL_law_555 5 rfl ?_
  refine vIload X dL_law_556 0 rfl ?_
  refine vIconst X dL_law_558 (v := nI 4) (by decide) ?_
  refine vIadd X dL_law_559 (nI_add i 4) ?_
  refine vSld X hX hbl (Nat.le_refl _) hLL (j := i + 4) rfl (by omega) dL_law_560 ?_
  refine vAloadN X dL_law_561 5 rfl ?_
  refine vIload X dL_law_562 0 rfl ?_
  refine vIconst X dL_law_564 (v := nI 5) (by decide) ?_
  refine vIadd X dL_law_565 (nI_add i 5) ?_
  refine vSld X hX hbl (Nat.le_refl _) hLL (j := i + 5) rfl (by omega) dL_law_566 ?_
  refine vAloadN X dL_law_567 2 rfl ?_
  refine vCallL X hE [] hct (vGL q_416 q_417 q_23 q_418) rfl ⟨by decide, by decide, (show _ = some 7 from by decide +kernel)⟩ ⟨(Nat.le_of_ble_eq_true rfl), (Nat.le_of_ble_eq_true rfl)⟩ rfl (Nat.le_of_ble_eq_true rfl) dL_law_568 ⟨(show cells + 1 ≤ 603072 by omega), (show slots + 6 ≤ 7219306 by omega)⟩ (fun v9 w9 hp9 => ?_)
  obtain ⟨L1, f1, g1, rfl, rfl, hk1, fo1, hg1, hi1⟩ := hp9
  refine vIstore X [(6, .int (nI kk9)), (5, .int (nI i)), (4, .ref od), (3, .ref ou), (2, .ref (o 0)), (1, .ref x), (0, .ref b)] dL_law_571 (by decide) rfl ?_
  have hm1 : mIn k o L1 f1 B Ln Rm Rd Pl Mk G Sz Kp th := hm0.kp (fun a ha => (hk1 a ha).1) (fun j hj => (hk1 _ (hm0.1 j hj)).2 (Or.inl ⟨j, hj, rfl⟩) (fun e => ho1 j hj e.symm))
  obtain ⟨Kp', hm8⟩ := hm9 o Kp th
  have hmc := hm1.call hm8
  refine vAloadN X dL_law_573 4 rfl ?_
  refine vAloadN X dL_law_574 6 rfl ?_
  refine vIload X dL_law_575 1 rfl ?_
  refine vIconst X dL_law_577 (v := nI 1) (by decide) ?_
  refine vIadd X dL_law_578 (nI_add i 1) ?_
  refine vSld X hX hbl (Nat.le_refl _) hLL (j := i + 1) rfl (by omega) dL_law_579 ?_
  refine vAloadN X dL_law_580 6 rfl ?_
  refine vIload X dL_law_581 1 rfl ?_
  refine vIconst X dL_law_583 (v := nI 2) (by decide) ?_
  refine vIadd X dL_law_584 (nI_add i 2) ?_
  refine vSld X hX hbl (Nat.le_refl _) hLL (j := i + 2) rfl (by omega) dL_law_585 ?_
  refine vAloadN X dL_law_586 6 rfl ?_
  refine vIload X dL_law_587 1 rfl ?_
  refine vIconst X dL_law_589 (v := nI 3) (by decide) ?_
  refine vIadd X dL_law_590 (nI_add i 3) ?_
  refine vSld X hX hbl (Nat.le_refl _) hLL (j := i + 3) rfl (by omega) dL_law_591 ?_
  refine vAloadN X dL_law_592 6 rfl ?_
  refine vIload X dL_law_593 1 rfl ?_
  refine vIconst X dL_law_595 (v := nI 4) (by decide) ?_
  refine vIadd X dL_law_596 (nI_add i 4) ?_
  refine vSld X hX hbl (Nat.le_refl _) hLL (j := i + 4) rfl (by omega) dL_law_597 ?_
  refine vAloadN X dL_law_598 6 rfl ?_
  refine vIload X dL_law_599 1 rfl ?_
  refine vIconst X dL_law_601 (v := nI 5) (by decide) ?_
  refine vIadd X dL_law_602 (nI_add i 5) ?_
  refine vSld X hX hbl (Nat.le_refl _) hLL (j := i + 5) rfl (by omega) dL_law_603 ?_
  obtain ⟨ix, hix⟩ := vp_ix (f := f1) (hm1.1 0 (by decide))
  have hfo : f1 (o 0) = .inr (4, _) := hm1.2.2 0 (by decide)
  refine vCallV X [] hmc (vGV q_826 q_827 q_828 q_29 q_829) ⟨by decide, by decide, (show _ = some 5 from by decide +kernel)⟩ ⟨(Nat.le_of_ble_eq_true rfl), (Nat.le_of_ble_eq_true rfl)⟩ ix 4 rfl rfl (hix.trans (by rw [hfo])) rfl (Nat.le_of_ble_eq_true rfl) dL_law_604 ⟨(show cells + 1 + 0 ≤ 603072 by omega), (show slots + 6 + 0 ≤ 7219306 by omega)⟩ (fun v8 w8 hp8 => ?_)
  obtain ⟨rfl, f2, rfl, hk2, hm2⟩ := hp8
  refine vIstore X [(7, .int v), (6, .int (nI kk9)), (5, .int (nI i)), (4, .ref od), (3, .ref ou), (2, .ref (o 0)), (1, .ref x), (0, .ref b)] dL_law_607 (by decide) rfl ?_
  have hmt := hm2.call (fun pl => mm_thrown l D k o pl s.heap.size B' Ln' Rm' Rd' Pl' Mk' G' Sz' Kp' (nI kk9))
  refine vAloadN X dL_law_609 5 rfl ?_
  obtain ⟨ixt, hixt⟩ := vp_ix (f := f2) (hm2.1 0 (by decide))
  have hfot : f2 (o 0) = .inr (4, _) := hm2.2.2 0 (by decide)
  refine vCallV X [] hmt (vGV q_774 q_775 q_776 q_29 q_777) ⟨by decide, by decide, (show _ = some 0 from by decide +kernel)⟩ ⟨(Nat.le_of_ble_eq_true rfl), (Nat.le_of_ble_eq_true rfl)⟩ ixt 4 rfl rfl (hixt.trans (by rw [hfot])) rfl (Nat.le_of_ble_eq_true rfl) dL_law_610 ⟨(show cells + 1 + 0 + 0 ≤ 603072 by omega), (show slots + 6 + 0 + 0 ≤ 7219306 by omega)⟩ (fun v8 w8 hp8 => ?_)
  obtain ⟨rfl, f3, rfl, hk3, hm3⟩ := hp8
  refine vIload X dL_law_613 1 rfl ?_
  refine vIcmp_eqT X 620 dL_law_615 (by decide) rfl ?_
  have fo3 : f3 ou = .inl (k 5, 1, .inr (.inl g1)) := (hk3 ou ho1).trans ((hk2 ou ho1).trans fo1)
  have fo4 := (hk3 od ho2).trans ((hk2 od ho2).trans (((hk1 od hod).2 (Or.inr (Or.inr rfl)) (Ne.symm ho3)).trans fod))
  have hfin : lInv k o ou od x L1 f3 B' Ln' Rm' Rd' Pl' Mk' G' Sz' Kp' (nI kk9) g1 gD := ⟨hi1.foreign (fun t ht => ⟨ht, fun hz => (hk3 t (fun j hj e => hz (Or.inl ⟨j, hj, e⟩))).trans (hk2 t (fun j hj e => hz (Or.inl ⟨j, hj, e⟩)))⟩), hm3, (hk1 ou hou).1, (hk1 od hod).1, fo3, fo4, ho1, ho2, ho3⟩
  refine vIload X dL_law_620 1 rfl ?_
  by_cases h0 : kk9 = 0
  rotate_left
  · refine vIf_neT X 637 dL_law_622 (by decide) (nkk h0 (by omega)) ?_
    refine vGoto X 2499 dL_law_637 (by decide) ?_
    refine vSub [2, 3, 4, 5, 6, 7] [(5, .int (nI i)), (4, .ref od), (3, .ref ou), (2, .ref (o 0)), (1, .ref x), (0, .ref b)] rfl ?_
    refine vWiden (cells + 8) (slots + 800) (by omega) (by omega) ?_
    exact kk _ _ _ _ _ _ _ _ _ _ _ _ _ _ hfin
  · refine vIf_neF X 637 dL_law_622 (by decide) (by rw [h0]; rfl) ?_
    refine vAloadN X dL_law_625 4 rfl ?_
    refine vIconst X dL_law_626 (v := nI 0) (by decide) ?_
    refine vpLaload X (hk1 ou hou).1 fo3 5 rfl rfl (by decide) (by decide) (hg1 h0) dL_law_627 ?_
    refine vIload X dL_law_628 0 rfl ?_
    refine vI2l X dL_law_630 (v := v.toInt64) rfl ?_
    refine vLcmp X dL_law_631 ?_
    refine vIf_eqT X 637 dL_law_632 (by decide) (lgc_self _) ?_
    refine vGoto X 2499 dL_law_637 (by decide) ?_
    refine vSub [2, 3, 4, 5, 6, 7] [(5, .int (nI i)), (4, .ref od), (3, .ref ou), (2, .ref (o 0)), (1, .ref x), (0, .ref b)] rfl ?_
    refine vWiden (cells + 8) (slots + 800) (by omega) (by omega) ?_
    exact kk _ _ _ _ _ _ _ _ _ _ _ _ _ _ hfin
set_option maxHeartbeats 4000000 in
theorem lw_isLike {p : Program} {e : Env} {s : State} {m : MethodId} {below : List Frame} {meth : Method} {c : Code} (l : Launch) {D : va_G} {k : Nat → ClassId} {o : Nat → Nat} {b LL x ou od : Nat} {xs : Nat → Int32} {Q : State → Prop} (X : vCX p s m #[.ref b] meth c cL_law 9 RL (Cond.initialized "Bytewell" :: vGW) D vCl (vTy k) s.heap.size) (hE : vEL s.heap.size s) (hl : l.stackTraces = false) (hX : va_X b LL xs s s.heap) (hbl : b < s.heap.size) (hLL : LL ≤ 3072) {i : Nat} (hi : i + 6 ≤ LL) {cells slots : Nat} (hc : cells + 8 ≤ 603072) (hs : slots + 800 ≤ 7219306) {L : List Nat} {f : Nat → va_E} {B : Nat → Nat → Int32} {Ln Rm : Nat → Nat} {Rd : Nat → Option Nat} {Pl Mk : Nat → Nat} {G : Nat → Nat → Int32} {Sz : Nat → Nat} {Kp : Nat → Int32} {th : Int32} {gL : Nat → Int64} {gD : Nat → UInt64} (h : lInv k o ou od x L f B Ln Rm Rd Pl Mk G Sz Kp th gL gD) (kk : lNext p l e s m below meth c D k o b x ou od Q i cells slots) :
    vV p l e room_1 s m #[.ref b] below meth c 9 D vCl s.heap.size Q (va_pl L f) cells slots 640 [(5, .int (nI i)), (4, .ref od), (3, .ref ou), (2, .ref (o 0)), (1, .ref x), (0, .ref b)] [] := by
  have hZ := lZ.mem h
  obtain ⟨hi0, hm0, hou, hod, fou, fod, ho1, ho2, ho3⟩ := h
  obtain ⟨kk9, v, B', Ln', Rm', Rd', Pl', Mk', G', Sz', hkk, hct, hm9⟩ := lc_isLike l D k s.heap.size L f (lZ o ou od) x B Ln Rm Rd Pl Mk G Sz hl hi0 hZ ou gL hou (Or.inr (Or.inl rfl)) fou (xs (i + 1)) (xs (i + 2))
  refine vAloadN X dL_law_640 4 rfl ?_
  refine vAloadN X dL_law_641 5 rfl ?_
  refine vIload X dL_law_642 0 rfl ?_
  refine vIconst X dL_law_644 (v := nI 1) (by decide) ?_
  refine vIadd X dL_law_645 (nI_add i 1) ?_
  refine vSld X hX hbl (Nat.le_refl _) hLL (j := i + 1) rfl (by omega) dL_law_646 ?_
  refine vAloadN X dL_law_647 5 rfl ?_
  refine vIload X dL_law_648 0 rfl ?_
  refine vIconst X dL_law_650 (v := nI 2) (by decide) ?_
  refine vIadd X dL_law_651 (nI_add i 2) ?_
  refine vSld X hX hbl (Nat.le_refl _) hLL (j := i + 2) rfl (by omega) dL_law_652 ?_
  refine vAloadN X dL_law_653 2 rfl ?_
  refine vCallL X hE [] hct (vGL q_423 q_424 q_23 q_425) rfl ⟨by decide, by decide, (show _ = some 4 from by decide +kernel)⟩ ⟨(Nat.le_of_ble_eq_true rfl), (Nat.le_of_ble_eq_true rfl)⟩ rfl (Nat.le_of_ble_eq_true rfl) dL_law_654 ⟨(show cells + 1 ≤ 603072 by omega), (show slots + 6 ≤ 7219306 by omega)⟩ (fun v9 w9 hp9 => ?_)
  obtain ⟨L1, f1, g1, rfl, rfl, hk1, fo1, hg1, hi1⟩ := hp9
  refine vIstore X [(6, .int (nI kk9)), (5, .int (nI i)), (4, .ref od), (3, .ref ou), (2, .ref (o 0)), (1, .ref x), (0, .ref b)] dL_law_657 (by decide) rfl ?_
  have hm1 : mIn k o L1 f1 B Ln Rm Rd Pl Mk G Sz Kp th := hm0.kp (fun a ha => (hk1 a ha).1) (fun j hj => (hk1 _ (hm0.1 j hj)).2 (Or.inl ⟨j, hj, rfl⟩) (fun e => ho1 j hj e.symm))
  obtain ⟨Kp', hm8⟩ := hm9 o Kp th
  have hmc := hm1.call hm8
  refine vAloadN X dL_law_659 4 rfl ?_
  refine vAloadN X dL_law_660 6 rfl ?_
  refine vIload X dL_law_661 1 rfl ?_
  refine vIconst X dL_law_663 (v := nI 1) (by decide) ?_
  refine vIadd X dL_law_664 (nI_add i 1) ?_
  refine vSld X hX hbl (Nat.le_refl _) hLL (j := i + 1) rfl (by omega) dL_law_665 ?_
  refine vAloadN X dL_law_666 6 rfl ?_
  refine vIload X dL_law_667 1 rfl ?_
  refine vIconst X dL_law_669 (v := nI 2) (by decide) ?_
  refine vIadd X dL_law_670 (nI_add i 2) ?_
  refine vSld X hX hbl (Nat.le_refl _) hLL (j := i + 2) rfl (by omega) dL_law_671 ?_
  obtain ⟨ix, hix⟩ := vp_ix (f := f1) (hm1.1 0 (by decide))
  have hfo : f1 (o 0) = .inr (4, _) := hm1.2.2 0 (by decide)
  refine vCallV X [] hmc (vGV q_830 q_831 q_832 q_29 q_833) ⟨by decide, by decide, (show _ = some 2 from by decide +kernel)⟩ ⟨(Nat.le_of_ble_eq_true rfl), (Nat.le_of_ble_eq_true rfl)⟩ ix 4 rfl rfl (hix.trans (by rw [hfo])) rfl (Nat.le_of_ble_eq_true rfl) dL_law_672 ⟨(show cells + 1 + 0 ≤ 603072 by omega), (show slots + 6 + 0 ≤ 7219306 by omega)⟩ (fun v8 w8 hp8 => ?_)
  obtain ⟨rfl, f2, rfl, hk2, hm2⟩ := hp8
  refine vIstore X [(7, .int v), (6, .int (nI kk9)), (5, .int (nI i)), (4, .ref od), (3, .ref ou), (2, .ref (o 0)), (1, .ref x), (0, .ref b)] dL_law_675 (by decide) rfl ?_
  have hmt := hm2.call (fun pl => mm_thrown l D k o pl s.heap.size B' Ln' Rm' Rd' Pl' Mk' G' Sz' Kp' (nI kk9))
  refine vAloadN X dL_law_677 5 rfl ?_
  obtain ⟨ixt, hixt⟩ := vp_ix (f := f2) (hm2.1 0 (by decide))
  have hfot : f2 (o 0) = .inr (4, _) := hm2.2.2 0 (by decide)
  refine vCallV X [] hmt (vGV q_774 q_775 q_776 q_29 q_777) ⟨by decide, by decide, (show _ = some 0 from by decide +kernel)⟩ ⟨(Nat.le_of_ble_eq_true rfl), (Nat.le_of_ble_eq_true rfl)⟩ ixt 4 rfl rfl (hixt.trans (by rw [hfot])) rfl (Nat.le_of_ble_eq_true rfl) dL_law_678 ⟨(show cells + 1 + 0 + 0 ≤ 603072 by omega), (show slots + 6 + 0 + 0 ≤ 7219306 by omega)⟩ (fun v8 w8 hp8 => ?_)
  obtain ⟨rfl, f3, rfl, hk3, hm3⟩ := hp8
  refine vIload X dL_law_681 1 rfl ?_
  refine vIcmp_eqT X 688 dL_law_683 (by decide) rfl ?_
  have fo3 : f3 ou = .inl (k 5, 1, .inr (.inl g1)) := (hk3 ou ho1).trans ((hk2 ou ho1).trans fo1)
  have fo4 := (hk3 od ho2).trans ((hk2 od ho2).trans (((hk1 od hod).2 (Or.inr (Or.inr rfl)) (Ne.symm ho3)).trans fod))
  have hfin : lInv k o ou od x L1 f3 B' Ln' Rm' Rd' Pl' Mk' G' Sz' Kp' (nI kk9) g1 gD := ⟨hi1.foreign (fun t ht => ⟨ht, fun hz => (hk3 t (fun j hj e => hz (Or.inl ⟨j, hj, e⟩))).trans (hk2 t (fun j hj e => hz (Or.inl ⟨j, hj, e⟩)))⟩), hm3, (hk1 ou hou).1, (hk1 od hod).1, fo3, fo4, ho1, ho2, ho3⟩
  refine vIload X dL_law_688 1 rfl ?_
  by_cases h0 : kk9 = 0
  rotate_left
  · refine vIf_neT X 712 dL_law_690 (by decide) (nkk h0 (by omega)) ?_
    refine vGoto X 2499 dL_law_712 (by decide) ?_
    refine vSub [2, 3, 4, 5, 6, 7] [(5, .int (nI i)), (4, .ref od), (3, .ref ou), (2, .ref (o 0)), (1, .ref x), (0, .ref b)] rfl ?_
    refine vWiden (cells + 8) (slots + 800) (by omega) (by omega) ?_
    exact kk _ _ _ _ _ _ _ _ _ _ _ _ _ _ hfin
  · refine vIf_neF X 712 dL_law_690 (by decide) (by rw [h0]; rfl) ?_
    refine vAloadN X dL_law_693 4 rfl ?_
    refine vIconst X dL_law_694 (v := nI 0) (by decide) ?_
    refine vpLaload X (hk1 ou hou).1 fo3 5 rfl rfl (by decide) (by decide) (hg1 h0) dL_law_695 ?_
    refine vIload X dL_law_696 0 rfl ?_
    by_cases hv : v = 0
    · have hb : bL v = 0 := by simp [bL, hv]
      rw [hb]
      refine vIf_eqT X 705 dL_law_698 (by decide) hv ?_
      refine vLconst X dL_law_705 (v := 0) (by decide) ?_
      refine vLcmp X dL_law_706 ?_
      refine vIf_eqT X 712 dL_law_707 (by decide) (lgc_self _) ?_
      refine vGoto X 2499 dL_law_712 (by decide) ?_
      refine vSub [2, 3, 4, 5, 6, 7] [(5, .int (nI i)), (4, .ref od), (3, .ref ou), (2, .ref (o 0)), (1, .ref x), (0, .ref b)] rfl ?_
      refine vWiden (cells + 8) (slots + 800) (by omega) (by omega) ?_
      exact kk _ _ _ _ _ _ _ _ _ _ _ _ _ _ hfin
    · have hb : bL v = 1 := by simp [bL, hv]
      rw [hb]
      refine vIf_eqF X 705 dL_law_698 (by decide) hv ?_
      refine vLconst X dL_law_701 (v := 1) (by decide) ?_
      refine vGoto X 706 dL_law_702 (by decide) ?_
      refine vLcmp X dL_law_706 ?_
      refine vIf_eqT X 712 dL_law_707 (by decide) (lgc_self _) ?_
      refine vGoto X 2499 dL_law_712 (by decide) ?_
      refine vSub [2, 3, 4, 5, 6, 7] [(5, .int (nI i)), (4, .ref od), (3, .ref ou), (2, .ref (o 0)), (1, .ref x), (0, .ref b)] rfl ?_
      refine vWiden (cells + 8) (slots + 800) (by omega) (by omega) ?_
      exact kk _ _ _ _ _ _ _ _ _ _ _ _ _ _ hfin
set_option maxHeartbeats 4000000 in
theorem lw_write {p : Program} {e : Env} {s : State} {m : MethodId} {below : List Frame} {meth : Method} {c : Code} (l : Launch) {D : va_G} {k : Nat → ClassId} {o : Nat → Nat} {b LL x ou od : Nat} {xs : Nat → Int32} {Q : State → Prop} (X : vCX p s m #[.ref b] meth c cL_law 9 RL (Cond.initialized "Bytewell" :: vGW) D vCl (vTy k) s.heap.size) (hE : vEL s.heap.size s) (hl : l.stackTraces = false) (hX : va_X b LL xs s s.heap) (hbl : b < s.heap.size) (hLL : LL ≤ 3072) {i : Nat} (hi : i + 6 ≤ LL) {cells slots : Nat} (hc : cells + 8 ≤ 603072) (hs : slots + 800 ≤ 7219306) {L : List Nat} {f : Nat → va_E} {B : Nat → Nat → Int32} {Ln Rm : Nat → Nat} {Rd : Nat → Option Nat} {Pl Mk : Nat → Nat} {G : Nat → Nat → Int32} {Sz : Nat → Nat} {Kp : Nat → Int32} {th : Int32} {gL : Nat → Int64} {gD : Nat → UInt64} (h : lInv k o ou od x L f B Ln Rm Rd Pl Mk G Sz Kp th gL gD) (kk : lNext p l e s m below meth c D k o b x ou od Q i cells slots) :
    vV p l e room_1 s m #[.ref b] below meth c 9 D vCl s.heap.size Q (va_pl L f) cells slots 715 [(5, .int (nI i)), (4, .ref od), (3, .ref ou), (2, .ref (o 0)), (1, .ref x), (0, .ref b)] [] := by
  have hZ := lZ.mem h
  obtain ⟨hi0, hm0, hou, hod, fou, fod, ho1, ho2, ho3⟩ := h
  obtain ⟨kk9, v, B', Ln', Rm', Rd', Pl', Mk', G', Sz', hkk, hct, hm9⟩ := lc_write l D k s.heap.size L f (lZ o ou od) x B Ln Rm Rd Pl Mk G Sz hl hi0 hZ ou gL hou (Or.inr (Or.inl rfl)) fou (xs (i + 1)) (xs (i + 2))
  refine vAloadN X dL_law_715 4 rfl ?_
  refine vAloadN X dL_law_716 5 rfl ?_
  refine vIload X dL_law_717 0 rfl ?_
  refine vIconst X dL_law_719 (v := nI 1) (by decide) ?_
  refine vIadd X dL_law_720 (nI_add i 1) ?_
  refine vSld X hX hbl (Nat.le_refl _) hLL (j := i + 1) rfl (by omega) dL_law_721 ?_
  refine vAloadN X dL_law_722 5 rfl ?_
  refine vIload X dL_law_723 0 rfl ?_
  refine vIconst X dL_law_725 (v := nI 2) (by decide) ?_
  refine vIadd X dL_law_726 (nI_add i 2) ?_
  refine vSld X hX hbl (Nat.le_refl _) hLL (j := i + 2) rfl (by omega) dL_law_727 ?_
  refine vAloadN X dL_law_728 2 rfl ?_
  refine vCallL X hE [] hct (vGL q_430 q_431 q_23 q_432) rfl ⟨by decide, by decide, (show _ = some 4 from by decide +kernel)⟩ ⟨(Nat.le_of_ble_eq_true rfl), (Nat.le_of_ble_eq_true rfl)⟩ rfl (Nat.le_of_ble_eq_true rfl) dL_law_729 ⟨(show cells + 1 ≤ 603072 by omega), (show slots + 6 ≤ 7219306 by omega)⟩ (fun v9 w9 hp9 => ?_)
  obtain ⟨L1, f1, g1, rfl, rfl, hk1, fo1, hg1, hi1⟩ := hp9
  refine vIstore X [(6, .int (nI kk9)), (5, .int (nI i)), (4, .ref od), (3, .ref ou), (2, .ref (o 0)), (1, .ref x), (0, .ref b)] dL_law_732 (by decide) rfl ?_
  have hm1 : mIn k o L1 f1 B Ln Rm Rd Pl Mk G Sz Kp th := hm0.kp (fun a ha => (hk1 a ha).1) (fun j hj => (hk1 _ (hm0.1 j hj)).2 (Or.inl ⟨j, hj, rfl⟩) (fun e => ho1 j hj e.symm))
  obtain ⟨Kp', hm8⟩ := hm9 o Kp th
  have hmc := hm1.call hm8
  refine vAloadN X dL_law_734 4 rfl ?_
  refine vAloadN X dL_law_735 6 rfl ?_
  refine vIload X dL_law_736 1 rfl ?_
  refine vIconst X dL_law_738 (v := nI 1) (by decide) ?_
  refine vIadd X dL_law_739 (nI_add i 1) ?_
  refine vSld X hX hbl (Nat.le_refl _) hLL (j := i + 1) rfl (by omega) dL_law_740 ?_
  refine vAloadN X dL_law_741 6 rfl ?_
  refine vIload X dL_law_742 1 rfl ?_
  refine vIconst X dL_law_744 (v := nI 2) (by decide) ?_
  refine vIadd X dL_law_745 (nI_add i 2) ?_
  refine vSld X hX hbl (Nat.le_refl _) hLL (j := i + 2) rfl (by omega) dL_law_746 ?_
  obtain ⟨ix, hix⟩ := vp_ix (f := f1) (hm1.1 0 (by decide))
  have hfo : f1 (o 0) = .inr (4, _) := hm1.2.2 0 (by decide)
  refine vCallV X [] hmc (vGV q_834 q_835 q_836 q_29 q_837) ⟨by decide, by decide, (show _ = some 2 from by decide +kernel)⟩ ⟨(Nat.le_of_ble_eq_true rfl), (Nat.le_of_ble_eq_true rfl)⟩ ix 4 rfl rfl (hix.trans (by rw [hfo])) rfl (Nat.le_of_ble_eq_true rfl) dL_law_747 ⟨(show cells + 1 + 0 ≤ 603072 by omega), (show slots + 6 + 0 ≤ 7219306 by omega)⟩ (fun v8 w8 hp8 => ?_)
  obtain ⟨rfl, f2, rfl, hk2, hm2⟩ := hp8
  refine vIstore X [(7, .int v), (6, .int (nI kk9)), (5, .int (nI i)), (4, .ref od), (3, .ref ou), (2, .ref (o 0)), (1, .ref x), (0, .ref b)] dL_law_750 (by decide) rfl ?_
  have hmt := hm2.call (fun pl => mm_thrown l D k o pl s.heap.size B' Ln' Rm' Rd' Pl' Mk' G' Sz' Kp' (nI kk9))
  refine vAloadN X dL_law_752 5 rfl ?_
  obtain ⟨ixt, hixt⟩ := vp_ix (f := f2) (hm2.1 0 (by decide))
  have hfot : f2 (o 0) = .inr (4, _) := hm2.2.2 0 (by decide)
  refine vCallV X [] hmt (vGV q_774 q_775 q_776 q_29 q_777) ⟨by decide, by decide, (show _ = some 0 from by decide +kernel)⟩ ⟨(Nat.le_of_ble_eq_true rfl), (Nat.le_of_ble_eq_true rfl)⟩ ixt 4 rfl rfl (hixt.trans (by rw [hfot])) rfl (Nat.le_of_ble_eq_true rfl) dL_law_753 ⟨(show cells + 1 + 0 + 0 ≤ 603072 by omega), (show slots + 6 + 0 + 0 ≤ 7219306 by omega)⟩ (fun v8 w8 hp8 => ?_)
  obtain ⟨rfl, f3, rfl, hk3, hm3⟩ := hp8
  refine vIload X dL_law_756 1 rfl ?_
  refine vIcmp_eqT X 763 dL_law_758 (by decide) rfl ?_
  have fo3 : f3 ou = .inl (k 5, 1, .inr (.inl g1)) := (hk3 ou ho1).trans ((hk2 ou ho1).trans fo1)
  have fo4 := (hk3 od ho2).trans ((hk2 od ho2).trans (((hk1 od hod).2 (Or.inr (Or.inr rfl)) (Ne.symm ho3)).trans fod))
  have hfin : lInv k o ou od x L1 f3 B' Ln' Rm' Rd' Pl' Mk' G' Sz' Kp' (nI kk9) g1 gD := ⟨hi1.foreign (fun t ht => ⟨ht, fun hz => (hk3 t (fun j hj e => hz (Or.inl ⟨j, hj, e⟩))).trans (hk2 t (fun j hj e => hz (Or.inl ⟨j, hj, e⟩)))⟩), hm3, (hk1 ou hou).1, (hk1 od hod).1, fo3, fo4, ho1, ho2, ho3⟩
  refine vIload X dL_law_763 1 rfl ?_
  by_cases h0 : kk9 = 0
  rotate_left
  · refine vIf_neT X 780 dL_law_765 (by decide) (nkk h0 (by omega)) ?_
    refine vGoto X 2499 dL_law_780 (by decide) ?_
    refine vSub [2, 3, 4, 5, 6, 7] [(5, .int (nI i)), (4, .ref od), (3, .ref ou), (2, .ref (o 0)), (1, .ref x), (0, .ref b)] rfl ?_
    refine vWiden (cells + 8) (slots + 800) (by omega) (by omega) ?_
    exact kk _ _ _ _ _ _ _ _ _ _ _ _ _ _ hfin
  · refine vIf_neF X 780 dL_law_765 (by decide) (by rw [h0]; rfl) ?_
    refine vAloadN X dL_law_768 4 rfl ?_
    refine vIconst X dL_law_769 (v := nI 0) (by decide) ?_
    refine vpLaload X (hk1 ou hou).1 fo3 5 rfl rfl (by decide) (by decide) (hg1 h0) dL_law_770 ?_
    refine vIload X dL_law_771 0 rfl ?_
    refine vI2l X dL_law_773 (v := v.toInt64) rfl ?_
    refine vLcmp X dL_law_774 ?_
    refine vIf_eqT X 780 dL_law_775 (by decide) (lgc_self _) ?_
    refine vGoto X 2499 dL_law_780 (by decide) ?_
    refine vSub [2, 3, 4, 5, 6, 7] [(5, .int (nI i)), (4, .ref od), (3, .ref ou), (2, .ref (o 0)), (1, .ref x), (0, .ref b)] rfl ?_
    refine vWiden (cells + 8) (slots + 800) (by omega) (by omega) ?_
    exact kk _ _ _ _ _ _ _ _ _ _ _ _ _ _ hfin
set_option maxHeartbeats 4000000 in
theorem lw_writePart {p : Program} {e : Env} {s : State} {m : MethodId} {below : List Frame} {meth : Method} {c : Code} (l : Launch) {D : va_G} {k : Nat → ClassId} {o : Nat → Nat} {b LL x ou od : Nat} {xs : Nat → Int32} {Q : State → Prop} (X : vCX p s m #[.ref b] meth c cL_law 9 RL (Cond.initialized "Bytewell" :: vGW) D vCl (vTy k) s.heap.size) (hE : vEL s.heap.size s) (hl : l.stackTraces = false) (hX : va_X b LL xs s s.heap) (hbl : b < s.heap.size) (hLL : LL ≤ 3072) {i : Nat} (hi : i + 6 ≤ LL) {cells slots : Nat} (hc : cells + 8 ≤ 603072) (hs : slots + 800 ≤ 7219306) {L : List Nat} {f : Nat → va_E} {B : Nat → Nat → Int32} {Ln Rm : Nat → Nat} {Rd : Nat → Option Nat} {Pl Mk : Nat → Nat} {G : Nat → Nat → Int32} {Sz : Nat → Nat} {Kp : Nat → Int32} {th : Int32} {gL : Nat → Int64} {gD : Nat → UInt64} (h : lInv k o ou od x L f B Ln Rm Rd Pl Mk G Sz Kp th gL gD) (kk : lNext p l e s m below meth c D k o b x ou od Q i cells slots) :
    vV p l e room_1 s m #[.ref b] below meth c 9 D vCl s.heap.size Q (va_pl L f) cells slots 783 [(5, .int (nI i)), (4, .ref od), (3, .ref ou), (2, .ref (o 0)), (1, .ref x), (0, .ref b)] [] := by
  have hZ := lZ.mem h
  obtain ⟨hi0, hm0, hou, hod, fou, fod, ho1, ho2, ho3⟩ := h
  obtain ⟨kk9, v, B', Ln', Rm', Rd', Pl', Mk', G', Sz', hkk, hct, hm9⟩ := lc_writePart l D k s.heap.size L f (lZ o ou od) x B Ln Rm Rd Pl Mk G Sz hl hi0 hZ ou gL hou (Or.inr (Or.inl rfl)) fou (xs (i + 1)) (xs (i + 2)) (xs (i + 3)) (xs (i + 4))
  refine vAloadN X dL_law_783 4 rfl ?_
  refine vAloadN X dL_law_784 5 rfl ?_
  refine vIload X dL_law_785 0 rfl ?_
  refine vIconst X dL_law_787 (v := nI 1) (by decide) ?_
  refine vIadd X dL_law_788 (nI_add i 1) ?_
  refine vSld X hX hbl (Nat.le_refl _) hLL (j := i + 1) rfl (by omega) dL_law_789 ?_
  refine vAloadN X dL_law_790 5 rfl ?_
  refine vIload X dL_law_791 0 rfl ?_
  refine vIconst X dL_law_793 (v := nI 2) (by decide) ?_
  refine vIadd X dL_law_794 (nI_add i 2) ?_
  refine vSld X hX hbl (Nat.le_refl _) hLL (j := i + 2) rfl (by omega) dL_law_795 ?_
  refine vAloadN X dL_law_796 5 rfl ?_
  refine vIload X dL_law_797 0 rfl ?_
  refine vIconst X dL_law_799 (v := nI 3) (by decide) ?_
  refine vIadd X dL_law_800 (nI_add i 3) ?_
  refine vSld X hX hbl (Nat.le_refl _) hLL (j := i + 3) rfl (by omega) dL_law_801 ?_
  refine vAloadN X dL_law_802 5 rfl ?_
  refine vIload X dL_law_803 0 rfl ?_
  refine vIconst X dL_law_805 (v := nI 4) (by decide) ?_
  refine vIadd X dL_law_806 (nI_add i 4) ?_
  refine vSld X hX hbl (Nat.le_refl _) hLL (j := i + 4) rfl (by omega) dL_law_807 ?_
  refine vAloadN X dL_law_808 2 rfl ?_
  refine vCallL X hE [] hct (vGL q_472 q_473 q_23 q_474) rfl ⟨by decide, by decide, (show _ = some 6 from by decide +kernel)⟩ ⟨(Nat.le_of_ble_eq_true rfl), (Nat.le_of_ble_eq_true rfl)⟩ rfl (Nat.le_of_ble_eq_true rfl) dL_law_809 ⟨(show cells + 1 ≤ 603072 by omega), (show slots + 6 ≤ 7219306 by omega)⟩ (fun v9 w9 hp9 => ?_)
  obtain ⟨L1, f1, g1, rfl, rfl, hk1, fo1, hg1, hi1⟩ := hp9
  refine vIstore X [(6, .int (nI kk9)), (5, .int (nI i)), (4, .ref od), (3, .ref ou), (2, .ref (o 0)), (1, .ref x), (0, .ref b)] dL_law_812 (by decide) rfl ?_
  have hm1 : mIn k o L1 f1 B Ln Rm Rd Pl Mk G Sz Kp th := hm0.kp (fun a ha => (hk1 a ha).1) (fun j hj => (hk1 _ (hm0.1 j hj)).2 (Or.inl ⟨j, hj, rfl⟩) (fun e => ho1 j hj e.symm))
  obtain ⟨Kp', hm8⟩ := hm9 o Kp th
  have hmc := hm1.call hm8
  refine vAloadN X dL_law_814 4 rfl ?_
  refine vAloadN X dL_law_815 6 rfl ?_
  refine vIload X dL_law_816 1 rfl ?_
  refine vIconst X dL_law_818 (v := nI 1) (by decide) ?_
  refine vIadd X dL_law_819 (nI_add i 1) ?_
  refine vSld X hX hbl (Nat.le_refl _) hLL (j := i + 1) rfl (by omega) dL_law_820 ?_
  refine vAloadN X dL_law_821 6 rfl ?_
  refine vIload X dL_law_822 1 rfl ?_
  refine vIconst X dL_law_824 (v := nI 2) (by decide) ?_
  refine vIadd X dL_law_825 (nI_add i 2) ?_
  refine vSld X hX hbl (Nat.le_refl _) hLL (j := i + 2) rfl (by omega) dL_law_826 ?_
  refine vAloadN X dL_law_827 6 rfl ?_
  refine vIload X dL_law_828 1 rfl ?_
  refine vIconst X dL_law_830 (v := nI 3) (by decide) ?_
  refine vIadd X dL_law_831 (nI_add i 3) ?_
  refine vSld X hX hbl (Nat.le_refl _) hLL (j := i + 3) rfl (by omega) dL_law_832 ?_
  refine vAloadN X dL_law_833 6 rfl ?_
  refine vIload X dL_law_834 1 rfl ?_
  refine vIconst X dL_law_836 (v := nI 4) (by decide) ?_
  refine vIadd X dL_law_837 (nI_add i 4) ?_
  refine vSld X hX hbl (Nat.le_refl _) hLL (j := i + 4) rfl (by omega) dL_law_838 ?_
  obtain ⟨ix, hix⟩ := vp_ix (f := f1) (hm1.1 0 (by decide))
  have hfo : f1 (o 0) = .inr (4, _) := hm1.2.2 0 (by decide)
  refine vCallV X [] hmc (vGV q_850 q_851 q_852 q_29 q_853) ⟨by decide, by decide, (show _ = some 4 from by decide +kernel)⟩ ⟨(Nat.le_of_ble_eq_true rfl), (Nat.le_of_ble_eq_true rfl)⟩ ix 4 rfl rfl (hix.trans (by rw [hfo])) rfl (Nat.le_of_ble_eq_true rfl) dL_law_839 ⟨(show cells + 1 + 0 ≤ 603072 by omega), (show slots + 6 + 0 ≤ 7219306 by omega)⟩ (fun v8 w8 hp8 => ?_)
  obtain ⟨rfl, f2, rfl, hk2, hm2⟩ := hp8
  refine vIstore X [(7, .int v), (6, .int (nI kk9)), (5, .int (nI i)), (4, .ref od), (3, .ref ou), (2, .ref (o 0)), (1, .ref x), (0, .ref b)] dL_law_842 (by decide) rfl ?_
  have hmt := hm2.call (fun pl => mm_thrown l D k o pl s.heap.size B' Ln' Rm' Rd' Pl' Mk' G' Sz' Kp' (nI kk9))
  refine vAloadN X dL_law_844 5 rfl ?_
  obtain ⟨ixt, hixt⟩ := vp_ix (f := f2) (hm2.1 0 (by decide))
  have hfot : f2 (o 0) = .inr (4, _) := hm2.2.2 0 (by decide)
  refine vCallV X [] hmt (vGV q_774 q_775 q_776 q_29 q_777) ⟨by decide, by decide, (show _ = some 0 from by decide +kernel)⟩ ⟨(Nat.le_of_ble_eq_true rfl), (Nat.le_of_ble_eq_true rfl)⟩ ixt 4 rfl rfl (hixt.trans (by rw [hfot])) rfl (Nat.le_of_ble_eq_true rfl) dL_law_845 ⟨(show cells + 1 + 0 + 0 ≤ 603072 by omega), (show slots + 6 + 0 + 0 ≤ 7219306 by omega)⟩ (fun v8 w8 hp8 => ?_)
  obtain ⟨rfl, f3, rfl, hk3, hm3⟩ := hp8
  refine vIload X dL_law_848 1 rfl ?_
  refine vIcmp_eqT X 855 dL_law_850 (by decide) rfl ?_
  have fo3 : f3 ou = .inl (k 5, 1, .inr (.inl g1)) := (hk3 ou ho1).trans ((hk2 ou ho1).trans fo1)
  have fo4 := (hk3 od ho2).trans ((hk2 od ho2).trans (((hk1 od hod).2 (Or.inr (Or.inr rfl)) (Ne.symm ho3)).trans fod))
  have hfin : lInv k o ou od x L1 f3 B' Ln' Rm' Rd' Pl' Mk' G' Sz' Kp' (nI kk9) g1 gD := ⟨hi1.foreign (fun t ht => ⟨ht, fun hz => (hk3 t (fun j hj e => hz (Or.inl ⟨j, hj, e⟩))).trans (hk2 t (fun j hj e => hz (Or.inl ⟨j, hj, e⟩)))⟩), hm3, (hk1 ou hou).1, (hk1 od hod).1, fo3, fo4, ho1, ho2, ho3⟩
  refine vIload X dL_law_855 1 rfl ?_
  by_cases h0 : kk9 = 0
  rotate_left
  · refine vIf_neT X 872 dL_law_857 (by decide) (nkk h0 (by omega)) ?_
    refine vGoto X 2499 dL_law_872 (by decide) ?_
    refine vSub [2, 3, 4, 5, 6, 7] [(5, .int (nI i)), (4, .ref od), (3, .ref ou), (2, .ref (o 0)), (1, .ref x), (0, .ref b)] rfl ?_
    refine vWiden (cells + 8) (slots + 800) (by omega) (by omega) ?_
    exact kk _ _ _ _ _ _ _ _ _ _ _ _ _ _ hfin
  · refine vIf_neF X 872 dL_law_857 (by decide) (by rw [h0]; rfl) ?_
    refine vAloadN X dL_law_860 4 rfl ?_
    refine vIconst X dL_law_861 (v := nI 0) (by decide) ?_
    refine vpLaload X (hk1 ou hou).1 fo3 5 rfl rfl (by decide) (by decide) (hg1 h0) dL_law_862 ?_
    refine vIload X dL_law_863 0 rfl ?_
    refine vI2l X dL_law_865 (v := v.toInt64) rfl ?_
    refine vLcmp X dL_law_866 ?_
    refine vIf_eqT X 872 dL_law_867 (by decide) (lgc_self _) ?_
    refine vGoto X 2499 dL_law_872 (by decide) ?_
    refine vSub [2, 3, 4, 5, 6, 7] [(5, .int (nI i)), (4, .ref od), (3, .ref ou), (2, .ref (o 0)), (1, .ref x), (0, .ref b)] rfl ?_
    refine vWiden (cells + 8) (slots + 800) (by omega) (by omega) ?_
    exact kk _ _ _ _ _ _ _ _ _ _ _ _ _ _ hfin
set_option maxHeartbeats 4000000 in
theorem lw_writeRow {p : Program} {e : Env} {s : State} {m : MethodId} {below : List Frame} {meth : Method} {c : Code} (l : Launch) {D : va_G} {k : Nat → ClassId} {o : Nat → Nat} {b LL x ou od : Nat} {xs : Nat → Int32} {Q : State → Prop} (X : vCX p s m #[.ref b] meth c cL_law 9 RL (Cond.initialized "Bytewell" :: vGW) D vCl (vTy k) s.heap.size) (hE : vEL s.heap.size s) (hl : l.stackTraces = false) (hX : va_X b LL xs s s.heap) (hbl : b < s.heap.size) (hLL : LL ≤ 3072) {i : Nat} (hi : i + 6 ≤ LL) {cells slots : Nat} (hc : cells + 8 ≤ 603072) (hs : slots + 800 ≤ 7219306) {L : List Nat} {f : Nat → va_E} {B : Nat → Nat → Int32} {Ln Rm : Nat → Nat} {Rd : Nat → Option Nat} {Pl Mk : Nat → Nat} {G : Nat → Nat → Int32} {Sz : Nat → Nat} {Kp : Nat → Int32} {th : Int32} {gL : Nat → Int64} {gD : Nat → UInt64} (h : lInv k o ou od x L f B Ln Rm Rd Pl Mk G Sz Kp th gL gD) (kk : lNext p l e s m below meth c D k o b x ou od Q i cells slots) :
    vV p l e room_1 s m #[.ref b] below meth c 9 D vCl s.heap.size Q (va_pl L f) cells slots 875 [(5, .int (nI i)), (4, .ref od), (3, .ref ou), (2, .ref (o 0)), (1, .ref x), (0, .ref b)] [] := by
  have hZ := lZ.mem h
  obtain ⟨hi0, hm0, hou, hod, fou, fod, ho1, ho2, ho3⟩ := h
  obtain ⟨kk9, v, B', Ln', Rm', Rd', Pl', Mk', G', Sz', hkk, hct, hm9⟩ := lc_writeRow l D k s.heap.size L f (lZ o ou od) x B Ln Rm Rd Pl Mk G Sz hl hi0 hZ ou gL hou (Or.inr (Or.inl rfl)) fou (xs (i + 1)) (xs (i + 2))
  refine vAloadN X dL_law_875 4 rfl ?_
  refine vAloadN X dL_law_876 5 rfl ?_
  refine vIload X dL_law_877 0 rfl ?_
  refine vIconst X dL_law_879 (v := nI 1) (by decide) ?_
  refine vIadd X dL_law_880 (nI_add i 1) ?_
  refine vSld X hX hbl (Nat.le_refl _) hLL (j := i + 1) rfl (by omega) dL_law_881 ?_
  refine vAloadN X dL_law_882 5 rfl ?_
  refine vIload X dL_law_883 0 rfl ?_
  refine vIconst X dL_law_885 (v := nI 2) (by decide) ?_
  refine vIadd X dL_law_886 (nI_add i 2) ?_
  refine vSld X hX hbl (Nat.le_refl _) hLL (j := i + 2) rfl (by omega) dL_law_887 ?_
  refine vAloadN X dL_law_888 2 rfl ?_
  refine vCallL X hE [] hct (vGL q_480 q_481 q_23 q_482) rfl ⟨by decide, by decide, (show _ = some 4 from by decide +kernel)⟩ ⟨(Nat.le_of_ble_eq_true rfl), (Nat.le_of_ble_eq_true rfl)⟩ rfl (Nat.le_of_ble_eq_true rfl) dL_law_889 ⟨(show cells + 1 ≤ 603072 by omega), (show slots + 6 ≤ 7219306 by omega)⟩ (fun v9 w9 hp9 => ?_)
  obtain ⟨L1, f1, g1, rfl, rfl, hk1, fo1, hg1, hi1⟩ := hp9
  refine vIstore X [(6, .int (nI kk9)), (5, .int (nI i)), (4, .ref od), (3, .ref ou), (2, .ref (o 0)), (1, .ref x), (0, .ref b)] dL_law_892 (by decide) rfl ?_
  have hm1 : mIn k o L1 f1 B Ln Rm Rd Pl Mk G Sz Kp th := hm0.kp (fun a ha => (hk1 a ha).1) (fun j hj => (hk1 _ (hm0.1 j hj)).2 (Or.inl ⟨j, hj, rfl⟩) (fun e => ho1 j hj e.symm))
  obtain ⟨Kp', hm8⟩ := hm9 o Kp th
  have hmc := hm1.call hm8
  refine vAloadN X dL_law_894 4 rfl ?_
  refine vAloadN X dL_law_895 6 rfl ?_
  refine vIload X dL_law_896 1 rfl ?_
  refine vIconst X dL_law_898 (v := nI 1) (by decide) ?_
  refine vIadd X dL_law_899 (nI_add i 1) ?_
  refine vSld X hX hbl (Nat.le_refl _) hLL (j := i + 1) rfl (by omega) dL_law_900 ?_
  refine vAloadN X dL_law_901 6 rfl ?_
  refine vIload X dL_law_902 1 rfl ?_
  refine vIconst X dL_law_904 (v := nI 2) (by decide) ?_
  refine vIadd X dL_law_905 (nI_add i 2) ?_
  refine vSld X hX hbl (Nat.le_refl _) hLL (j := i + 2) rfl (by omega) dL_law_906 ?_
  obtain ⟨ix, hix⟩ := vp_ix (f := f1) (hm1.1 0 (by decide))
  have hfo : f1 (o 0) = .inr (4, _) := hm1.2.2 0 (by decide)
  refine vCallV X [] hmc (vGV q_854 q_855 q_856 q_29 q_857) ⟨by decide, by decide, (show _ = some 2 from by decide +kernel)⟩ ⟨(Nat.le_of_ble_eq_true rfl), (Nat.le_of_ble_eq_true rfl)⟩ ix 4 rfl rfl (hix.trans (by rw [hfo])) rfl (Nat.le_of_ble_eq_true rfl) dL_law_907 ⟨(show cells + 1 + 0 ≤ 603072 by omega), (show slots + 6 + 0 ≤ 7219306 by omega)⟩ (fun v8 w8 hp8 => ?_)
  obtain ⟨rfl, f2, rfl, hk2, hm2⟩ := hp8
  refine vIstore X [(7, .int v), (6, .int (nI kk9)), (5, .int (nI i)), (4, .ref od), (3, .ref ou), (2, .ref (o 0)), (1, .ref x), (0, .ref b)] dL_law_910 (by decide) rfl ?_
  have hmt := hm2.call (fun pl => mm_thrown l D k o pl s.heap.size B' Ln' Rm' Rd' Pl' Mk' G' Sz' Kp' (nI kk9))
  refine vAloadN X dL_law_912 5 rfl ?_
  obtain ⟨ixt, hixt⟩ := vp_ix (f := f2) (hm2.1 0 (by decide))
  have hfot : f2 (o 0) = .inr (4, _) := hm2.2.2 0 (by decide)
  refine vCallV X [] hmt (vGV q_774 q_775 q_776 q_29 q_777) ⟨by decide, by decide, (show _ = some 0 from by decide +kernel)⟩ ⟨(Nat.le_of_ble_eq_true rfl), (Nat.le_of_ble_eq_true rfl)⟩ ixt 4 rfl rfl (hixt.trans (by rw [hfot])) rfl (Nat.le_of_ble_eq_true rfl) dL_law_913 ⟨(show cells + 1 + 0 + 0 ≤ 603072 by omega), (show slots + 6 + 0 + 0 ≤ 7219306 by omega)⟩ (fun v8 w8 hp8 => ?_)
  obtain ⟨rfl, f3, rfl, hk3, hm3⟩ := hp8
  refine vIload X dL_law_916 1 rfl ?_
  refine vIcmp_eqT X 923 dL_law_918 (by decide) rfl ?_
  have fo3 : f3 ou = .inl (k 5, 1, .inr (.inl g1)) := (hk3 ou ho1).trans ((hk2 ou ho1).trans fo1)
  have fo4 := (hk3 od ho2).trans ((hk2 od ho2).trans (((hk1 od hod).2 (Or.inr (Or.inr rfl)) (Ne.symm ho3)).trans fod))
  have hfin : lInv k o ou od x L1 f3 B' Ln' Rm' Rd' Pl' Mk' G' Sz' Kp' (nI kk9) g1 gD := ⟨hi1.foreign (fun t ht => ⟨ht, fun hz => (hk3 t (fun j hj e => hz (Or.inl ⟨j, hj, e⟩))).trans (hk2 t (fun j hj e => hz (Or.inl ⟨j, hj, e⟩)))⟩), hm3, (hk1 ou hou).1, (hk1 od hod).1, fo3, fo4, ho1, ho2, ho3⟩
  refine vIload X dL_law_923 1 rfl ?_
  by_cases h0 : kk9 = 0
  rotate_left
  · refine vIf_neT X 940 dL_law_925 (by decide) (nkk h0 (by omega)) ?_
    refine vGoto X 2499 dL_law_940 (by decide) ?_
    refine vSub [2, 3, 4, 5, 6, 7] [(5, .int (nI i)), (4, .ref od), (3, .ref ou), (2, .ref (o 0)), (1, .ref x), (0, .ref b)] rfl ?_
    refine vWiden (cells + 8) (slots + 800) (by omega) (by omega) ?_
    exact kk _ _ _ _ _ _ _ _ _ _ _ _ _ _ hfin
  · refine vIf_neF X 940 dL_law_925 (by decide) (by rw [h0]; rfl) ?_
    refine vAloadN X dL_law_928 4 rfl ?_
    refine vIconst X dL_law_929 (v := nI 0) (by decide) ?_
    refine vpLaload X (hk1 ou hou).1 fo3 5 rfl rfl (by decide) (by decide) (hg1 h0) dL_law_930 ?_
    refine vIload X dL_law_931 0 rfl ?_
    refine vI2l X dL_law_933 (v := v.toInt64) rfl ?_
    refine vLcmp X dL_law_934 ?_
    refine vIf_eqT X 940 dL_law_935 (by decide) (lgc_self _) ?_
    refine vGoto X 2499 dL_law_940 (by decide) ?_
    refine vSub [2, 3, 4, 5, 6, 7] [(5, .int (nI i)), (4, .ref od), (3, .ref ou), (2, .ref (o 0)), (1, .ref x), (0, .ref b)] rfl ?_
    refine vWiden (cells + 8) (slots + 800) (by omega) (by omega) ?_
    exact kk _ _ _ _ _ _ _ _ _ _ _ _ _ _ hfin
set_option maxHeartbeats 4000000 in
theorem lw_writeNumber {p : Program} {e : Env} {s : State} {m : MethodId} {below : List Frame} {meth : Method} {c : Code} (l : Launch) {D : va_G} {k : Nat → ClassId} {o : Nat → Nat} {b LL x ou od : Nat} {xs : Nat → Int32} {Q : State → Prop} (X : vCX p s m #[.ref b] meth c cL_law 9 RL (Cond.initialized "Bytewell" :: vGW) D vCl (vTy k) s.heap.size) (hE : vEL s.heap.size s) (hl : l.stackTraces = false) (hX : va_X b LL xs s s.heap) (hbl : b < s.heap.size) (hLL : LL ≤ 3072) {i : Nat} (hi : i + 6 ≤ LL) {cells slots : Nat} (hc : cells + 8 ≤ 603072) (hs : slots + 800 ≤ 7219306) {L : List Nat} {f : Nat → va_E} {B : Nat → Nat → Int32} {Ln Rm : Nat → Nat} {Rd : Nat → Option Nat} {Pl Mk : Nat → Nat} {G : Nat → Nat → Int32} {Sz : Nat → Nat} {Kp : Nat → Int32} {th : Int32} {gL : Nat → Int64} {gD : Nat → UInt64} (h : lInv k o ou od x L f B Ln Rm Rd Pl Mk G Sz Kp th gL gD) (kk : lNext p l e s m below meth c D k o b x ou od Q i cells slots) :
    vV p l e room_1 s m #[.ref b] below meth c 9 D vCl s.heap.size Q (va_pl L f) cells slots 943 [(5, .int (nI i)), (4, .ref od), (3, .ref ou), (2, .ref (o 0)), (1, .ref x), (0, .ref b)] [] := by
  have hZ := lZ.mem h
  obtain ⟨hi0, hm0, hou, hod, fou, fod, ho1, ho2, ho3⟩ := h
  obtain ⟨kk9, v, B', Ln', Rm', Rd', Pl', Mk', G', Sz', hkk, hct, hm9⟩ := lc_writeNumber l D k s.heap.size L f (lZ o ou od) x B Ln Rm Rd Pl Mk G Sz hl hi0 hZ ou gL hou (Or.inr (Or.inl rfl)) fou (xs (i + 1)) (xs (i + 2))
  refine vAloadN X dL_law_943 4 rfl ?_
  refine vAloadN X dL_law_944 5 rfl ?_
  refine vIload X dL_law_945 0 rfl ?_
  refine vIconst X dL_law_947 (v := nI 1) (by decide) ?_
  refine vIadd X dL_law_948 (nI_add i 1) ?_
  refine vSld X hX hbl (Nat.le_refl _) hLL (j := i + 1) rfl (by omega) dL_law_949 ?_
  refine vAloadN X dL_law_950 5 rfl ?_
  refine vIload X dL_law_951 0 rfl ?_
  refine vIconst X dL_law_953 (v := nI 2) (by decide) ?_
  refine vIadd X dL_law_954 (nI_add i 2) ?_
  refine vSld X hX hbl (Nat.le_refl _) hLL (j := i + 2) rfl (by omega) dL_law_955 ?_
  refine vAloadN X dL_law_956 2 rfl ?_
  refine vCallL X hE [] hct (vGL q_487 q_488 q_23 q_489) rfl ⟨by decide, by decide, (show _ = some 4 from by decide +kernel)⟩ ⟨(Nat.le_of_ble_eq_true rfl), (Nat.le_of_ble_eq_true rfl)⟩ rfl (Nat.le_of_ble_eq_true rfl) dL_law_957 ⟨(show cells + 1 ≤ 603072 by omega), (show slots + 6 ≤ 7219306 by omega)⟩ (fun v9 w9 hp9 => ?_)
  obtain ⟨L1, f1, g1, rfl, rfl, hk1, fo1, hg1, hi1⟩ := hp9
  refine vIstore X [(6, .int (nI kk9)), (5, .int (nI i)), (4, .ref od), (3, .ref ou), (2, .ref (o 0)), (1, .ref x), (0, .ref b)] dL_law_960 (by decide) rfl ?_
  have hm1 : mIn k o L1 f1 B Ln Rm Rd Pl Mk G Sz Kp th := hm0.kp (fun a ha => (hk1 a ha).1) (fun j hj => (hk1 _ (hm0.1 j hj)).2 (Or.inl ⟨j, hj, rfl⟩) (fun e => ho1 j hj e.symm))
  obtain ⟨Kp', hm8⟩ := hm9 o Kp th
  have hmc := hm1.call hm8
  refine vAloadN X dL_law_962 4 rfl ?_
  refine vAloadN X dL_law_963 6 rfl ?_
  refine vIload X dL_law_964 1 rfl ?_
  refine vIconst X dL_law_966 (v := nI 1) (by decide) ?_
  refine vIadd X dL_law_967 (nI_add i 1) ?_
  refine vSld X hX hbl (Nat.le_refl _) hLL (j := i + 1) rfl (by omega) dL_law_968 ?_
  refine vAloadN X dL_law_969 6 rfl ?_
  refine vIload X dL_law_970 1 rfl ?_
  refine vIconst X dL_law_972 (v := nI 2) (by decide) ?_
  refine vIadd X dL_law_973 (nI_add i 2) ?_
  refine vSld X hX hbl (Nat.le_refl _) hLL (j := i + 2) rfl (by omega) dL_law_974 ?_
  obtain ⟨ix, hix⟩ := vp_ix (f := f1) (hm1.1 0 (by decide))
  have hfo : f1 (o 0) = .inr (4, _) := hm1.2.2 0 (by decide)
  refine vCallV X [] hmc (vGV q_859 q_860 q_861 q_29 q_862) ⟨by decide, by decide, (show _ = some 2 from by decide +kernel)⟩ ⟨(Nat.le_of_ble_eq_true rfl), (Nat.le_of_ble_eq_true rfl)⟩ ix 4 rfl rfl (hix.trans (by rw [hfo])) rfl (Nat.le_of_ble_eq_true rfl) dL_law_975 ⟨(show cells + 1 + 0 ≤ 603072 by omega), (show slots + 6 + 0 ≤ 7219306 by omega)⟩ (fun v8 w8 hp8 => ?_)
  obtain ⟨rfl, f2, rfl, hk2, hm2⟩ := hp8
  refine vIstore X [(7, .int v), (6, .int (nI kk9)), (5, .int (nI i)), (4, .ref od), (3, .ref ou), (2, .ref (o 0)), (1, .ref x), (0, .ref b)] dL_law_978 (by decide) rfl ?_
  have hmt := hm2.call (fun pl => mm_thrown l D k o pl s.heap.size B' Ln' Rm' Rd' Pl' Mk' G' Sz' Kp' (nI kk9))
  refine vAloadN X dL_law_980 5 rfl ?_
  obtain ⟨ixt, hixt⟩ := vp_ix (f := f2) (hm2.1 0 (by decide))
  have hfot : f2 (o 0) = .inr (4, _) := hm2.2.2 0 (by decide)
  refine vCallV X [] hmt (vGV q_774 q_775 q_776 q_29 q_777) ⟨by decide, by decide, (show _ = some 0 from by decide +kernel)⟩ ⟨(Nat.le_of_ble_eq_true rfl), (Nat.le_of_ble_eq_true rfl)⟩ ixt 4 rfl rfl (hixt.trans (by rw [hfot])) rfl (Nat.le_of_ble_eq_true rfl) dL_law_981 ⟨(show cells + 1 + 0 + 0 ≤ 603072 by omega), (show slots + 6 + 0 + 0 ≤ 7219306 by omega)⟩ (fun v8 w8 hp8 => ?_)
  obtain ⟨rfl, f3, rfl, hk3, hm3⟩ := hp8
  refine vIload X dL_law_984 1 rfl ?_
  refine vIcmp_eqT X 991 dL_law_986 (by decide) rfl ?_
  have fo3 : f3 ou = .inl (k 5, 1, .inr (.inl g1)) := (hk3 ou ho1).trans ((hk2 ou ho1).trans fo1)
  have fo4 := (hk3 od ho2).trans ((hk2 od ho2).trans (((hk1 od hod).2 (Or.inr (Or.inr rfl)) (Ne.symm ho3)).trans fod))
  have hfin : lInv k o ou od x L1 f3 B' Ln' Rm' Rd' Pl' Mk' G' Sz' Kp' (nI kk9) g1 gD := ⟨hi1.foreign (fun t ht => ⟨ht, fun hz => (hk3 t (fun j hj e => hz (Or.inl ⟨j, hj, e⟩))).trans (hk2 t (fun j hj e => hz (Or.inl ⟨j, hj, e⟩)))⟩), hm3, (hk1 ou hou).1, (hk1 od hod).1, fo3, fo4, ho1, ho2, ho3⟩
  refine vIload X dL_law_991 1 rfl ?_
  by_cases h0 : kk9 = 0
  rotate_left
  · refine vIf_neT X 1008 dL_law_993 (by decide) (nkk h0 (by omega)) ?_
    refine vGoto X 2499 dL_law_1008 (by decide) ?_
    refine vSub [2, 3, 4, 5, 6, 7] [(5, .int (nI i)), (4, .ref od), (3, .ref ou), (2, .ref (o 0)), (1, .ref x), (0, .ref b)] rfl ?_
    refine vWiden (cells + 8) (slots + 800) (by omega) (by omega) ?_
    exact kk _ _ _ _ _ _ _ _ _ _ _ _ _ _ hfin
  · refine vIf_neF X 1008 dL_law_993 (by decide) (by rw [h0]; rfl) ?_
    refine vAloadN X dL_law_996 4 rfl ?_
    refine vIconst X dL_law_997 (v := nI 0) (by decide) ?_
    refine vpLaload X (hk1 ou hou).1 fo3 5 rfl rfl (by decide) (by decide) (hg1 h0) dL_law_998 ?_
    refine vIload X dL_law_999 0 rfl ?_
    refine vI2l X dL_law_1001 (v := v.toInt64) rfl ?_
    refine vLcmp X dL_law_1002 ?_
    refine vIf_eqT X 1008 dL_law_1003 (by decide) (lgc_self _) ?_
    refine vGoto X 2499 dL_law_1008 (by decide) ?_
    refine vSub [2, 3, 4, 5, 6, 7] [(5, .int (nI i)), (4, .ref od), (3, .ref ou), (2, .ref (o 0)), (1, .ref x), (0, .ref b)] rfl ?_
    refine vWiden (cells + 8) (slots + 800) (by omega) (by omega) ?_
    exact kk _ _ _ _ _ _ _ _ _ _ _ _ _ _ hfin
set_option maxHeartbeats 4000000 in
theorem lw_size {p : Program} {e : Env} {s : State} {m : MethodId} {below : List Frame} {meth : Method} {c : Code} (l : Launch) {D : va_G} {k : Nat → ClassId} {o : Nat → Nat} {b LL x ou od : Nat} {xs : Nat → Int32} {Q : State → Prop} (X : vCX p s m #[.ref b] meth c cL_law 9 RL (Cond.initialized "Bytewell" :: vGW) D vCl (vTy k) s.heap.size) (hE : vEL s.heap.size s) (hl : l.stackTraces = false) (hX : va_X b LL xs s s.heap) (hbl : b < s.heap.size) (hLL : LL ≤ 3072) {i : Nat} (hi : i + 6 ≤ LL) {cells slots : Nat} (hc : cells + 8 ≤ 603072) (hs : slots + 800 ≤ 7219306) {L : List Nat} {f : Nat → va_E} {B : Nat → Nat → Int32} {Ln Rm : Nat → Nat} {Rd : Nat → Option Nat} {Pl Mk : Nat → Nat} {G : Nat → Nat → Int32} {Sz : Nat → Nat} {Kp : Nat → Int32} {th : Int32} {gL : Nat → Int64} {gD : Nat → UInt64} (h : lInv k o ou od x L f B Ln Rm Rd Pl Mk G Sz Kp th gL gD) (kk : lNext p l e s m below meth c D k o b x ou od Q i cells slots) :
    vV p l e room_1 s m #[.ref b] below meth c 9 D vCl s.heap.size Q (va_pl L f) cells slots 1011 [(5, .int (nI i)), (4, .ref od), (3, .ref ou), (2, .ref (o 0)), (1, .ref x), (0, .ref b)] [] := by
  have hZ := lZ.mem h
  obtain ⟨hi0, hm0, hou, hod, fou, fod, ho1, ho2, ho3⟩ := h
  obtain ⟨kk9, v, B', Ln', Rm', Rd', Pl', Mk', G', Sz', hkk, hct, hm9⟩ := lc_size l D k s.heap.size L f (lZ o ou od) x B Ln Rm Rd Pl Mk G Sz hl hi0 hZ ou gL hou (Or.inr (Or.inl rfl)) fou (xs (i + 1))
  refine vAloadN X dL_law_1011 4 rfl ?_
  refine vAloadN X dL_law_1012 5 rfl ?_
  refine vIload X dL_law_1013 0 rfl ?_
  refine vIconst X dL_law_1015 (v := nI 1) (by decide) ?_
  refine vIadd X dL_law_1016 (nI_add i 1) ?_
  refine vSld X hX hbl (Nat.le_refl _) hLL (j := i + 1) rfl (by omega) dL_law_1017 ?_
  refine vAloadN X dL_law_1018 2 rfl ?_
  refine vCallL X hE [] hct (vGL q_494 q_495 q_23 q_496) rfl ⟨by decide, by decide, (show _ = some 3 from by decide +kernel)⟩ ⟨(Nat.le_of_ble_eq_true rfl), (Nat.le_of_ble_eq_true rfl)⟩ rfl (Nat.le_of_ble_eq_true rfl) dL_law_1019 ⟨(show cells + 1 ≤ 603072 by omega), (show slots + 6 ≤ 7219306 by omega)⟩ (fun v9 w9 hp9 => ?_)
  obtain ⟨L1, f1, g1, rfl, rfl, hk1, fo1, hg1, hi1⟩ := hp9
  refine vIstore X [(6, .int (nI kk9)), (5, .int (nI i)), (4, .ref od), (3, .ref ou), (2, .ref (o 0)), (1, .ref x), (0, .ref b)] dL_law_1022 (by decide) rfl ?_
  have hm1 : mIn k o L1 f1 B Ln Rm Rd Pl Mk G Sz Kp th := hm0.kp (fun a ha => (hk1 a ha).1) (fun j hj => (hk1 _ (hm0.1 j hj)).2 (Or.inl ⟨j, hj, rfl⟩) (fun e => ho1 j hj e.symm))
  obtain ⟨Kp', hm8⟩ := hm9 o Kp th
  have hmc := hm1.call hm8
  refine vAloadN X dL_law_1024 4 rfl ?_
  refine vAloadN X dL_law_1025 6 rfl ?_
  refine vIload X dL_law_1026 1 rfl ?_
  refine vIconst X dL_law_1028 (v := nI 1) (by decide) ?_
  refine vIadd X dL_law_1029 (nI_add i 1) ?_
  refine vSld X hX hbl (Nat.le_refl _) hLL (j := i + 1) rfl (by omega) dL_law_1030 ?_
  obtain ⟨ix, hix⟩ := vp_ix (f := f1) (hm1.1 0 (by decide))
  have hfo : f1 (o 0) = .inr (4, _) := hm1.2.2 0 (by decide)
  refine vCallV X [] hmc (vGV q_863 q_864 q_865 q_29 q_866) ⟨by decide, by decide, (show _ = some 1 from by decide +kernel)⟩ ⟨(Nat.le_of_ble_eq_true rfl), (Nat.le_of_ble_eq_true rfl)⟩ ix 4 rfl rfl (hix.trans (by rw [hfo])) rfl (Nat.le_of_ble_eq_true rfl) dL_law_1031 ⟨(show cells + 1 + 0 ≤ 603072 by omega), (show slots + 6 + 0 ≤ 7219306 by omega)⟩ (fun v8 w8 hp8 => ?_)
  obtain ⟨rfl, f2, rfl, hk2, hm2⟩ := hp8
  refine vIstore X [(7, .int v), (6, .int (nI kk9)), (5, .int (nI i)), (4, .ref od), (3, .ref ou), (2, .ref (o 0)), (1, .ref x), (0, .ref b)] dL_law_1034 (by decide) rfl ?_
  have hmt := hm2.call (fun pl => mm_thrown l D k o pl s.heap.size B' Ln' Rm' Rd' Pl' Mk' G' Sz' Kp' (nI kk9))
  refine vAloadN X dL_law_1036 5 rfl ?_
  obtain ⟨ixt, hixt⟩ := vp_ix (f := f2) (hm2.1 0 (by decide))
  have hfot : f2 (o 0) = .inr (4, _) := hm2.2.2 0 (by decide)
  refine vCallV X [] hmt (vGV q_774 q_775 q_776 q_29 q_777) ⟨by decide, by decide, (show _ = some 0 from by decide +kernel)⟩ ⟨(Nat.le_of_ble_eq_true rfl), (Nat.le_of_ble_eq_true rfl)⟩ ixt 4 rfl rfl (hixt.trans (by rw [hfot])) rfl (Nat.le_of_ble_eq_true rfl) dL_law_1037 ⟨(show cells + 1 + 0 + 0 ≤ 603072 by omega), (show slots + 6 + 0 + 0 ≤ 7219306 by omega)⟩ (fun v8 w8 hp8 => ?_)
  obtain ⟨rfl, f3, rfl, hk3, hm3⟩ := hp8
  refine vIload X dL_law_1040 1 rfl ?_
  refine vIcmp_eqT X 1047 dL_law_1042 (by decide) rfl ?_
  have fo3 : f3 ou = .inl (k 5, 1, .inr (.inl g1)) := (hk3 ou ho1).trans ((hk2 ou ho1).trans fo1)
  have fo4 := (hk3 od ho2).trans ((hk2 od ho2).trans (((hk1 od hod).2 (Or.inr (Or.inr rfl)) (Ne.symm ho3)).trans fod))
  have hfin : lInv k o ou od x L1 f3 B' Ln' Rm' Rd' Pl' Mk' G' Sz' Kp' (nI kk9) g1 gD := ⟨hi1.foreign (fun t ht => ⟨ht, fun hz => (hk3 t (fun j hj e => hz (Or.inl ⟨j, hj, e⟩))).trans (hk2 t (fun j hj e => hz (Or.inl ⟨j, hj, e⟩)))⟩), hm3, (hk1 ou hou).1, (hk1 od hod).1, fo3, fo4, ho1, ho2, ho3⟩
  refine vIload X dL_law_1047 1 rfl ?_
  by_cases h0 : kk9 = 0
  rotate_left
  · refine vIf_neT X 1064 dL_law_1049 (by decide) (nkk h0 (by omega)) ?_
    refine vGoto X 2499 dL_law_1064 (by decide) ?_
    refine vSub [2, 3, 4, 5, 6, 7] [(5, .int (nI i)), (4, .ref od), (3, .ref ou), (2, .ref (o 0)), (1, .ref x), (0, .ref b)] rfl ?_
    refine vWiden (cells + 8) (slots + 800) (by omega) (by omega) ?_
    exact kk _ _ _ _ _ _ _ _ _ _ _ _ _ _ hfin
  · refine vIf_neF X 1064 dL_law_1049 (by decide) (by rw [h0]; rfl) ?_
    refine vAloadN X dL_law_1052 4 rfl ?_
    refine vIconst X dL_law_1053 (v := nI 0) (by decide) ?_
    refine vpLaload X (hk1 ou hou).1 fo3 5 rfl rfl (by decide) (by decide) (hg1 h0) dL_law_1054 ?_
    refine vIload X dL_law_1055 0 rfl ?_
    refine vI2l X dL_law_1057 (v := v.toInt64) rfl ?_
    refine vLcmp X dL_law_1058 ?_
    refine vIf_eqT X 1064 dL_law_1059 (by decide) (lgc_self _) ?_
    refine vGoto X 2499 dL_law_1064 (by decide) ?_
    refine vSub [2, 3, 4, 5, 6, 7] [(5, .int (nI i)), (4, .ref od), (3, .ref ou), (2, .ref (o 0)), (1, .ref x), (0, .ref b)] rfl ?_
    refine vWiden (cells + 8) (slots + 800) (by omega) (by omega) ?_
    exact kk _ _ _ _ _ _ _ _ _ _ _ _ _ _ hfin
set_option maxHeartbeats 4000000 in
theorem lw_empty {p : Program} {e : Env} {s : State} {m : MethodId} {below : List Frame} {meth : Method} {c : Code} (l : Launch) {D : va_G} {k : Nat → ClassId} {o : Nat → Nat} {b LL x ou od : Nat} {xs : Nat → Int32} {Q : State → Prop} (X : vCX p s m #[.ref b] meth c cL_law 9 RL (Cond.initialized "Bytewell" :: vGW) D vCl (vTy k) s.heap.size) (hE : vEL s.heap.size s) (hl : l.stackTraces = false) (hX : va_X b LL xs s s.heap) (hbl : b < s.heap.size) (hLL : LL ≤ 3072) {i : Nat} (hi : i + 6 ≤ LL) {cells slots : Nat} (hc : cells + 8 ≤ 603072) (hs : slots + 800 ≤ 7219306) {L : List Nat} {f : Nat → va_E} {B : Nat → Nat → Int32} {Ln Rm : Nat → Nat} {Rd : Nat → Option Nat} {Pl Mk : Nat → Nat} {G : Nat → Nat → Int32} {Sz : Nat → Nat} {Kp : Nat → Int32} {th : Int32} {gL : Nat → Int64} {gD : Nat → UInt64} (h : lInv k o ou od x L f B Ln Rm Rd Pl Mk G Sz Kp th gL gD) (kk : lNext p l e s m below meth c D k o b x ou od Q i cells slots) :
    vV p l e room_1 s m #[.ref b] below meth c 9 D vCl s.heap.size Q (va_pl L f) cells slots 1067 [(5, .int (nI i)), (4, .ref od), (3, .ref ou), (2, .ref (o 0)), (1, .ref x), (0, .ref b)] [] := by
  have hZ := lZ.mem h
  obtain ⟨hi0, hm0, hou, hod, fou, fod, ho1, ho2, ho3⟩ := h
  obtain ⟨kk9, v, B', Ln', Rm', Rd', Pl', Mk', G', Sz', hkk, hct, hm9⟩ := lc_empty l D k s.heap.size L f (lZ o ou od) x B Ln Rm Rd Pl Mk G Sz hl hi0 hZ ou gL hou (Or.inr (Or.inl rfl)) fou (xs (i + 1))
  refine vAloadN X dL_law_1067 4 rfl ?_
  refine vAloadN X dL_law_1068 5 rfl ?_
  refine vIload X dL_law_1069 0 rfl ?_
  refine vIconst X dL_law_1071 (v := nI 1) (by decide) ?_
  refine vIadd X dL_law_1072 (nI_add i 1) ?_
  refine vSld X hX hbl (Nat.le_refl _) hLL (j := i + 1) rfl (by omega) dL_law_1073 ?_
  refine vAloadN X dL_law_1074 2 rfl ?_
  refine vCallL X hE [] hct (vGL q_501 q_502 q_23 q_503) rfl ⟨by decide, by decide, (show _ = some 3 from by decide +kernel)⟩ ⟨(Nat.le_of_ble_eq_true rfl), (Nat.le_of_ble_eq_true rfl)⟩ rfl (Nat.le_of_ble_eq_true rfl) dL_law_1075 ⟨(show cells + 1 ≤ 603072 by omega), (show slots + 6 ≤ 7219306 by omega)⟩ (fun v9 w9 hp9 => ?_)
  obtain ⟨L1, f1, g1, rfl, rfl, hk1, fo1, hg1, hi1⟩ := hp9
  refine vIstore X [(6, .int (nI kk9)), (5, .int (nI i)), (4, .ref od), (3, .ref ou), (2, .ref (o 0)), (1, .ref x), (0, .ref b)] dL_law_1078 (by decide) rfl ?_
  have hm1 : mIn k o L1 f1 B Ln Rm Rd Pl Mk G Sz Kp th := hm0.kp (fun a ha => (hk1 a ha).1) (fun j hj => (hk1 _ (hm0.1 j hj)).2 (Or.inl ⟨j, hj, rfl⟩) (fun e => ho1 j hj e.symm))
  obtain ⟨Kp', hm8⟩ := hm9 o Kp th
  have hmc := hm1.call hm8
  refine vAloadN X dL_law_1080 4 rfl ?_
  refine vAloadN X dL_law_1081 6 rfl ?_
  refine vIload X dL_law_1082 1 rfl ?_
  refine vIconst X dL_law_1084 (v := nI 1) (by decide) ?_
  refine vIadd X dL_law_1085 (nI_add i 1) ?_
  refine vSld X hX hbl (Nat.le_refl _) hLL (j := i + 1) rfl (by omega) dL_law_1086 ?_
  obtain ⟨ix, hix⟩ := vp_ix (f := f1) (hm1.1 0 (by decide))
  have hfo : f1 (o 0) = .inr (4, _) := hm1.2.2 0 (by decide)
  refine vCallV X [] hmc (vGV q_867 q_868 q_869 q_29 q_870) ⟨by decide, by decide, (show _ = some 1 from by decide +kernel)⟩ ⟨(Nat.le_of_ble_eq_true rfl), (Nat.le_of_ble_eq_true rfl)⟩ ix 4 rfl rfl (hix.trans (by rw [hfo])) rfl (Nat.le_of_ble_eq_true rfl) dL_law_1087 ⟨(show cells + 1 + 0 ≤ 603072 by omega), (show slots + 6 + 0 ≤ 7219306 by omega)⟩ (fun v8 w8 hp8 => ?_)
  obtain ⟨rfl, f2, rfl, hk2, hm2⟩ := hp8
  refine vIstore X [(7, .int v), (6, .int (nI kk9)), (5, .int (nI i)), (4, .ref od), (3, .ref ou), (2, .ref (o 0)), (1, .ref x), (0, .ref b)] dL_law_1090 (by decide) rfl ?_
  have hmt := hm2.call (fun pl => mm_thrown l D k o pl s.heap.size B' Ln' Rm' Rd' Pl' Mk' G' Sz' Kp' (nI kk9))
  refine vAloadN X dL_law_1092 5 rfl ?_
  obtain ⟨ixt, hixt⟩ := vp_ix (f := f2) (hm2.1 0 (by decide))
  have hfot : f2 (o 0) = .inr (4, _) := hm2.2.2 0 (by decide)
  refine vCallV X [] hmt (vGV q_774 q_775 q_776 q_29 q_777) ⟨by decide, by decide, (show _ = some 0 from by decide +kernel)⟩ ⟨(Nat.le_of_ble_eq_true rfl), (Nat.le_of_ble_eq_true rfl)⟩ ixt 4 rfl rfl (hixt.trans (by rw [hfot])) rfl (Nat.le_of_ble_eq_true rfl) dL_law_1093 ⟨(show cells + 1 + 0 + 0 ≤ 603072 by omega), (show slots + 6 + 0 + 0 ≤ 7219306 by omega)⟩ (fun v8 w8 hp8 => ?_)
  obtain ⟨rfl, f3, rfl, hk3, hm3⟩ := hp8
  refine vIload X dL_law_1096 1 rfl ?_
  refine vIcmp_eqT X 1103 dL_law_1098 (by decide) rfl ?_
  have fo3 : f3 ou = .inl (k 5, 1, .inr (.inl g1)) := (hk3 ou ho1).trans ((hk2 ou ho1).trans fo1)
  have fo4 := (hk3 od ho2).trans ((hk2 od ho2).trans (((hk1 od hod).2 (Or.inr (Or.inr rfl)) (Ne.symm ho3)).trans fod))
  have hfin : lInv k o ou od x L1 f3 B' Ln' Rm' Rd' Pl' Mk' G' Sz' Kp' (nI kk9) g1 gD := ⟨hi1.foreign (fun t ht => ⟨ht, fun hz => (hk3 t (fun j hj e => hz (Or.inl ⟨j, hj, e⟩))).trans (hk2 t (fun j hj e => hz (Or.inl ⟨j, hj, e⟩)))⟩), hm3, (hk1 ou hou).1, (hk1 od hod).1, fo3, fo4, ho1, ho2, ho3⟩
  refine vIload X dL_law_1103 1 rfl ?_
  by_cases h0 : kk9 = 0
  rotate_left
  · refine vIf_neT X 1120 dL_law_1105 (by decide) (nkk h0 (by omega)) ?_
    refine vGoto X 2499 dL_law_1120 (by decide) ?_
    refine vSub [2, 3, 4, 5, 6, 7] [(5, .int (nI i)), (4, .ref od), (3, .ref ou), (2, .ref (o 0)), (1, .ref x), (0, .ref b)] rfl ?_
    refine vWiden (cells + 8) (slots + 800) (by omega) (by omega) ?_
    exact kk _ _ _ _ _ _ _ _ _ _ _ _ _ _ hfin
  · refine vIf_neF X 1120 dL_law_1105 (by decide) (by rw [h0]; rfl) ?_
    refine vAloadN X dL_law_1108 4 rfl ?_
    refine vIconst X dL_law_1109 (v := nI 0) (by decide) ?_
    refine vpLaload X (hk1 ou hou).1 fo3 5 rfl rfl (by decide) (by decide) (hg1 h0) dL_law_1110 ?_
    refine vIload X dL_law_1111 0 rfl ?_
    refine vI2l X dL_law_1113 (v := v.toInt64) rfl ?_
    refine vLcmp X dL_law_1114 ?_
    refine vIf_eqT X 1120 dL_law_1115 (by decide) (lgc_self _) ?_
    refine vGoto X 2499 dL_law_1120 (by decide) ?_
    refine vSub [2, 3, 4, 5, 6, 7] [(5, .int (nI i)), (4, .ref od), (3, .ref ou), (2, .ref (o 0)), (1, .ref x), (0, .ref b)] rfl ?_
    refine vWiden (cells + 8) (slots + 800) (by omega) (by omega) ?_
    exact kk _ _ _ _ _ _ _ _ _ _ _ _ _ _ hfin
set_option maxHeartbeats 4000000 in
theorem lw_take {p : Program} {e : Env} {s : State} {m : MethodId} {below : List Frame} {meth : Method} {c : Code} (l : Launch) {D : va_G} {k : Nat → ClassId} {o : Nat → Nat} {b LL x ou od : Nat} {xs : Nat → Int32} {Q : State → Prop} (X : vCX p s m #[.ref b] meth c cL_law 9 RL (Cond.initialized "Bytewell" :: vGW) D vCl (vTy k) s.heap.size) (hE : vEL s.heap.size s) (hl : l.stackTraces = false) (hX : va_X b LL xs s s.heap) (hbl : b < s.heap.size) (hLL : LL ≤ 3072) {i : Nat} (hi : i + 6 ≤ LL) {cells slots : Nat} (hc : cells + 8 ≤ 603072) (hs : slots + 800 ≤ 7219306) {L : List Nat} {f : Nat → va_E} {B : Nat → Nat → Int32} {Ln Rm : Nat → Nat} {Rd : Nat → Option Nat} {Pl Mk : Nat → Nat} {G : Nat → Nat → Int32} {Sz : Nat → Nat} {Kp : Nat → Int32} {th : Int32} {gL : Nat → Int64} {gD : Nat → UInt64} (h : lInv k o ou od x L f B Ln Rm Rd Pl Mk G Sz Kp th gL gD) (kk : lNext p l e s m below meth c D k o b x ou od Q i cells slots) :
    vV p l e room_1 s m #[.ref b] below meth c 9 D vCl s.heap.size Q (va_pl L f) cells slots 1123 [(5, .int (nI i)), (4, .ref od), (3, .ref ou), (2, .ref (o 0)), (1, .ref x), (0, .ref b)] [] := by
  have hZ := lZ.mem h
  obtain ⟨hi0, hm0, hou, hod, fou, fod, ho1, ho2, ho3⟩ := h
  obtain ⟨kk9, v, B', Ln', Rm', Rd', Pl', Mk', G', Sz', hkk, hct, hm9⟩ := lc_take l D k s.heap.size L f (lZ o ou od) x B Ln Rm Rd Pl Mk G Sz hl hi0 hZ ou gL hou (Or.inr (Or.inl rfl)) fou (xs (i + 1)) (xs (i + 2))
  refine vAloadN X dL_law_1123 4 rfl ?_
  refine vAloadN X dL_law_1124 5 rfl ?_
  refine vIload X dL_law_1125 0 rfl ?_
  refine vIconst X dL_law_1127 (v := nI 1) (by decide) ?_
  refine vIadd X dL_law_1128 (nI_add i 1) ?_
  refine vSld X hX hbl (Nat.le_refl _) hLL (j := i + 1) rfl (by omega) dL_law_1129 ?_
  refine vAloadN X dL_law_1130 5 rfl ?_
  refine vIload X dL_law_1131 0 rfl ?_
  refine vIconst X dL_law_1133 (v := nI 2) (by decide) ?_
  refine vIadd X dL_law_1134 (nI_add i 2) ?_
  refine vSld X hX hbl (Nat.le_refl _) hLL (j := i + 2) rfl (by omega) dL_law_1135 ?_
  refine vAloadN X dL_law_1136 2 rfl ?_
  refine vCallL X hE [] hct (vGL q_508 q_509 q_23 q_510) rfl ⟨by decide, by decide, (show _ = some 4 from by decide +kernel)⟩ ⟨(Nat.le_of_ble_eq_true rfl), (Nat.le_of_ble_eq_true rfl)⟩ rfl (Nat.le_of_ble_eq_true rfl) dL_law_1137 ⟨(show cells + 2 ≤ 603072 by omega), (show slots + 257 ≤ 7219306 by omega)⟩ (fun v9 w9 hp9 => ?_)
  obtain ⟨L1, f1, g1, rfl, rfl, hk1, fo1, hg1, hi1⟩ := hp9
  refine vIstore X [(6, .int (nI kk9)), (5, .int (nI i)), (4, .ref od), (3, .ref ou), (2, .ref (o 0)), (1, .ref x), (0, .ref b)] dL_law_1140 (by decide) rfl ?_
  have hm1 : mIn k o L1 f1 B Ln Rm Rd Pl Mk G Sz Kp th := hm0.kp (fun a ha => (hk1 a ha).1) (fun j hj => (hk1 _ (hm0.1 j hj)).2 (Or.inl ⟨j, hj, rfl⟩) (fun e => ho1 j hj e.symm))
  obtain ⟨Kp', hm8⟩ := hm9 o Kp th
  have hmc := hm1.call hm8
  refine vAloadN X dL_law_1142 4 rfl ?_
  refine vAloadN X dL_law_1143 6 rfl ?_
  refine vIload X dL_law_1144 1 rfl ?_
  refine vIconst X dL_law_1146 (v := nI 1) (by decide) ?_
  refine vIadd X dL_law_1147 (nI_add i 1) ?_
  refine vSld X hX hbl (Nat.le_refl _) hLL (j := i + 1) rfl (by omega) dL_law_1148 ?_
  refine vAloadN X dL_law_1149 6 rfl ?_
  refine vIload X dL_law_1150 1 rfl ?_
  refine vIconst X dL_law_1152 (v := nI 2) (by decide) ?_
  refine vIadd X dL_law_1153 (nI_add i 2) ?_
  refine vSld X hX hbl (Nat.le_refl _) hLL (j := i + 2) rfl (by omega) dL_law_1154 ?_
  obtain ⟨ix, hix⟩ := vp_ix (f := f1) (hm1.1 0 (by decide))
  have hfo : f1 (o 0) = .inr (4, _) := hm1.2.2 0 (by decide)
  refine vCallV X [] hmc (vGV q_871 q_872 q_873 q_29 q_874) ⟨by decide, by decide, (show _ = some 2 from by decide +kernel)⟩ ⟨(Nat.le_of_ble_eq_true rfl), (Nat.le_of_ble_eq_true rfl)⟩ ix 4 rfl rfl (hix.trans (by rw [hfo])) rfl (Nat.le_of_ble_eq_true rfl) dL_law_1155 ⟨(show cells + 2 + 0 ≤ 603072 by omega), (show slots + 257 + 0 ≤ 7219306 by omega)⟩ (fun v8 w8 hp8 => ?_)
  obtain ⟨rfl, f2, rfl, hk2, hm2⟩ := hp8
  refine vIstore X [(7, .int v), (6, .int (nI kk9)), (5, .int (nI i)), (4, .ref od), (3, .ref ou), (2, .ref (o 0)), (1, .ref x), (0, .ref b)] dL_law_1158 (by decide) rfl ?_
  have hmt := hm2.call (fun pl => mm_thrown l D k o pl s.heap.size B' Ln' Rm' Rd' Pl' Mk' G' Sz' Kp' (nI kk9))
  refine vAloadN X dL_law_1160 5 rfl ?_
  obtain ⟨ixt, hixt⟩ := vp_ix (f := f2) (hm2.1 0 (by decide))
  have hfot : f2 (o 0) = .inr (4, _) := hm2.2.2 0 (by decide)
  refine vCallV X [] hmt (vGV q_774 q_775 q_776 q_29 q_777) ⟨by decide, by decide, (show _ = some 0 from by decide +kernel)⟩ ⟨(Nat.le_of_ble_eq_true rfl), (Nat.le_of_ble_eq_true rfl)⟩ ixt 4 rfl rfl (hixt.trans (by rw [hfot])) rfl (Nat.le_of_ble_eq_true rfl) dL_law_1161 ⟨(show cells + 2 + 0 + 0 ≤ 603072 by omega), (show slots + 257 + 0 + 0 ≤ 7219306 by omega)⟩ (fun v8 w8 hp8 => ?_)
  obtain ⟨rfl, f3, rfl, hk3, hm3⟩ := hp8
  refine vIload X dL_law_1164 1 rfl ?_
  refine vIcmp_eqT X 1171 dL_law_1166 (by decide) rfl ?_
  have fo3 : f3 ou = .inl (k 5, 1, .inr (.inl g1)) := (hk3 ou ho1).trans ((hk2 ou ho1).trans fo1)
  have fo4 := (hk3 od ho2).trans ((hk2 od ho2).trans (((hk1 od hod).2 (Or.inr (Or.inr rfl)) (Ne.symm ho3)).trans fod))
  have hfin : lInv k o ou od x L1 f3 B' Ln' Rm' Rd' Pl' Mk' G' Sz' Kp' (nI kk9) g1 gD := ⟨hi1.foreign (fun t ht => ⟨ht, fun hz => (hk3 t (fun j hj e => hz (Or.inl ⟨j, hj, e⟩))).trans (hk2 t (fun j hj e => hz (Or.inl ⟨j, hj, e⟩)))⟩), hm3, (hk1 ou hou).1, (hk1 od hod).1, fo3, fo4, ho1, ho2, ho3⟩
  refine vIload X dL_law_1171 1 rfl ?_
  by_cases h0 : kk9 = 0
  rotate_left
  · refine vIf_neT X 1188 dL_law_1173 (by decide) (nkk h0 (by omega)) ?_
    refine vGoto X 2499 dL_law_1188 (by decide) ?_
    refine vSub [2, 3, 4, 5, 6, 7] [(5, .int (nI i)), (4, .ref od), (3, .ref ou), (2, .ref (o 0)), (1, .ref x), (0, .ref b)] rfl ?_
    refine vWiden (cells + 8) (slots + 800) (by omega) (by omega) ?_
    exact kk _ _ _ _ _ _ _ _ _ _ _ _ _ _ hfin
  · refine vIf_neF X 1188 dL_law_1173 (by decide) (by rw [h0]; rfl) ?_
    refine vAloadN X dL_law_1176 4 rfl ?_
    refine vIconst X dL_law_1177 (v := nI 0) (by decide) ?_
    refine vpLaload X (hk1 ou hou).1 fo3 5 rfl rfl (by decide) (by decide) (hg1 h0) dL_law_1178 ?_
    refine vIload X dL_law_1179 0 rfl ?_
    refine vI2l X dL_law_1181 (v := v.toInt64) rfl ?_
    refine vLcmp X dL_law_1182 ?_
    refine vIf_eqT X 1188 dL_law_1183 (by decide) (lgc_self _) ?_
    refine vGoto X 2499 dL_law_1188 (by decide) ?_
    refine vSub [2, 3, 4, 5, 6, 7] [(5, .int (nI i)), (4, .ref od), (3, .ref ou), (2, .ref (o 0)), (1, .ref x), (0, .ref b)] rfl ?_
    refine vWiden (cells + 8) (slots + 800) (by omega) (by omega) ?_
    exact kk _ _ _ _ _ _ _ _ _ _ _ _ _ _ hfin
set_option maxHeartbeats 4000000 in
theorem lw_open {p : Program} {e : Env} {s : State} {m : MethodId} {below : List Frame} {meth : Method} {c : Code} (l : Launch) {D : va_G} {k : Nat → ClassId} {o : Nat → Nat} {b LL x ou od : Nat} {xs : Nat → Int32} {Q : State → Prop} (X : vCX p s m #[.ref b] meth c cL_law 9 RL (Cond.initialized "Bytewell" :: vGW) D vCl (vTy k) s.heap.size) (hE : vEL s.heap.size s) (hl : l.stackTraces = false) (hX : va_X b LL xs s s.heap) (hbl : b < s.heap.size) (hLL : LL ≤ 3072) {i : Nat} (hi : i + 6 ≤ LL) {cells slots : Nat} (hc : cells + 8 ≤ 603072) (hs : slots + 800 ≤ 7219306) {L : List Nat} {f : Nat → va_E} {B : Nat → Nat → Int32} {Ln Rm : Nat → Nat} {Rd : Nat → Option Nat} {Pl Mk : Nat → Nat} {G : Nat → Nat → Int32} {Sz : Nat → Nat} {Kp : Nat → Int32} {th : Int32} {gL : Nat → Int64} {gD : Nat → UInt64} (h : lInv k o ou od x L f B Ln Rm Rd Pl Mk G Sz Kp th gL gD) (kk : lNext p l e s m below meth c D k o b x ou od Q i cells slots) :
    vV p l e room_1 s m #[.ref b] below meth c 9 D vCl s.heap.size Q (va_pl L f) cells slots 1191 [(5, .int (nI i)), (4, .ref od), (3, .ref ou), (2, .ref (o 0)), (1, .ref x), (0, .ref b)] [] := by
  have hZ := lZ.mem h
  obtain ⟨hi0, hm0, hou, hod, fou, fod, ho1, ho2, ho3⟩ := h
  obtain ⟨kk9, v, B', Ln', Rm', Rd', Pl', Mk', G', Sz', hkk, hct, hm9⟩ := lc_open l D k s.heap.size L f (lZ o ou od) x B Ln Rm Rd Pl Mk G Sz hl hi0 hZ ou gL hou (Or.inr (Or.inl rfl)) fou (xs (i + 1)) (xs (i + 2))
  refine vAloadN X dL_law_1191 4 rfl ?_
  refine vAloadN X dL_law_1192 5 rfl ?_
  refine vIload X dL_law_1193 0 rfl ?_
  refine vIconst X dL_law_1195 (v := nI 1) (by decide) ?_
  refine vIadd X dL_law_1196 (nI_add i 1) ?_
  refine vSld X hX hbl (Nat.le_refl _) hLL (j := i + 1) rfl (by omega) dL_law_1197 ?_
  refine vAloadN X dL_law_1198 5 rfl ?_
  refine vIload X dL_law_1199 0 rfl ?_
  refine vIconst X dL_law_1201 (v := nI 2) (by decide) ?_
  refine vIadd X dL_law_1202 (nI_add i 2) ?_
  refine vSld X hX hbl (Nat.le_refl _) hLL (j := i + 2) rfl (by omega) dL_law_1203 ?_
  refine vAloadN X dL_law_1204 2 rfl ?_
  refine vCallL X hE [] hct (vGL q_515 q_516 q_23 q_517) rfl ⟨by decide, by decide, (show _ = some 4 from by decide +kernel)⟩ ⟨(Nat.le_of_ble_eq_true rfl), (Nat.le_of_ble_eq_true rfl)⟩ rfl (Nat.le_of_ble_eq_true rfl) dL_law_1205 ⟨(show cells + 1 ≤ 603072 by omega), (show slots + 6 ≤ 7219306 by omega)⟩ (fun v9 w9 hp9 => ?_)
  obtain ⟨L1, f1, g1, rfl, rfl, hk1, fo1, hg1, hi1⟩ := hp9
  refine vIstore X [(6, .int (nI kk9)), (5, .int (nI i)), (4, .ref od), (3, .ref ou), (2, .ref (o 0)), (1, .ref x), (0, .ref b)] dL_law_1208 (by decide) rfl ?_
  have hm1 : mIn k o L1 f1 B Ln Rm Rd Pl Mk G Sz Kp th := hm0.kp (fun a ha => (hk1 a ha).1) (fun j hj => (hk1 _ (hm0.1 j hj)).2 (Or.inl ⟨j, hj, rfl⟩) (fun e => ho1 j hj e.symm))
  obtain ⟨Kp', hm8⟩ := hm9 o Kp th
  have hmc := hm1.call hm8
  refine vAloadN X dL_law_1210 4 rfl ?_
  refine vAloadN X dL_law_1211 6 rfl ?_
  refine vIload X dL_law_1212 1 rfl ?_
  refine vIconst X dL_law_1214 (v := nI 1) (by decide) ?_
  refine vIadd X dL_law_1215 (nI_add i 1) ?_
  refine vSld X hX hbl (Nat.le_refl _) hLL (j := i + 1) rfl (by omega) dL_law_1216 ?_
  refine vAloadN X dL_law_1217 6 rfl ?_
  refine vIload X dL_law_1218 1 rfl ?_
  refine vIconst X dL_law_1220 (v := nI 2) (by decide) ?_
  refine vIadd X dL_law_1221 (nI_add i 2) ?_
  refine vSld X hX hbl (Nat.le_refl _) hLL (j := i + 2) rfl (by omega) dL_law_1222 ?_
  obtain ⟨ix, hix⟩ := vp_ix (f := f1) (hm1.1 0 (by decide))
  have hfo : f1 (o 0) = .inr (4, _) := hm1.2.2 0 (by decide)
  refine vCallV X [] hmc (vGV q_875 q_876 q_877 q_29 q_878) ⟨by decide, by decide, (show _ = some 2 from by decide +kernel)⟩ ⟨(Nat.le_of_ble_eq_true rfl), (Nat.le_of_ble_eq_true rfl)⟩ ix 4 rfl rfl (hix.trans (by rw [hfo])) rfl (Nat.le_of_ble_eq_true rfl) dL_law_1223 ⟨(show cells + 1 + 0 ≤ 603072 by omega), (show slots + 6 + 0 ≤ 7219306 by omega)⟩ (fun v8 w8 hp8 => ?_)
  obtain ⟨rfl, f2, rfl, hk2, hm2⟩ := hp8
  refine vIstore X [(7, .int v), (6, .int (nI kk9)), (5, .int (nI i)), (4, .ref od), (3, .ref ou), (2, .ref (o 0)), (1, .ref x), (0, .ref b)] dL_law_1226 (by decide) rfl ?_
  have hmt := hm2.call (fun pl => mm_thrown l D k o pl s.heap.size B' Ln' Rm' Rd' Pl' Mk' G' Sz' Kp' (nI kk9))
  refine vAloadN X dL_law_1228 5 rfl ?_
  obtain ⟨ixt, hixt⟩ := vp_ix (f := f2) (hm2.1 0 (by decide))
  have hfot : f2 (o 0) = .inr (4, _) := hm2.2.2 0 (by decide)
  refine vCallV X [] hmt (vGV q_774 q_775 q_776 q_29 q_777) ⟨by decide, by decide, (show _ = some 0 from by decide +kernel)⟩ ⟨(Nat.le_of_ble_eq_true rfl), (Nat.le_of_ble_eq_true rfl)⟩ ixt 4 rfl rfl (hixt.trans (by rw [hfot])) rfl (Nat.le_of_ble_eq_true rfl) dL_law_1229 ⟨(show cells + 1 + 0 + 0 ≤ 603072 by omega), (show slots + 6 + 0 + 0 ≤ 7219306 by omega)⟩ (fun v8 w8 hp8 => ?_)
  obtain ⟨rfl, f3, rfl, hk3, hm3⟩ := hp8
  refine vIload X dL_law_1232 1 rfl ?_
  refine vIcmp_eqT X 1239 dL_law_1234 (by decide) rfl ?_
  have fo3 : f3 ou = .inl (k 5, 1, .inr (.inl g1)) := (hk3 ou ho1).trans ((hk2 ou ho1).trans fo1)
  have fo4 := (hk3 od ho2).trans ((hk2 od ho2).trans (((hk1 od hod).2 (Or.inr (Or.inr rfl)) (Ne.symm ho3)).trans fod))
  have hfin : lInv k o ou od x L1 f3 B' Ln' Rm' Rd' Pl' Mk' G' Sz' Kp' (nI kk9) g1 gD := ⟨hi1.foreign (fun t ht => ⟨ht, fun hz => (hk3 t (fun j hj e => hz (Or.inl ⟨j, hj, e⟩))).trans (hk2 t (fun j hj e => hz (Or.inl ⟨j, hj, e⟩)))⟩), hm3, (hk1 ou hou).1, (hk1 od hod).1, fo3, fo4, ho1, ho2, ho3⟩
  refine vIload X dL_law_1239 1 rfl ?_
  by_cases h0 : kk9 = 0
  rotate_left
  · refine vIf_neT X 1256 dL_law_1241 (by decide) (nkk h0 (by omega)) ?_
    refine vGoto X 2499 dL_law_1256 (by decide) ?_
    refine vSub [2, 3, 4, 5, 6, 7] [(5, .int (nI i)), (4, .ref od), (3, .ref ou), (2, .ref (o 0)), (1, .ref x), (0, .ref b)] rfl ?_
    refine vWiden (cells + 8) (slots + 800) (by omega) (by omega) ?_
    exact kk _ _ _ _ _ _ _ _ _ _ _ _ _ _ hfin
  · refine vIf_neF X 1256 dL_law_1241 (by decide) (by rw [h0]; rfl) ?_
    refine vAloadN X dL_law_1244 4 rfl ?_
    refine vIconst X dL_law_1245 (v := nI 0) (by decide) ?_
    refine vpLaload X (hk1 ou hou).1 fo3 5 rfl rfl (by decide) (by decide) (hg1 h0) dL_law_1246 ?_
    refine vIload X dL_law_1247 0 rfl ?_
    refine vI2l X dL_law_1249 (v := v.toInt64) rfl ?_
    refine vLcmp X dL_law_1250 ?_
    refine vIf_eqT X 1256 dL_law_1251 (by decide) (lgc_self _) ?_
    refine vGoto X 2499 dL_law_1256 (by decide) ?_
    refine vSub [2, 3, 4, 5, 6, 7] [(5, .int (nI i)), (4, .ref od), (3, .ref ou), (2, .ref (o 0)), (1, .ref x), (0, .ref b)] rfl ?_
    refine vWiden (cells + 8) (slots + 800) (by omega) (by omega) ?_
    exact kk _ _ _ _ _ _ _ _ _ _ _ _ _ _ hfin
set_option maxHeartbeats 4000000 in
theorem lw_isOpen {p : Program} {e : Env} {s : State} {m : MethodId} {below : List Frame} {meth : Method} {c : Code} (l : Launch) {D : va_G} {k : Nat → ClassId} {o : Nat → Nat} {b LL x ou od : Nat} {xs : Nat → Int32} {Q : State → Prop} (X : vCX p s m #[.ref b] meth c cL_law 9 RL (Cond.initialized "Bytewell" :: vGW) D vCl (vTy k) s.heap.size) (hE : vEL s.heap.size s) (hl : l.stackTraces = false) (hX : va_X b LL xs s s.heap) (hbl : b < s.heap.size) (hLL : LL ≤ 3072) {i : Nat} (hi : i + 6 ≤ LL) {cells slots : Nat} (hc : cells + 8 ≤ 603072) (hs : slots + 800 ≤ 7219306) {L : List Nat} {f : Nat → va_E} {B : Nat → Nat → Int32} {Ln Rm : Nat → Nat} {Rd : Nat → Option Nat} {Pl Mk : Nat → Nat} {G : Nat → Nat → Int32} {Sz : Nat → Nat} {Kp : Nat → Int32} {th : Int32} {gL : Nat → Int64} {gD : Nat → UInt64} (h : lInv k o ou od x L f B Ln Rm Rd Pl Mk G Sz Kp th gL gD) (kk : lNext p l e s m below meth c D k o b x ou od Q i cells slots) :
    vV p l e room_1 s m #[.ref b] below meth c 9 D vCl s.heap.size Q (va_pl L f) cells slots 1259 [(5, .int (nI i)), (4, .ref od), (3, .ref ou), (2, .ref (o 0)), (1, .ref x), (0, .ref b)] [] := by
  have hZ := lZ.mem h
  obtain ⟨hi0, hm0, hou, hod, fou, fod, ho1, ho2, ho3⟩ := h
  obtain ⟨kk9, v, B', Ln', Rm', Rd', Pl', Mk', G', Sz', hkk, hct, hm9⟩ := lc_isOpen l D k s.heap.size L f (lZ o ou od) x B Ln Rm Rd Pl Mk G Sz hl hi0 hZ ou gL hou (Or.inr (Or.inl rfl)) fou (xs (i + 1))
  refine vAloadN X dL_law_1259 4 rfl ?_
  refine vAloadN X dL_law_1260 5 rfl ?_
  refine vIload X dL_law_1261 0 rfl ?_
  refine vIconst X dL_law_1263 (v := nI 1) (by decide) ?_
  refine vIadd X dL_law_1264 (nI_add i 1) ?_
  refine vSld X hX hbl (Nat.le_refl _) hLL (j := i + 1) rfl (by omega) dL_law_1265 ?_
  refine vAloadN X dL_law_1266 2 rfl ?_
  refine vCallL X hE [] hct (vGL q_527 q_528 q_23 q_529) rfl ⟨by decide, by decide, (show _ = some 3 from by decide +kernel)⟩ ⟨(Nat.le_of_ble_eq_true rfl), (Nat.le_of_ble_eq_true rfl)⟩ rfl (Nat.le_of_ble_eq_true rfl) dL_law_1267 ⟨(show cells + 1 ≤ 603072 by omega), (show slots + 6 ≤ 7219306 by omega)⟩ (fun v9 w9 hp9 => ?_)
  obtain ⟨L1, f1, g1, rfl, rfl, hk1, fo1, hg1, hi1⟩ := hp9
  refine vIstore X [(6, .int (nI kk9)), (5, .int (nI i)), (4, .ref od), (3, .ref ou), (2, .ref (o 0)), (1, .ref x), (0, .ref b)] dL_law_1270 (by decide) rfl ?_
  have hm1 : mIn k o L1 f1 B Ln Rm Rd Pl Mk G Sz Kp th := hm0.kp (fun a ha => (hk1 a ha).1) (fun j hj => (hk1 _ (hm0.1 j hj)).2 (Or.inl ⟨j, hj, rfl⟩) (fun e => ho1 j hj e.symm))
  obtain ⟨Kp', hm8⟩ := hm9 o Kp th
  have hmc := hm1.call hm8
  refine vAloadN X dL_law_1272 4 rfl ?_
  refine vAloadN X dL_law_1273 6 rfl ?_
  refine vIload X dL_law_1274 1 rfl ?_
  refine vIconst X dL_law_1276 (v := nI 1) (by decide) ?_
  refine vIadd X dL_law_1277 (nI_add i 1) ?_
  refine vSld X hX hbl (Nat.le_refl _) hLL (j := i + 1) rfl (by omega) dL_law_1278 ?_
  obtain ⟨ix, hix⟩ := vp_ix (f := f1) (hm1.1 0 (by decide))
  have hfo : f1 (o 0) = .inr (4, _) := hm1.2.2 0 (by decide)
  refine vCallV X [] hmc (vGV q_883 q_884 q_885 q_29 q_886) ⟨by decide, by decide, (show _ = some 1 from by decide +kernel)⟩ ⟨(Nat.le_of_ble_eq_true rfl), (Nat.le_of_ble_eq_true rfl)⟩ ix 4 rfl rfl (hix.trans (by rw [hfo])) rfl (Nat.le_of_ble_eq_true rfl) dL_law_1279 ⟨(show cells + 1 + 0 ≤ 603072 by omega), (show slots + 6 + 0 ≤ 7219306 by omega)⟩ (fun v8 w8 hp8 => ?_)
  obtain ⟨rfl, f2, rfl, hk2, hm2⟩ := hp8
  refine vIstore X [(7, .int v), (6, .int (nI kk9)), (5, .int (nI i)), (4, .ref od), (3, .ref ou), (2, .ref (o 0)), (1, .ref x), (0, .ref b)] dL_law_1282 (by decide) rfl ?_
  have hmt := hm2.call (fun pl => mm_thrown l D k o pl s.heap.size B' Ln' Rm' Rd' Pl' Mk' G' Sz' Kp' (nI kk9))
  refine vAloadN X dL_law_1284 5 rfl ?_
  obtain ⟨ixt, hixt⟩ := vp_ix (f := f2) (hm2.1 0 (by decide))
  have hfot : f2 (o 0) = .inr (4, _) := hm2.2.2 0 (by decide)
  refine vCallV X [] hmt (vGV q_774 q_775 q_776 q_29 q_777) ⟨by decide, by decide, (show _ = some 0 from by decide +kernel)⟩ ⟨(Nat.le_of_ble_eq_true rfl), (Nat.le_of_ble_eq_true rfl)⟩ ixt 4 rfl rfl (hixt.trans (by rw [hfot])) rfl (Nat.le_of_ble_eq_true rfl) dL_law_1285 ⟨(show cells + 1 + 0 + 0 ≤ 603072 by omega), (show slots + 6 + 0 + 0 ≤ 7219306 by omega)⟩ (fun v8 w8 hp8 => ?_)
  obtain ⟨rfl, f3, rfl, hk3, hm3⟩ := hp8
  refine vIload X dL_law_1288 1 rfl ?_
  refine vIcmp_eqT X 1295 dL_law_1290 (by decide) rfl ?_
  have fo3 : f3 ou = .inl (k 5, 1, .inr (.inl g1)) := (hk3 ou ho1).trans ((hk2 ou ho1).trans fo1)
  have fo4 := (hk3 od ho2).trans ((hk2 od ho2).trans (((hk1 od hod).2 (Or.inr (Or.inr rfl)) (Ne.symm ho3)).trans fod))
  have hfin : lInv k o ou od x L1 f3 B' Ln' Rm' Rd' Pl' Mk' G' Sz' Kp' (nI kk9) g1 gD := ⟨hi1.foreign (fun t ht => ⟨ht, fun hz => (hk3 t (fun j hj e => hz (Or.inl ⟨j, hj, e⟩))).trans (hk2 t (fun j hj e => hz (Or.inl ⟨j, hj, e⟩)))⟩), hm3, (hk1 ou hou).1, (hk1 od hod).1, fo3, fo4, ho1, ho2, ho3⟩
  refine vIload X dL_law_1295 1 rfl ?_
  by_cases h0 : kk9 = 0
  rotate_left
  · refine vIf_neT X 1319 dL_law_1297 (by decide) (nkk h0 (by omega)) ?_
    refine vGoto X 2499 dL_law_1319 (by decide) ?_
    refine vSub [2, 3, 4, 5, 6, 7] [(5, .int (nI i)), (4, .ref od), (3, .ref ou), (2, .ref (o 0)), (1, .ref x), (0, .ref b)] rfl ?_
    refine vWiden (cells + 8) (slots + 800) (by omega) (by omega) ?_
    exact kk _ _ _ _ _ _ _ _ _ _ _ _ _ _ hfin
  · refine vIf_neF X 1319 dL_law_1297 (by decide) (by rw [h0]; rfl) ?_
    refine vAloadN X dL_law_1300 4 rfl ?_
    refine vIconst X dL_law_1301 (v := nI 0) (by decide) ?_
    refine vpLaload X (hk1 ou hou).1 fo3 5 rfl rfl (by decide) (by decide) (hg1 h0) dL_law_1302 ?_
    refine vIload X dL_law_1303 0 rfl ?_
    by_cases hv : v = 0
    · have hb : bL v = 0 := by simp [bL, hv]
      rw [hb]
      refine vIf_eqT X 1312 dL_law_1305 (by decide) hv ?_
      refine vLconst X dL_law_1312 (v := 0) (by decide) ?_
      refine vLcmp X dL_law_1313 ?_
      refine vIf_eqT X 1319 dL_law_1314 (by decide) (lgc_self _) ?_
      refine vGoto X 2499 dL_law_1319 (by decide) ?_
      refine vSub [2, 3, 4, 5, 6, 7] [(5, .int (nI i)), (4, .ref od), (3, .ref ou), (2, .ref (o 0)), (1, .ref x), (0, .ref b)] rfl ?_
      refine vWiden (cells + 8) (slots + 800) (by omega) (by omega) ?_
      exact kk _ _ _ _ _ _ _ _ _ _ _ _ _ _ hfin
    · have hb : bL v = 1 := by simp [bL, hv]
      rw [hb]
      refine vIf_eqF X 1312 dL_law_1305 (by decide) hv ?_
      refine vLconst X dL_law_1308 (v := 1) (by decide) ?_
      refine vGoto X 1313 dL_law_1309 (by decide) ?_
      refine vLcmp X dL_law_1313 ?_
      refine vIf_eqT X 1319 dL_law_1314 (by decide) (lgc_self _) ?_
      refine vGoto X 2499 dL_law_1319 (by decide) ?_
      refine vSub [2, 3, 4, 5, 6, 7] [(5, .int (nI i)), (4, .ref od), (3, .ref ou), (2, .ref (o 0)), (1, .ref x), (0, .ref b)] rfl ?_
      refine vWiden (cells + 8) (slots + 800) (by omega) (by omega) ?_
      exact kk _ _ _ _ _ _ _ _ _ _ _ _ _ _ hfin
set_option maxHeartbeats 4000000 in
theorem lw_read {p : Program} {e : Env} {s : State} {m : MethodId} {below : List Frame} {meth : Method} {c : Code} (l : Launch) {D : va_G} {k : Nat → ClassId} {o : Nat → Nat} {b LL x ou od : Nat} {xs : Nat → Int32} {Q : State → Prop} (X : vCX p s m #[.ref b] meth c cL_law 9 RL (Cond.initialized "Bytewell" :: vGW) D vCl (vTy k) s.heap.size) (hE : vEL s.heap.size s) (hl : l.stackTraces = false) (hX : va_X b LL xs s s.heap) (hbl : b < s.heap.size) (hLL : LL ≤ 3072) {i : Nat} (hi : i + 6 ≤ LL) {cells slots : Nat} (hc : cells + 8 ≤ 603072) (hs : slots + 800 ≤ 7219306) {L : List Nat} {f : Nat → va_E} {B : Nat → Nat → Int32} {Ln Rm : Nat → Nat} {Rd : Nat → Option Nat} {Pl Mk : Nat → Nat} {G : Nat → Nat → Int32} {Sz : Nat → Nat} {Kp : Nat → Int32} {th : Int32} {gL : Nat → Int64} {gD : Nat → UInt64} (h : lInv k o ou od x L f B Ln Rm Rd Pl Mk G Sz Kp th gL gD) (kk : lNext p l e s m below meth c D k o b x ou od Q i cells slots) :
    vV p l e room_1 s m #[.ref b] below meth c 9 D vCl s.heap.size Q (va_pl L f) cells slots 1322 [(5, .int (nI i)), (4, .ref od), (3, .ref ou), (2, .ref (o 0)), (1, .ref x), (0, .ref b)] [] := by
  have hZ := lZ.mem h
  obtain ⟨hi0, hm0, hou, hod, fou, fod, ho1, ho2, ho3⟩ := h
  obtain ⟨kk9, v, B', Ln', Rm', Rd', Pl', Mk', G', Sz', hkk, hct, hm9⟩ := lc_read l D k s.heap.size L f (lZ o ou od) x B Ln Rm Rd Pl Mk G Sz hl hi0 hZ ou gL hou (Or.inr (Or.inl rfl)) fou (xs (i + 1))
  refine vAloadN X dL_law_1322 4 rfl ?_
  refine vAloadN X dL_law_1323 5 rfl ?_
  refine vIload X dL_law_1324 0 rfl ?_
  refine vIconst X dL_law_1326 (v := nI 1) (by decide) ?_
  refine vIadd X dL_law_1327 (nI_add i 1) ?_
  refine vSld X hX hbl (Nat.le_refl _) hLL (j := i + 1) rfl (by omega) dL_law_1328 ?_
  refine vAloadN X dL_law_1329 2 rfl ?_
  refine vCallL X hE [] hct (vGL q_534 q_535 q_23 q_536) rfl ⟨by decide, by decide, (show _ = some 3 from by decide +kernel)⟩ ⟨(Nat.le_of_ble_eq_true rfl), (Nat.le_of_ble_eq_true rfl)⟩ rfl (Nat.le_of_ble_eq_true rfl) dL_law_1330 ⟨(show cells + 1 ≤ 603072 by omega), (show slots + 6 ≤ 7219306 by omega)⟩ (fun v9 w9 hp9 => ?_)
  obtain ⟨L1, f1, g1, rfl, rfl, hk1, fo1, hg1, hi1⟩ := hp9
  refine vIstore X [(6, .int (nI kk9)), (5, .int (nI i)), (4, .ref od), (3, .ref ou), (2, .ref (o 0)), (1, .ref x), (0, .ref b)] dL_law_1333 (by decide) rfl ?_
  have hm1 : mIn k o L1 f1 B Ln Rm Rd Pl Mk G Sz Kp th := hm0.kp (fun a ha => (hk1 a ha).1) (fun j hj => (hk1 _ (hm0.1 j hj)).2 (Or.inl ⟨j, hj, rfl⟩) (fun e => ho1 j hj e.symm))
  obtain ⟨Kp', hm8⟩ := hm9 o Kp th
  have hmc := hm1.call hm8
  refine vAloadN X dL_law_1335 4 rfl ?_
  refine vAloadN X dL_law_1336 6 rfl ?_
  refine vIload X dL_law_1337 1 rfl ?_
  refine vIconst X dL_law_1339 (v := nI 1) (by decide) ?_
  refine vIadd X dL_law_1340 (nI_add i 1) ?_
  refine vSld X hX hbl (Nat.le_refl _) hLL (j := i + 1) rfl (by omega) dL_law_1341 ?_
  obtain ⟨ix, hix⟩ := vp_ix (f := f1) (hm1.1 0 (by decide))
  have hfo : f1 (o 0) = .inr (4, _) := hm1.2.2 0 (by decide)
  refine vCallV X [] hmc (vGV q_887 q_888 q_889 q_29 q_890) ⟨by decide, by decide, (show _ = some 1 from by decide +kernel)⟩ ⟨(Nat.le_of_ble_eq_true rfl), (Nat.le_of_ble_eq_true rfl)⟩ ix 4 rfl rfl (hix.trans (by rw [hfo])) rfl (Nat.le_of_ble_eq_true rfl) dL_law_1342 ⟨(show cells + 1 + 0 ≤ 603072 by omega), (show slots + 6 + 0 ≤ 7219306 by omega)⟩ (fun v8 w8 hp8 => ?_)
  obtain ⟨rfl, f2, rfl, hk2, hm2⟩ := hp8
  refine vIstore X [(7, .int v), (6, .int (nI kk9)), (5, .int (nI i)), (4, .ref od), (3, .ref ou), (2, .ref (o 0)), (1, .ref x), (0, .ref b)] dL_law_1345 (by decide) rfl ?_
  have hmt := hm2.call (fun pl => mm_thrown l D k o pl s.heap.size B' Ln' Rm' Rd' Pl' Mk' G' Sz' Kp' (nI kk9))
  refine vAloadN X dL_law_1347 5 rfl ?_
  obtain ⟨ixt, hixt⟩ := vp_ix (f := f2) (hm2.1 0 (by decide))
  have hfot : f2 (o 0) = .inr (4, _) := hm2.2.2 0 (by decide)
  refine vCallV X [] hmt (vGV q_774 q_775 q_776 q_29 q_777) ⟨by decide, by decide, (show _ = some 0 from by decide +kernel)⟩ ⟨(Nat.le_of_ble_eq_true rfl), (Nat.le_of_ble_eq_true rfl)⟩ ixt 4 rfl rfl (hixt.trans (by rw [hfot])) rfl (Nat.le_of_ble_eq_true rfl) dL_law_1348 ⟨(show cells + 1 + 0 + 0 ≤ 603072 by omega), (show slots + 6 + 0 + 0 ≤ 7219306 by omega)⟩ (fun v8 w8 hp8 => ?_)
  obtain ⟨rfl, f3, rfl, hk3, hm3⟩ := hp8
  refine vIload X dL_law_1351 1 rfl ?_
  refine vIcmp_eqT X 1358 dL_law_1353 (by decide) rfl ?_
  have fo3 : f3 ou = .inl (k 5, 1, .inr (.inl g1)) := (hk3 ou ho1).trans ((hk2 ou ho1).trans fo1)
  have fo4 := (hk3 od ho2).trans ((hk2 od ho2).trans (((hk1 od hod).2 (Or.inr (Or.inr rfl)) (Ne.symm ho3)).trans fod))
  have hfin : lInv k o ou od x L1 f3 B' Ln' Rm' Rd' Pl' Mk' G' Sz' Kp' (nI kk9) g1 gD := ⟨hi1.foreign (fun t ht => ⟨ht, fun hz => (hk3 t (fun j hj e => hz (Or.inl ⟨j, hj, e⟩))).trans (hk2 t (fun j hj e => hz (Or.inl ⟨j, hj, e⟩)))⟩), hm3, (hk1 ou hou).1, (hk1 od hod).1, fo3, fo4, ho1, ho2, ho3⟩
  refine vIload X dL_law_1358 1 rfl ?_
  by_cases h0 : kk9 = 0
  rotate_left
  · refine vIf_neT X 1375 dL_law_1360 (by decide) (nkk h0 (by omega)) ?_
    refine vGoto X 2499 dL_law_1375 (by decide) ?_
    refine vSub [2, 3, 4, 5, 6, 7] [(5, .int (nI i)), (4, .ref od), (3, .ref ou), (2, .ref (o 0)), (1, .ref x), (0, .ref b)] rfl ?_
    refine vWiden (cells + 8) (slots + 800) (by omega) (by omega) ?_
    exact kk _ _ _ _ _ _ _ _ _ _ _ _ _ _ hfin
  · refine vIf_neF X 1375 dL_law_1360 (by decide) (by rw [h0]; rfl) ?_
    refine vAloadN X dL_law_1363 4 rfl ?_
    refine vIconst X dL_law_1364 (v := nI 0) (by decide) ?_
    refine vpLaload X (hk1 ou hou).1 fo3 5 rfl rfl (by decide) (by decide) (hg1 h0) dL_law_1365 ?_
    refine vIload X dL_law_1366 0 rfl ?_
    refine vI2l X dL_law_1368 (v := v.toInt64) rfl ?_
    refine vLcmp X dL_law_1369 ?_
    refine vIf_eqT X 1375 dL_law_1370 (by decide) (lgc_self _) ?_
    refine vGoto X 2499 dL_law_1375 (by decide) ?_
    refine vSub [2, 3, 4, 5, 6, 7] [(5, .int (nI i)), (4, .ref od), (3, .ref ou), (2, .ref (o 0)), (1, .ref x), (0, .ref b)] rfl ?_
    refine vWiden (cells + 8) (slots + 800) (by omega) (by omega) ?_
    exact kk _ _ _ _ _ _ _ _ _ _ _ _ _ _ hfin
set_option maxHeartbeats 4000000 in
theorem lw_readPart {p : Program} {e : Env} {s : State} {m : MethodId} {below : List Frame} {meth : Method} {c : Code} (l : Launch) {D : va_G} {k : Nat → ClassId} {o : Nat → Nat} {b LL x ou od : Nat} {xs : Nat → Int32} {Q : State → Prop} (X : vCX p s m #[.ref b] meth c cL_law 9 RL (Cond.initialized "Bytewell" :: vGW) D vCl (vTy k) s.heap.size) (hE : vEL s.heap.size s) (hl : l.stackTraces = false) (hX : va_X b LL xs s s.heap) (hbl : b < s.heap.size) (hLL : LL ≤ 3072) {i : Nat} (hi : i + 6 ≤ LL) {cells slots : Nat} (hc : cells + 8 ≤ 603072) (hs : slots + 800 ≤ 7219306) {L : List Nat} {f : Nat → va_E} {B : Nat → Nat → Int32} {Ln Rm : Nat → Nat} {Rd : Nat → Option Nat} {Pl Mk : Nat → Nat} {G : Nat → Nat → Int32} {Sz : Nat → Nat} {Kp : Nat → Int32} {th : Int32} {gL : Nat → Int64} {gD : Nat → UInt64} (h : lInv k o ou od x L f B Ln Rm Rd Pl Mk G Sz Kp th gL gD) (kk : lNext p l e s m below meth c D k o b x ou od Q i cells slots) :
    vV p l e room_1 s m #[.ref b] below meth c 9 D vCl s.heap.size Q (va_pl L f) cells slots 1378 [(5, .int (nI i)), (4, .ref od), (3, .ref ou), (2, .ref (o 0)), (1, .ref x), (0, .ref b)] [] := by
  have hZ := lZ.mem h
  obtain ⟨hi0, hm0, hou, hod, fou, fod, ho1, ho2, ho3⟩ := h
  obtain ⟨kk9, v, B', Ln', Rm', Rd', Pl', Mk', G', Sz', hkk, hct, hm9⟩ := lc_readPart l D k s.heap.size L f (lZ o ou od) x B Ln Rm Rd Pl Mk G Sz hl hi0 hZ ou gL hou (Or.inr (Or.inl rfl)) fou (xs (i + 1)) (xs (i + 2)) (xs (i + 3)) (xs (i + 4))
  refine vAloadN X dL_law_1378 4 rfl ?_
  refine vAloadN X dL_law_1379 5 rfl ?_
  refine vIload X dL_law_1380 0 rfl ?_
  refine vIconst X dL_law_1382 (v := nI 1) (by decide) ?_
  refine vIadd X dL_law_1383 (nI_add i 1) ?_
  refine vSld X hX hbl (Nat.le_refl _) hLL (j := i + 1) rfl (by omega) dL_law_1384 ?_
  refine vAloadN X dL_law_1385 5 rfl ?_
  refine vIload X dL_law_1386 0 rfl ?_
  refine vIconst X dL_law_1388 (v := nI 2) (by decide) ?_
  refine vIadd X dL_law_1389 (nI_add i 2) ?_
  refine vSld X hX hbl (Nat.le_refl _) hLL (j := i + 2) rfl (by omega) dL_law_1390 ?_
  refine vAloadN X dL_law_1391 5 rfl ?_
  refine vIload X dL_law_1392 0 rfl ?_
  refine vIconst X dL_law_1394 (v := nI 3) (by decide) ?_
  refine vIadd X dL_law_1395 (nI_add i 3) ?_
  refine vSld X hX hbl (Nat.le_refl _) hLL (j := i + 3) rfl (by omega) dL_law_1396 ?_
  refine vAloadN X dL_law_1397 5 rfl ?_
  refine vIload X dL_law_1398 0 rfl ?_
  refine vIconst X dL_law_1400 (v := nI 4) (by decide) ?_
  refine vIadd X dL_law_1401 (nI_add i 4) ?_
  refine vSld X hX hbl (Nat.le_refl _) hLL (j := i + 4) rfl (by omega) dL_law_1402 ?_
  refine vAloadN X dL_law_1403 2 rfl ?_
  refine vCallL X hE [] hct (vGL q_561 q_562 q_23 q_563) rfl ⟨by decide, by decide, (show _ = some 6 from by decide +kernel)⟩ ⟨(Nat.le_of_ble_eq_true rfl), (Nat.le_of_ble_eq_true rfl)⟩ rfl (Nat.le_of_ble_eq_true rfl) dL_law_1404 ⟨(show cells + 1 ≤ 603072 by omega), (show slots + 6 ≤ 7219306 by omega)⟩ (fun v9 w9 hp9 => ?_)
  obtain ⟨L1, f1, g1, rfl, rfl, hk1, fo1, hg1, hi1⟩ := hp9
  refine vIstore X [(6, .int (nI kk9)), (5, .int (nI i)), (4, .ref od), (3, .ref ou), (2, .ref (o 0)), (1, .ref x), (0, .ref b)] dL_law_1407 (by decide) rfl ?_
  have hm1 : mIn k o L1 f1 B Ln Rm Rd Pl Mk G Sz Kp th := hm0.kp (fun a ha => (hk1 a ha).1) (fun j hj => (hk1 _ (hm0.1 j hj)).2 (Or.inl ⟨j, hj, rfl⟩) (fun e => ho1 j hj e.symm))
  obtain ⟨Kp', hm8⟩ := hm9 o Kp th
  have hmc := hm1.call hm8
  refine vAloadN X dL_law_1409 4 rfl ?_
  refine vAloadN X dL_law_1410 6 rfl ?_
  refine vIload X dL_law_1411 1 rfl ?_
  refine vIconst X dL_law_1413 (v := nI 1) (by decide) ?_
  refine vIadd X dL_law_1414 (nI_add i 1) ?_
  refine vSld X hX hbl (Nat.le_refl _) hLL (j := i + 1) rfl (by omega) dL_law_1415 ?_
  refine vAloadN X dL_law_1416 6 rfl ?_
  refine vIload X dL_law_1417 1 rfl ?_
  refine vIconst X dL_law_1419 (v := nI 2) (by decide) ?_
  refine vIadd X dL_law_1420 (nI_add i 2) ?_
  refine vSld X hX hbl (Nat.le_refl _) hLL (j := i + 2) rfl (by omega) dL_law_1421 ?_
  refine vAloadN X dL_law_1422 6 rfl ?_
  refine vIload X dL_law_1423 1 rfl ?_
  refine vIconst X dL_law_1425 (v := nI 3) (by decide) ?_
  refine vIadd X dL_law_1426 (nI_add i 3) ?_
  refine vSld X hX hbl (Nat.le_refl _) hLL (j := i + 3) rfl (by omega) dL_law_1427 ?_
  refine vAloadN X dL_law_1428 6 rfl ?_
  refine vIload X dL_law_1429 1 rfl ?_
  refine vIconst X dL_law_1431 (v := nI 4) (by decide) ?_
  refine vIadd X dL_law_1432 (nI_add i 4) ?_
  refine vSld X hX hbl (Nat.le_refl _) hLL (j := i + 4) rfl (by omega) dL_law_1433 ?_
  obtain ⟨ix, hix⟩ := vp_ix (f := f1) (hm1.1 0 (by decide))
  have hfo : f1 (o 0) = .inr (4, _) := hm1.2.2 0 (by decide)
  refine vCallV X [] hmc (vGV q_895 q_896 q_897 q_29 q_898) ⟨by decide, by decide, (show _ = some 4 from by decide +kernel)⟩ ⟨(Nat.le_of_ble_eq_true rfl), (Nat.le_of_ble_eq_true rfl)⟩ ix 4 rfl rfl (hix.trans (by rw [hfo])) rfl (Nat.le_of_ble_eq_true rfl) dL_law_1434 ⟨(show cells + 1 + 0 ≤ 603072 by omega), (show slots + 6 + 0 ≤ 7219306 by omega)⟩ (fun v8 w8 hp8 => ?_)
  obtain ⟨rfl, f2, rfl, hk2, hm2⟩ := hp8
  refine vIstore X [(7, .int v), (6, .int (nI kk9)), (5, .int (nI i)), (4, .ref od), (3, .ref ou), (2, .ref (o 0)), (1, .ref x), (0, .ref b)] dL_law_1437 (by decide) rfl ?_
  have hmt := hm2.call (fun pl => mm_thrown l D k o pl s.heap.size B' Ln' Rm' Rd' Pl' Mk' G' Sz' Kp' (nI kk9))
  refine vAloadN X dL_law_1439 5 rfl ?_
  obtain ⟨ixt, hixt⟩ := vp_ix (f := f2) (hm2.1 0 (by decide))
  have hfot : f2 (o 0) = .inr (4, _) := hm2.2.2 0 (by decide)
  refine vCallV X [] hmt (vGV q_774 q_775 q_776 q_29 q_777) ⟨by decide, by decide, (show _ = some 0 from by decide +kernel)⟩ ⟨(Nat.le_of_ble_eq_true rfl), (Nat.le_of_ble_eq_true rfl)⟩ ixt 4 rfl rfl (hixt.trans (by rw [hfot])) rfl (Nat.le_of_ble_eq_true rfl) dL_law_1440 ⟨(show cells + 1 + 0 + 0 ≤ 603072 by omega), (show slots + 6 + 0 + 0 ≤ 7219306 by omega)⟩ (fun v8 w8 hp8 => ?_)
  obtain ⟨rfl, f3, rfl, hk3, hm3⟩ := hp8
  refine vIload X dL_law_1443 1 rfl ?_
  refine vIcmp_eqT X 1450 dL_law_1445 (by decide) rfl ?_
  have fo3 : f3 ou = .inl (k 5, 1, .inr (.inl g1)) := (hk3 ou ho1).trans ((hk2 ou ho1).trans fo1)
  have fo4 := (hk3 od ho2).trans ((hk2 od ho2).trans (((hk1 od hod).2 (Or.inr (Or.inr rfl)) (Ne.symm ho3)).trans fod))
  have hfin : lInv k o ou od x L1 f3 B' Ln' Rm' Rd' Pl' Mk' G' Sz' Kp' (nI kk9) g1 gD := ⟨hi1.foreign (fun t ht => ⟨ht, fun hz => (hk3 t (fun j hj e => hz (Or.inl ⟨j, hj, e⟩))).trans (hk2 t (fun j hj e => hz (Or.inl ⟨j, hj, e⟩)))⟩), hm3, (hk1 ou hou).1, (hk1 od hod).1, fo3, fo4, ho1, ho2, ho3⟩
  refine vIload X dL_law_1450 1 rfl ?_
  by_cases h0 : kk9 = 0
  rotate_left
  · refine vIf_neT X 1467 dL_law_1452 (by decide) (nkk h0 (by omega)) ?_
    refine vGoto X 2499 dL_law_1467 (by decide) ?_
    refine vSub [2, 3, 4, 5, 6, 7] [(5, .int (nI i)), (4, .ref od), (3, .ref ou), (2, .ref (o 0)), (1, .ref x), (0, .ref b)] rfl ?_
    refine vWiden (cells + 8) (slots + 800) (by omega) (by omega) ?_
    exact kk _ _ _ _ _ _ _ _ _ _ _ _ _ _ hfin
  · refine vIf_neF X 1467 dL_law_1452 (by decide) (by rw [h0]; rfl) ?_
    refine vAloadN X dL_law_1455 4 rfl ?_
    refine vIconst X dL_law_1456 (v := nI 0) (by decide) ?_
    refine vpLaload X (hk1 ou hou).1 fo3 5 rfl rfl (by decide) (by decide) (hg1 h0) dL_law_1457 ?_
    refine vIload X dL_law_1458 0 rfl ?_
    refine vI2l X dL_law_1460 (v := v.toInt64) rfl ?_
    refine vLcmp X dL_law_1461 ?_
    refine vIf_eqT X 1467 dL_law_1462 (by decide) (lgc_self _) ?_
    refine vGoto X 2499 dL_law_1467 (by decide) ?_
    refine vSub [2, 3, 4, 5, 6, 7] [(5, .int (nI i)), (4, .ref od), (3, .ref ou), (2, .ref (o 0)), (1, .ref x), (0, .ref b)] rfl ?_
    refine vWiden (cells + 8) (slots + 800) (by omega) (by omega) ?_
    exact kk _ _ _ _ _ _ _ _ _ _ _ _ _ _ hfin
set_option maxHeartbeats 4000000 in
theorem lw_readFull {p : Program} {e : Env} {s : State} {m : MethodId} {below : List Frame} {meth : Method} {c : Code} (l : Launch) {D : va_G} {k : Nat → ClassId} {o : Nat → Nat} {b LL x ou od : Nat} {xs : Nat → Int32} {Q : State → Prop} (X : vCX p s m #[.ref b] meth c cL_law 9 RL (Cond.initialized "Bytewell" :: vGW) D vCl (vTy k) s.heap.size) (hE : vEL s.heap.size s) (hl : l.stackTraces = false) (hX : va_X b LL xs s s.heap) (hbl : b < s.heap.size) (hLL : LL ≤ 3072) {i : Nat} (hi : i + 6 ≤ LL) {cells slots : Nat} (hc : cells + 8 ≤ 603072) (hs : slots + 800 ≤ 7219306) {L : List Nat} {f : Nat → va_E} {B : Nat → Nat → Int32} {Ln Rm : Nat → Nat} {Rd : Nat → Option Nat} {Pl Mk : Nat → Nat} {G : Nat → Nat → Int32} {Sz : Nat → Nat} {Kp : Nat → Int32} {th : Int32} {gL : Nat → Int64} {gD : Nat → UInt64} (h : lInv k o ou od x L f B Ln Rm Rd Pl Mk G Sz Kp th gL gD) (kk : lNext p l e s m below meth c D k o b x ou od Q i cells slots) :
    vV p l e room_1 s m #[.ref b] below meth c 9 D vCl s.heap.size Q (va_pl L f) cells slots 1470 [(5, .int (nI i)), (4, .ref od), (3, .ref ou), (2, .ref (o 0)), (1, .ref x), (0, .ref b)] [] := by
  have hZ := lZ.mem h
  obtain ⟨hi0, hm0, hou, hod, fou, fod, ho1, ho2, ho3⟩ := h
  obtain ⟨kk9, v, B', Ln', Rm', Rd', Pl', Mk', G', Sz', hkk, hct, hm9⟩ := lc_readFull l D k s.heap.size L f (lZ o ou od) x B Ln Rm Rd Pl Mk G Sz hl hi0 hZ ou gL hou (Or.inr (Or.inl rfl)) fou (xs (i + 1)) (xs (i + 2)) (xs (i + 3)) (xs (i + 4))
  refine vAloadN X dL_law_1470 4 rfl ?_
  refine vAloadN X dL_law_1471 5 rfl ?_
  refine vIload X dL_law_1472 0 rfl ?_
  refine vIconst X dL_law_1474 (v := nI 1) (by decide) ?_
  refine vIadd X dL_law_1475 (nI_add i 1) ?_
  refine vSld X hX hbl (Nat.le_refl _) hLL (j := i + 1) rfl (by omega) dL_law_1476 ?_
  refine vAloadN X dL_law_1477 5 rfl ?_
  refine vIload X dL_law_1478 0 rfl ?_
  refine vIconst X dL_law_1480 (v := nI 2) (by decide) ?_
  refine vIadd X dL_law_1481 (nI_add i 2) ?_
  refine vSld X hX hbl (Nat.le_refl _) hLL (j := i + 2) rfl (by omega) dL_law_1482 ?_
  refine vAloadN X dL_law_1483 5 rfl ?_
  refine vIload X dL_law_1484 0 rfl ?_
  refine vIconst X dL_law_1486 (v := nI 3) (by decide) ?_
  refine vIadd X dL_law_1487 (nI_add i 3) ?_
  refine vSld X hX hbl (Nat.le_refl _) hLL (j := i + 3) rfl (by omega) dL_law_1488 ?_
  refine vAloadN X dL_law_1489 5 rfl ?_
  refine vIload X dL_law_1490 0 rfl ?_
  refine vIconst X dL_law_1492 (v := nI 4) (by decide) ?_
  refine vIadd X dL_law_1493 (nI_add i 4) ?_
  refine vSld X hX hbl (Nat.le_refl _) hLL (j := i + 4) rfl (by omega) dL_law_1494 ?_
  refine vAloadN X dL_law_1495 2 rfl ?_
  refine vCallL X hE [] hct (vGL q_573 q_574 q_23 q_575) rfl ⟨by decide, by decide, (show _ = some 6 from by decide +kernel)⟩ ⟨(Nat.le_of_ble_eq_true rfl), (Nat.le_of_ble_eq_true rfl)⟩ rfl (Nat.le_of_ble_eq_true rfl) dL_law_1496 ⟨(show cells + 1 ≤ 603072 by omega), (show slots + 6 ≤ 7219306 by omega)⟩ (fun v9 w9 hp9 => ?_)
  obtain ⟨L1, f1, g1, rfl, rfl, hk1, fo1, hg1, hi1⟩ := hp9
  refine vIstore X [(6, .int (nI kk9)), (5, .int (nI i)), (4, .ref od), (3, .ref ou), (2, .ref (o 0)), (1, .ref x), (0, .ref b)] dL_law_1499 (by decide) rfl ?_
  have hm1 : mIn k o L1 f1 B Ln Rm Rd Pl Mk G Sz Kp th := hm0.kp (fun a ha => (hk1 a ha).1) (fun j hj => (hk1 _ (hm0.1 j hj)).2 (Or.inl ⟨j, hj, rfl⟩) (fun e => ho1 j hj e.symm))
  obtain ⟨Kp', hm8⟩ := hm9 o Kp th
  have hmc := hm1.call hm8
  refine vAloadN X dL_law_1501 4 rfl ?_
  refine vAloadN X dL_law_1502 6 rfl ?_
  refine vIload X dL_law_1503 1 rfl ?_
  refine vIconst X dL_law_1505 (v := nI 1) (by decide) ?_
  refine vIadd X dL_law_1506 (nI_add i 1) ?_
  refine vSld X hX hbl (Nat.le_refl _) hLL (j := i + 1) rfl (by omega) dL_law_1507 ?_
  refine vAloadN X dL_law_1508 6 rfl ?_
  refine vIload X dL_law_1509 1 rfl ?_
  refine vIconst X dL_law_1511 (v := nI 2) (by decide) ?_
  refine vIadd X dL_law_1512 (nI_add i 2) ?_
  refine vSld X hX hbl (Nat.le_refl _) hLL (j := i + 2) rfl (by omega) dL_law_1513 ?_
  refine vAloadN X dL_law_1514 6 rfl ?_
  refine vIload X dL_law_1515 1 rfl ?_
  refine vIconst X dL_law_1517 (v := nI 3) (by decide) ?_
  refine vIadd X dL_law_1518 (nI_add i 3) ?_
  refine vSld X hX hbl (Nat.le_refl _) hLL (j := i + 3) rfl (by omega) dL_law_1519 ?_
  refine vAloadN X dL_law_1520 6 rfl ?_
  refine vIload X dL_law_1521 1 rfl ?_
  refine vIconst X dL_law_1523 (v := nI 4) (by decide) ?_
  refine vIadd X dL_law_1524 (nI_add i 4) ?_
  refine vSld X hX hbl (Nat.le_refl _) hLL (j := i + 4) rfl (by omega) dL_law_1525 ?_
  obtain ⟨ix, hix⟩ := vp_ix (f := f1) (hm1.1 0 (by decide))
  have hfo : f1 (o 0) = .inr (4, _) := hm1.2.2 0 (by decide)
  refine vCallV X [] hmc (vGV q_915 q_916 q_917 q_29 q_918) ⟨by decide, by decide, (show _ = some 4 from by decide +kernel)⟩ ⟨(Nat.le_of_ble_eq_true rfl), (Nat.le_of_ble_eq_true rfl)⟩ ix 4 rfl rfl (hix.trans (by rw [hfo])) rfl (Nat.le_of_ble_eq_true rfl) dL_law_1526 ⟨(show cells + 1 + 0 ≤ 603072 by omega), (show slots + 6 + 0 ≤ 7219306 by omega)⟩ (fun v8 w8 hp8 => ?_)
  obtain ⟨rfl, f2, rfl, hk2, hm2⟩ := hp8
  refine vIstore X [(7, .int v), (6, .int (nI kk9)), (5, .int (nI i)), (4, .ref od), (3, .ref ou), (2, .ref (o 0)), (1, .ref x), (0, .ref b)] dL_law_1529 (by decide) rfl ?_
  have hmt := hm2.call (fun pl => mm_thrown l D k o pl s.heap.size B' Ln' Rm' Rd' Pl' Mk' G' Sz' Kp' (nI kk9))
  refine vAloadN X dL_law_1531 5 rfl ?_
  obtain ⟨ixt, hixt⟩ := vp_ix (f := f2) (hm2.1 0 (by decide))
  have hfot : f2 (o 0) = .inr (4, _) := hm2.2.2 0 (by decide)
  refine vCallV X [] hmt (vGV q_774 q_775 q_776 q_29 q_777) ⟨by decide, by decide, (show _ = some 0 from by decide +kernel)⟩ ⟨(Nat.le_of_ble_eq_true rfl), (Nat.le_of_ble_eq_true rfl)⟩ ixt 4 rfl rfl (hixt.trans (by rw [hfot])) rfl (Nat.le_of_ble_eq_true rfl) dL_law_1532 ⟨(show cells + 1 + 0 + 0 ≤ 603072 by omega), (show slots + 6 + 0 + 0 ≤ 7219306 by omega)⟩ (fun v8 w8 hp8 => ?_)
  obtain ⟨rfl, f3, rfl, hk3, hm3⟩ := hp8
  refine vIload X dL_law_1535 1 rfl ?_
  refine vIcmp_eqT X 1542 dL_law_1537 (by decide) rfl ?_
  have fo3 : f3 ou = .inl (k 5, 1, .inr (.inl g1)) := (hk3 ou ho1).trans ((hk2 ou ho1).trans fo1)
  have fo4 := (hk3 od ho2).trans ((hk2 od ho2).trans (((hk1 od hod).2 (Or.inr (Or.inr rfl)) (Ne.symm ho3)).trans fod))
  have hfin : lInv k o ou od x L1 f3 B' Ln' Rm' Rd' Pl' Mk' G' Sz' Kp' (nI kk9) g1 gD := ⟨hi1.foreign (fun t ht => ⟨ht, fun hz => (hk3 t (fun j hj e => hz (Or.inl ⟨j, hj, e⟩))).trans (hk2 t (fun j hj e => hz (Or.inl ⟨j, hj, e⟩)))⟩), hm3, (hk1 ou hou).1, (hk1 od hod).1, fo3, fo4, ho1, ho2, ho3⟩
  refine vIload X dL_law_1542 1 rfl ?_
  by_cases h0 : kk9 = 0
  rotate_left
  · refine vIf_neT X 1559 dL_law_1544 (by decide) (nkk h0 (by omega)) ?_
    refine vGoto X 2499 dL_law_1559 (by decide) ?_
    refine vSub [2, 3, 4, 5, 6, 7] [(5, .int (nI i)), (4, .ref od), (3, .ref ou), (2, .ref (o 0)), (1, .ref x), (0, .ref b)] rfl ?_
    refine vWiden (cells + 8) (slots + 800) (by omega) (by omega) ?_
    exact kk _ _ _ _ _ _ _ _ _ _ _ _ _ _ hfin
  · refine vIf_neF X 1559 dL_law_1544 (by decide) (by rw [h0]; rfl) ?_
    refine vAloadN X dL_law_1547 4 rfl ?_
    refine vIconst X dL_law_1548 (v := nI 0) (by decide) ?_
    refine vpLaload X (hk1 ou hou).1 fo3 5 rfl rfl (by decide) (by decide) (hg1 h0) dL_law_1549 ?_
    refine vIload X dL_law_1550 0 rfl ?_
    refine vI2l X dL_law_1552 (v := v.toInt64) rfl ?_
    refine vLcmp X dL_law_1553 ?_
    refine vIf_eqT X 1559 dL_law_1554 (by decide) (lgc_self _) ?_
    refine vGoto X 2499 dL_law_1559 (by decide) ?_
    refine vSub [2, 3, 4, 5, 6, 7] [(5, .int (nI i)), (4, .ref od), (3, .ref ou), (2, .ref (o 0)), (1, .ref x), (0, .ref b)] rfl ?_
    refine vWiden (cells + 8) (slots + 800) (by omega) (by omega) ?_
    exact kk _ _ _ _ _ _ _ _ _ _ _ _ _ _ hfin
set_option maxHeartbeats 4000000 in
theorem lw_readSome {p : Program} {e : Env} {s : State} {m : MethodId} {below : List Frame} {meth : Method} {c : Code} (l : Launch) {D : va_G} {k : Nat → ClassId} {o : Nat → Nat} {b LL x ou od : Nat} {xs : Nat → Int32} {Q : State → Prop} (X : vCX p s m #[.ref b] meth c cL_law 9 RL (Cond.initialized "Bytewell" :: vGW) D vCl (vTy k) s.heap.size) (hE : vEL s.heap.size s) (hl : l.stackTraces = false) (hX : va_X b LL xs s s.heap) (hbl : b < s.heap.size) (hLL : LL ≤ 3072) {i : Nat} (hi : i + 6 ≤ LL) {cells slots : Nat} (hc : cells + 8 ≤ 603072) (hs : slots + 800 ≤ 7219306) {L : List Nat} {f : Nat → va_E} {B : Nat → Nat → Int32} {Ln Rm : Nat → Nat} {Rd : Nat → Option Nat} {Pl Mk : Nat → Nat} {G : Nat → Nat → Int32} {Sz : Nat → Nat} {Kp : Nat → Int32} {th : Int32} {gL : Nat → Int64} {gD : Nat → UInt64} (h : lInv k o ou od x L f B Ln Rm Rd Pl Mk G Sz Kp th gL gD) (kk : lNext p l e s m below meth c D k o b x ou od Q i cells slots) :
    vV p l e room_1 s m #[.ref b] below meth c 9 D vCl s.heap.size Q (va_pl L f) cells slots 1562 [(5, .int (nI i)), (4, .ref od), (3, .ref ou), (2, .ref (o 0)), (1, .ref x), (0, .ref b)] [] := by
  have hZ := lZ.mem h
  obtain ⟨hi0, hm0, hou, hod, fou, fod, ho1, ho2, ho3⟩ := h
  obtain ⟨kk9, v, B', Ln', Rm', Rd', Pl', Mk', G', Sz', hkk, hct, hm9⟩ := lc_readSome l D k s.heap.size L f (lZ o ou od) x B Ln Rm Rd Pl Mk G Sz hl hi0 hZ ou gL hou (Or.inr (Or.inl rfl)) fou (xs (i + 1)) (xs (i + 2)) (xs (i + 3))
  refine vAloadN X dL_law_1562 4 rfl ?_
  refine vAloadN X dL_law_1563 5 rfl ?_
  refine vIload X dL_law_1564 0 rfl ?_
  refine vIconst X dL_law_1566 (v := nI 1) (by decide) ?_
  refine vIadd X dL_law_1567 (nI_add i 1) ?_
  refine vSld X hX hbl (Nat.le_refl _) hLL (j := i + 1) rfl (by omega) dL_law_1568 ?_
  refine vAloadN X dL_law_1569 5 rfl ?_
  refine vIload X dL_law_1570 0 rfl ?_
  refine vIconst X dL_law_1572 (v := nI 2) (by decide) ?_
  refine vIadd X dL_law_1573 (nI_add i 2) ?_
  refine vSld X hX hbl (Nat.le_refl _) hLL (j := i + 2) rfl (by omega) dL_law_1574 ?_
  refine vAloadN X dL_law_1575 5 rfl ?_
  refine vIload X dL_law_1576 0 rfl ?_
  refine vIconst X dL_law_1578 (v := nI 3) (by decide) ?_
  refine vIadd X dL_law_1579 (nI_add i 3) ?_
  refine vSld X hX hbl (Nat.le_refl _) hLL (j := i + 3) rfl (by omega) dL_law_1580 ?_
  refine vAloadN X dL_law_1581 2 rfl ?_
  refine vCallL X hE [] hct (vGL q_585 q_586 q_23 q_587) rfl ⟨by decide, by decide, (show _ = some 5 from by decide +kernel)⟩ ⟨(Nat.le_of_ble_eq_true rfl), (Nat.le_of_ble_eq_true rfl)⟩ rfl (Nat.le_of_ble_eq_true rfl) dL_law_1582 ⟨(show cells + 2 ≤ 603072 by omega), (show slots + 257 ≤ 7219306 by omega)⟩ (fun v9 w9 hp9 => ?_)
  obtain ⟨L1, f1, g1, rfl, rfl, hk1, fo1, hg1, hi1⟩ := hp9
  refine vIstore X [(6, .int (nI kk9)), (5, .int (nI i)), (4, .ref od), (3, .ref ou), (2, .ref (o 0)), (1, .ref x), (0, .ref b)] dL_law_1585 (by decide) rfl ?_
  have hm1 : mIn k o L1 f1 B Ln Rm Rd Pl Mk G Sz Kp th := hm0.kp (fun a ha => (hk1 a ha).1) (fun j hj => (hk1 _ (hm0.1 j hj)).2 (Or.inl ⟨j, hj, rfl⟩) (fun e => ho1 j hj e.symm))
  obtain ⟨Kp', hm8⟩ := hm9 o Kp th
  have hmc := hm1.call hm8
  refine vAloadN X dL_law_1587 4 rfl ?_
  refine vAloadN X dL_law_1588 6 rfl ?_
  refine vIload X dL_law_1589 1 rfl ?_
  refine vIconst X dL_law_1591 (v := nI 1) (by decide) ?_
  refine vIadd X dL_law_1592 (nI_add i 1) ?_
  refine vSld X hX hbl (Nat.le_refl _) hLL (j := i + 1) rfl (by omega) dL_law_1593 ?_
  refine vAloadN X dL_law_1594 6 rfl ?_
  refine vIload X dL_law_1595 1 rfl ?_
  refine vIconst X dL_law_1597 (v := nI 2) (by decide) ?_
  refine vIadd X dL_law_1598 (nI_add i 2) ?_
  refine vSld X hX hbl (Nat.le_refl _) hLL (j := i + 2) rfl (by omega) dL_law_1599 ?_
  refine vAloadN X dL_law_1600 6 rfl ?_
  refine vIload X dL_law_1601 1 rfl ?_
  refine vIconst X dL_law_1603 (v := nI 3) (by decide) ?_
  refine vIadd X dL_law_1604 (nI_add i 3) ?_
  refine vSld X hX hbl (Nat.le_refl _) hLL (j := i + 3) rfl (by omega) dL_law_1605 ?_
  obtain ⟨ix, hix⟩ := vp_ix (f := f1) (hm1.1 0 (by decide))
  have hfo : f1 (o 0) = .inr (4, _) := hm1.2.2 0 (by decide)
  refine vCallV X [] hmc (vGV q_919 q_920 q_921 q_29 q_922) ⟨by decide, by decide, (show _ = some 3 from by decide +kernel)⟩ ⟨(Nat.le_of_ble_eq_true rfl), (Nat.le_of_ble_eq_true rfl)⟩ ix 4 rfl rfl (hix.trans (by rw [hfo])) rfl (Nat.le_of_ble_eq_true rfl) dL_law_1606 ⟨(show cells + 2 + 0 ≤ 603072 by omega), (show slots + 257 + 0 ≤ 7219306 by omega)⟩ (fun v8 w8 hp8 => ?_)
  obtain ⟨rfl, f2, rfl, hk2, hm2⟩ := hp8
  refine vIstore X [(7, .int v), (6, .int (nI kk9)), (5, .int (nI i)), (4, .ref od), (3, .ref ou), (2, .ref (o 0)), (1, .ref x), (0, .ref b)] dL_law_1609 (by decide) rfl ?_
  have hmt := hm2.call (fun pl => mm_thrown l D k o pl s.heap.size B' Ln' Rm' Rd' Pl' Mk' G' Sz' Kp' (nI kk9))
  refine vAloadN X dL_law_1611 5 rfl ?_
  obtain ⟨ixt, hixt⟩ := vp_ix (f := f2) (hm2.1 0 (by decide))
  have hfot : f2 (o 0) = .inr (4, _) := hm2.2.2 0 (by decide)
  refine vCallV X [] hmt (vGV q_774 q_775 q_776 q_29 q_777) ⟨by decide, by decide, (show _ = some 0 from by decide +kernel)⟩ ⟨(Nat.le_of_ble_eq_true rfl), (Nat.le_of_ble_eq_true rfl)⟩ ixt 4 rfl rfl (hixt.trans (by rw [hfot])) rfl (Nat.le_of_ble_eq_true rfl) dL_law_1612 ⟨(show cells + 2 + 0 + 0 ≤ 603072 by omega), (show slots + 257 + 0 + 0 ≤ 7219306 by omega)⟩ (fun v8 w8 hp8 => ?_)
  obtain ⟨rfl, f3, rfl, hk3, hm3⟩ := hp8
  refine vIload X dL_law_1615 1 rfl ?_
  refine vIcmp_eqT X 1622 dL_law_1617 (by decide) rfl ?_
  have fo3 : f3 ou = .inl (k 5, 1, .inr (.inl g1)) := (hk3 ou ho1).trans ((hk2 ou ho1).trans fo1)
  have fo4 := (hk3 od ho2).trans ((hk2 od ho2).trans (((hk1 od hod).2 (Or.inr (Or.inr rfl)) (Ne.symm ho3)).trans fod))
  have hfin : lInv k o ou od x L1 f3 B' Ln' Rm' Rd' Pl' Mk' G' Sz' Kp' (nI kk9) g1 gD := ⟨hi1.foreign (fun t ht => ⟨ht, fun hz => (hk3 t (fun j hj e => hz (Or.inl ⟨j, hj, e⟩))).trans (hk2 t (fun j hj e => hz (Or.inl ⟨j, hj, e⟩)))⟩), hm3, (hk1 ou hou).1, (hk1 od hod).1, fo3, fo4, ho1, ho2, ho3⟩
  refine vIload X dL_law_1622 1 rfl ?_
  by_cases h0 : kk9 = 0
  rotate_left
  · refine vIf_neT X 1639 dL_law_1624 (by decide) (nkk h0 (by omega)) ?_
    refine vGoto X 2499 dL_law_1639 (by decide) ?_
    refine vSub [2, 3, 4, 5, 6, 7] [(5, .int (nI i)), (4, .ref od), (3, .ref ou), (2, .ref (o 0)), (1, .ref x), (0, .ref b)] rfl ?_
    refine vWiden (cells + 8) (slots + 800) (by omega) (by omega) ?_
    exact kk _ _ _ _ _ _ _ _ _ _ _ _ _ _ hfin
  · refine vIf_neF X 1639 dL_law_1624 (by decide) (by rw [h0]; rfl) ?_
    refine vAloadN X dL_law_1627 4 rfl ?_
    refine vIconst X dL_law_1628 (v := nI 0) (by decide) ?_
    refine vpLaload X (hk1 ou hou).1 fo3 5 rfl rfl (by decide) (by decide) (hg1 h0) dL_law_1629 ?_
    refine vIload X dL_law_1630 0 rfl ?_
    refine vI2l X dL_law_1632 (v := v.toInt64) rfl ?_
    refine vLcmp X dL_law_1633 ?_
    refine vIf_eqT X 1639 dL_law_1634 (by decide) (lgc_self _) ?_
    refine vGoto X 2499 dL_law_1639 (by decide) ?_
    refine vSub [2, 3, 4, 5, 6, 7] [(5, .int (nI i)), (4, .ref od), (3, .ref ou), (2, .ref (o 0)), (1, .ref x), (0, .ref b)] rfl ?_
    refine vWiden (cells + 8) (slots + 800) (by omega) (by omega) ?_
    exact kk _ _ _ _ _ _ _ _ _ _ _ _ _ _ hfin
set_option maxHeartbeats 4000000 in
theorem lw_readNumber {p : Program} {e : Env} {s : State} {m : MethodId} {below : List Frame} {meth : Method} {c : Code} (l : Launch) {D : va_G} {k : Nat → ClassId} {o : Nat → Nat} {b LL x ou od : Nat} {xs : Nat → Int32} {Q : State → Prop} (X : vCX p s m #[.ref b] meth c cL_law 9 RL (Cond.initialized "Bytewell" :: vGW) D vCl (vTy k) s.heap.size) (hE : vEL s.heap.size s) (hl : l.stackTraces = false) (hX : va_X b LL xs s s.heap) (hbl : b < s.heap.size) (hLL : LL ≤ 3072) {i : Nat} (hi : i + 6 ≤ LL) {cells slots : Nat} (hc : cells + 8 ≤ 603072) (hs : slots + 800 ≤ 7219306) {L : List Nat} {f : Nat → va_E} {B : Nat → Nat → Int32} {Ln Rm : Nat → Nat} {Rd : Nat → Option Nat} {Pl Mk : Nat → Nat} {G : Nat → Nat → Int32} {Sz : Nat → Nat} {Kp : Nat → Int32} {th : Int32} {gL : Nat → Int64} {gD : Nat → UInt64} (h : lInv k o ou od x L f B Ln Rm Rd Pl Mk G Sz Kp th gL gD) (kk : lNext p l e s m below meth c D k o b x ou od Q i cells slots) :
    vV p l e room_1 s m #[.ref b] below meth c 9 D vCl s.heap.size Q (va_pl L f) cells slots 1642 [(5, .int (nI i)), (4, .ref od), (3, .ref ou), (2, .ref (o 0)), (1, .ref x), (0, .ref b)] [] := by
  have hZ := lZ.mem h
  obtain ⟨hi0, hm0, hou, hod, fou, fod, ho1, ho2, ho3⟩ := h
  obtain ⟨kk9, v, B', Ln', Rm', Rd', Pl', Mk', G', Sz', hkk, hct, hm9⟩ := lc_readNumber l D k s.heap.size L f (lZ o ou od) x B Ln Rm Rd Pl Mk G Sz hl hi0 hZ ou gL hou (Or.inr (Or.inl rfl)) fou (xs (i + 1))
  refine vAloadN X dL_law_1642 4 rfl ?_
  refine vAloadN X dL_law_1643 5 rfl ?_
  refine vIload X dL_law_1644 0 rfl ?_
  refine vIconst X dL_law_1646 (v := nI 1) (by decide) ?_
  refine vIadd X dL_law_1647 (nI_add i 1) ?_
  refine vSld X hX hbl (Nat.le_refl _) hLL (j := i + 1) rfl (by omega) dL_law_1648 ?_
  refine vAloadN X dL_law_1649 2 rfl ?_
  refine vCallL X hE [] hct (vGL q_601 q_602 q_23 q_603) rfl ⟨by decide, by decide, (show _ = some 3 from by decide +kernel)⟩ ⟨(Nat.le_of_ble_eq_true rfl), (Nat.le_of_ble_eq_true rfl)⟩ rfl (Nat.le_of_ble_eq_true rfl) dL_law_1650 ⟨(show cells + 1 ≤ 603072 by omega), (show slots + 6 ≤ 7219306 by omega)⟩ (fun v9 w9 hp9 => ?_)
  obtain ⟨L1, f1, g1, rfl, rfl, hk1, fo1, hg1, hi1⟩ := hp9
  refine vIstore X [(6, .int (nI kk9)), (5, .int (nI i)), (4, .ref od), (3, .ref ou), (2, .ref (o 0)), (1, .ref x), (0, .ref b)] dL_law_1653 (by decide) rfl ?_
  have hm1 : mIn k o L1 f1 B Ln Rm Rd Pl Mk G Sz Kp th := hm0.kp (fun a ha => (hk1 a ha).1) (fun j hj => (hk1 _ (hm0.1 j hj)).2 (Or.inl ⟨j, hj, rfl⟩) (fun e => ho1 j hj e.symm))
  obtain ⟨Kp', hm8⟩ := hm9 o Kp th
  have hmc := hm1.call hm8
  refine vAloadN X dL_law_1655 4 rfl ?_
  refine vAloadN X dL_law_1656 6 rfl ?_
  refine vIload X dL_law_1657 1 rfl ?_
  refine vIconst X dL_law_1659 (v := nI 1) (by decide) ?_
  refine vIadd X dL_law_1660 (nI_add i 1) ?_
  refine vSld X hX hbl (Nat.le_refl _) hLL (j := i + 1) rfl (by omega) dL_law_1661 ?_
  obtain ⟨ix, hix⟩ := vp_ix (f := f1) (hm1.1 0 (by decide))
  have hfo : f1 (o 0) = .inr (4, _) := hm1.2.2 0 (by decide)
  refine vCallV X [] hmc (vGV q_923 q_924 q_925 q_29 q_926) ⟨by decide, by decide, (show _ = some 1 from by decide +kernel)⟩ ⟨(Nat.le_of_ble_eq_true rfl), (Nat.le_of_ble_eq_true rfl)⟩ ix 4 rfl rfl (hix.trans (by rw [hfo])) rfl (Nat.le_of_ble_eq_true rfl) dL_law_1662 ⟨(show cells + 1 + 0 ≤ 603072 by omega), (show slots + 6 + 0 ≤ 7219306 by omega)⟩ (fun v8 w8 hp8 => ?_)
  obtain ⟨rfl, f2, rfl, hk2, hm2⟩ := hp8
  refine vIstore X [(7, .int v), (6, .int (nI kk9)), (5, .int (nI i)), (4, .ref od), (3, .ref ou), (2, .ref (o 0)), (1, .ref x), (0, .ref b)] dL_law_1665 (by decide) rfl ?_
  have hmt := hm2.call (fun pl => mm_thrown l D k o pl s.heap.size B' Ln' Rm' Rd' Pl' Mk' G' Sz' Kp' (nI kk9))
  refine vAloadN X dL_law_1667 5 rfl ?_
  obtain ⟨ixt, hixt⟩ := vp_ix (f := f2) (hm2.1 0 (by decide))
  have hfot : f2 (o 0) = .inr (4, _) := hm2.2.2 0 (by decide)
  refine vCallV X [] hmt (vGV q_774 q_775 q_776 q_29 q_777) ⟨by decide, by decide, (show _ = some 0 from by decide +kernel)⟩ ⟨(Nat.le_of_ble_eq_true rfl), (Nat.le_of_ble_eq_true rfl)⟩ ixt 4 rfl rfl (hixt.trans (by rw [hfot])) rfl (Nat.le_of_ble_eq_true rfl) dL_law_1668 ⟨(show cells + 1 + 0 + 0 ≤ 603072 by omega), (show slots + 6 + 0 + 0 ≤ 7219306 by omega)⟩ (fun v8 w8 hp8 => ?_)
  obtain ⟨rfl, f3, rfl, hk3, hm3⟩ := hp8
  refine vIload X dL_law_1671 1 rfl ?_
  refine vIcmp_eqT X 1678 dL_law_1673 (by decide) rfl ?_
  have fo3 : f3 ou = .inl (k 5, 1, .inr (.inl g1)) := (hk3 ou ho1).trans ((hk2 ou ho1).trans fo1)
  have fo4 := (hk3 od ho2).trans ((hk2 od ho2).trans (((hk1 od hod).2 (Or.inr (Or.inr rfl)) (Ne.symm ho3)).trans fod))
  have hfin : lInv k o ou od x L1 f3 B' Ln' Rm' Rd' Pl' Mk' G' Sz' Kp' (nI kk9) g1 gD := ⟨hi1.foreign (fun t ht => ⟨ht, fun hz => (hk3 t (fun j hj e => hz (Or.inl ⟨j, hj, e⟩))).trans (hk2 t (fun j hj e => hz (Or.inl ⟨j, hj, e⟩)))⟩), hm3, (hk1 ou hou).1, (hk1 od hod).1, fo3, fo4, ho1, ho2, ho3⟩
  refine vIload X dL_law_1678 1 rfl ?_
  by_cases h0 : kk9 = 0
  rotate_left
  · refine vIf_neT X 1695 dL_law_1680 (by decide) (nkk h0 (by omega)) ?_
    refine vGoto X 2499 dL_law_1695 (by decide) ?_
    refine vSub [2, 3, 4, 5, 6, 7] [(5, .int (nI i)), (4, .ref od), (3, .ref ou), (2, .ref (o 0)), (1, .ref x), (0, .ref b)] rfl ?_
    refine vWiden (cells + 8) (slots + 800) (by omega) (by omega) ?_
    exact kk _ _ _ _ _ _ _ _ _ _ _ _ _ _ hfin
  · refine vIf_neF X 1695 dL_law_1680 (by decide) (by rw [h0]; rfl) ?_
    refine vAloadN X dL_law_1683 4 rfl ?_
    refine vIconst X dL_law_1684 (v := nI 0) (by decide) ?_
    refine vpLaload X (hk1 ou hou).1 fo3 5 rfl rfl (by decide) (by decide) (hg1 h0) dL_law_1685 ?_
    refine vIload X dL_law_1686 0 rfl ?_
    refine vI2l X dL_law_1688 (v := v.toInt64) rfl ?_
    refine vLcmp X dL_law_1689 ?_
    refine vIf_eqT X 1695 dL_law_1690 (by decide) (lgc_self _) ?_
    refine vGoto X 2499 dL_law_1695 (by decide) ?_
    refine vSub [2, 3, 4, 5, 6, 7] [(5, .int (nI i)), (4, .ref od), (3, .ref ou), (2, .ref (o 0)), (1, .ref x), (0, .ref b)] rfl ?_
    refine vWiden (cells + 8) (slots + 800) (by omega) (by omega) ?_
    exact kk _ _ _ _ _ _ _ _ _ _ _ _ _ _ hfin
set_option maxHeartbeats 4000000 in
theorem lw_readLine {p : Program} {e : Env} {s : State} {m : MethodId} {below : List Frame} {meth : Method} {c : Code} (l : Launch) {D : va_G} {k : Nat → ClassId} {o : Nat → Nat} {b LL x ou od : Nat} {xs : Nat → Int32} {Q : State → Prop} (X : vCX p s m #[.ref b] meth c cL_law 9 RL (Cond.initialized "Bytewell" :: vGW) D vCl (vTy k) s.heap.size) (hE : vEL s.heap.size s) (hl : l.stackTraces = false) (hX : va_X b LL xs s s.heap) (hbl : b < s.heap.size) (hLL : LL ≤ 3072) {i : Nat} (hi : i + 6 ≤ LL) {cells slots : Nat} (hc : cells + 8 ≤ 603072) (hs : slots + 800 ≤ 7219306) {L : List Nat} {f : Nat → va_E} {B : Nat → Nat → Int32} {Ln Rm : Nat → Nat} {Rd : Nat → Option Nat} {Pl Mk : Nat → Nat} {G : Nat → Nat → Int32} {Sz : Nat → Nat} {Kp : Nat → Int32} {th : Int32} {gL : Nat → Int64} {gD : Nat → UInt64} (h : lInv k o ou od x L f B Ln Rm Rd Pl Mk G Sz Kp th gL gD) (kk : lNext p l e s m below meth c D k o b x ou od Q i cells slots) :
    vV p l e room_1 s m #[.ref b] below meth c 9 D vCl s.heap.size Q (va_pl L f) cells slots 1698 [(5, .int (nI i)), (4, .ref od), (3, .ref ou), (2, .ref (o 0)), (1, .ref x), (0, .ref b)] [] := by
  have hZ := lZ.mem h
  obtain ⟨hi0, hm0, hou, hod, fou, fod, ho1, ho2, ho3⟩ := h
  obtain ⟨kk9, v, B', Ln', Rm', Rd', Pl', Mk', G', Sz', hkk, hct, hm9⟩ := lc_readLine l D k s.heap.size L f (lZ o ou od) x B Ln Rm Rd Pl Mk G Sz hl hi0 hZ ou gL hou (Or.inr (Or.inl rfl)) fou (xs (i + 1)) (xs (i + 2))
  refine vAloadN X dL_law_1698 4 rfl ?_
  refine vAloadN X dL_law_1699 5 rfl ?_
  refine vIload X dL_law_1700 0 rfl ?_
  refine vIconst X dL_law_1702 (v := nI 1) (by decide) ?_
  refine vIadd X dL_law_1703 (nI_add i 1) ?_
  refine vSld X hX hbl (Nat.le_refl _) hLL (j := i + 1) rfl (by omega) dL_law_1704 ?_
  refine vAloadN X dL_law_1705 5 rfl ?_
  refine vIload X dL_law_1706 0 rfl ?_
  refine vIconst X dL_law_1708 (v := nI 2) (by decide) ?_
  refine vIadd X dL_law_1709 (nI_add i 2) ?_
  refine vSld X hX hbl (Nat.le_refl _) hLL (j := i + 2) rfl (by omega) dL_law_1710 ?_
  refine vAloadN X dL_law_1711 2 rfl ?_
  refine vCallL X hE [] hct (vGL q_625 q_626 q_23 q_627) rfl ⟨by decide, by decide, (show _ = some 4 from by decide +kernel)⟩ ⟨(Nat.le_of_ble_eq_true rfl), (Nat.le_of_ble_eq_true rfl)⟩ rfl (Nat.le_of_ble_eq_true rfl) dL_law_1712 ⟨(show cells + 2 ≤ 603072 by omega), (show slots + 257 ≤ 7219306 by omega)⟩ (fun v9 w9 hp9 => ?_)
  obtain ⟨L1, f1, g1, rfl, rfl, hk1, fo1, hg1, hi1⟩ := hp9
  refine vIstore X [(6, .int (nI kk9)), (5, .int (nI i)), (4, .ref od), (3, .ref ou), (2, .ref (o 0)), (1, .ref x), (0, .ref b)] dL_law_1715 (by decide) rfl ?_
  have hm1 : mIn k o L1 f1 B Ln Rm Rd Pl Mk G Sz Kp th := hm0.kp (fun a ha => (hk1 a ha).1) (fun j hj => (hk1 _ (hm0.1 j hj)).2 (Or.inl ⟨j, hj, rfl⟩) (fun e => ho1 j hj e.symm))
  obtain ⟨Kp', hm8⟩ := hm9 o Kp th
  have hmc := hm1.call hm8
  refine vAloadN X dL_law_1717 4 rfl ?_
  refine vAloadN X dL_law_1718 6 rfl ?_
  refine vIload X dL_law_1719 1 rfl ?_
  refine vIconst X dL_law_1721 (v := nI 1) (by decide) ?_
  refine vIadd X dL_law_1722 (nI_add i 1) ?_
  refine vSld X hX hbl (Nat.le_refl _) hLL (j := i + 1) rfl (by omega) dL_law_1723 ?_
  refine vAloadN X dL_law_1724 6 rfl ?_
  refine vIload X dL_law_1725 1 rfl ?_
  refine vIconst X dL_law_1727 (v := nI 2) (by decide) ?_
  refine vIadd X dL_law_1728 (nI_add i 2) ?_
  refine vSld X hX hbl (Nat.le_refl _) hLL (j := i + 2) rfl (by omega) dL_law_1729 ?_
  obtain ⟨ix, hix⟩ := vp_ix (f := f1) (hm1.1 0 (by decide))
  have hfo : f1 (o 0) = .inr (4, _) := hm1.2.2 0 (by decide)
  refine vCallV X [] hmc (vGV q_927 q_928 q_929 q_29 q_930) ⟨by decide, by decide, (show _ = some 2 from by decide +kernel)⟩ ⟨(Nat.le_of_ble_eq_true rfl), (Nat.le_of_ble_eq_true rfl)⟩ ix 4 rfl rfl (hix.trans (by rw [hfo])) rfl (Nat.le_of_ble_eq_true rfl) dL_law_1730 ⟨(show cells + 2 + 0 ≤ 603072 by omega), (show slots + 257 + 0 ≤ 7219306 by omega)⟩ (fun v8 w8 hp8 => ?_)
  obtain ⟨rfl, f2, rfl, hk2, hm2⟩ := hp8
  refine vIstore X [(7, .int v), (6, .int (nI kk9)), (5, .int (nI i)), (4, .ref od), (3, .ref ou), (2, .ref (o 0)), (1, .ref x), (0, .ref b)] dL_law_1733 (by decide) rfl ?_
  have hmt := hm2.call (fun pl => mm_thrown l D k o pl s.heap.size B' Ln' Rm' Rd' Pl' Mk' G' Sz' Kp' (nI kk9))
  refine vAloadN X dL_law_1735 5 rfl ?_
  obtain ⟨ixt, hixt⟩ := vp_ix (f := f2) (hm2.1 0 (by decide))
  have hfot : f2 (o 0) = .inr (4, _) := hm2.2.2 0 (by decide)
  refine vCallV X [] hmt (vGV q_774 q_775 q_776 q_29 q_777) ⟨by decide, by decide, (show _ = some 0 from by decide +kernel)⟩ ⟨(Nat.le_of_ble_eq_true rfl), (Nat.le_of_ble_eq_true rfl)⟩ ixt 4 rfl rfl (hixt.trans (by rw [hfot])) rfl (Nat.le_of_ble_eq_true rfl) dL_law_1736 ⟨(show cells + 2 + 0 + 0 ≤ 603072 by omega), (show slots + 257 + 0 + 0 ≤ 7219306 by omega)⟩ (fun v8 w8 hp8 => ?_)
  obtain ⟨rfl, f3, rfl, hk3, hm3⟩ := hp8
  refine vIload X dL_law_1739 1 rfl ?_
  refine vIcmp_eqT X 1746 dL_law_1741 (by decide) rfl ?_
  have fo3 : f3 ou = .inl (k 5, 1, .inr (.inl g1)) := (hk3 ou ho1).trans ((hk2 ou ho1).trans fo1)
  have fo4 := (hk3 od ho2).trans ((hk2 od ho2).trans (((hk1 od hod).2 (Or.inr (Or.inr rfl)) (Ne.symm ho3)).trans fod))
  have hfin : lInv k o ou od x L1 f3 B' Ln' Rm' Rd' Pl' Mk' G' Sz' Kp' (nI kk9) g1 gD := ⟨hi1.foreign (fun t ht => ⟨ht, fun hz => (hk3 t (fun j hj e => hz (Or.inl ⟨j, hj, e⟩))).trans (hk2 t (fun j hj e => hz (Or.inl ⟨j, hj, e⟩)))⟩), hm3, (hk1 ou hou).1, (hk1 od hod).1, fo3, fo4, ho1, ho2, ho3⟩
  refine vIload X dL_law_1746 1 rfl ?_
  by_cases h0 : kk9 = 0
  rotate_left
  · refine vIf_neT X 1763 dL_law_1748 (by decide) (nkk h0 (by omega)) ?_
    refine vGoto X 2499 dL_law_1763 (by decide) ?_
    refine vSub [2, 3, 4, 5, 6, 7] [(5, .int (nI i)), (4, .ref od), (3, .ref ou), (2, .ref (o 0)), (1, .ref x), (0, .ref b)] rfl ?_
    refine vWiden (cells + 8) (slots + 800) (by omega) (by omega) ?_
    exact kk _ _ _ _ _ _ _ _ _ _ _ _ _ _ hfin
  · refine vIf_neF X 1763 dL_law_1748 (by decide) (by rw [h0]; rfl) ?_
    refine vAloadN X dL_law_1751 4 rfl ?_
    refine vIconst X dL_law_1752 (v := nI 0) (by decide) ?_
    refine vpLaload X (hk1 ou hou).1 fo3 5 rfl rfl (by decide) (by decide) (hg1 h0) dL_law_1753 ?_
    refine vIload X dL_law_1754 0 rfl ?_
    refine vI2l X dL_law_1756 (v := v.toInt64) rfl ?_
    refine vLcmp X dL_law_1757 ?_
    refine vIf_eqT X 1763 dL_law_1758 (by decide) (lgc_self _) ?_
    refine vGoto X 2499 dL_law_1763 (by decide) ?_
    refine vSub [2, 3, 4, 5, 6, 7] [(5, .int (nI i)), (4, .ref od), (3, .ref ou), (2, .ref (o 0)), (1, .ref x), (0, .ref b)] rfl ?_
    refine vWiden (cells + 8) (slots + 800) (by omega) (by omega) ?_
    exact kk _ _ _ _ _ _ _ _ _ _ _ _ _ _ hfin
set_option maxHeartbeats 4000000 in
theorem lw_find {p : Program} {e : Env} {s : State} {m : MethodId} {below : List Frame} {meth : Method} {c : Code} (l : Launch) {D : va_G} {k : Nat → ClassId} {o : Nat → Nat} {b LL x ou od : Nat} {xs : Nat → Int32} {Q : State → Prop} (X : vCX p s m #[.ref b] meth c cL_law 9 RL (Cond.initialized "Bytewell" :: vGW) D vCl (vTy k) s.heap.size) (hE : vEL s.heap.size s) (hl : l.stackTraces = false) (hX : va_X b LL xs s s.heap) (hbl : b < s.heap.size) (hLL : LL ≤ 3072) {i : Nat} (hi : i + 6 ≤ LL) {cells slots : Nat} (hc : cells + 8 ≤ 603072) (hs : slots + 800 ≤ 7219306) {L : List Nat} {f : Nat → va_E} {B : Nat → Nat → Int32} {Ln Rm : Nat → Nat} {Rd : Nat → Option Nat} {Pl Mk : Nat → Nat} {G : Nat → Nat → Int32} {Sz : Nat → Nat} {Kp : Nat → Int32} {th : Int32} {gL : Nat → Int64} {gD : Nat → UInt64} (h : lInv k o ou od x L f B Ln Rm Rd Pl Mk G Sz Kp th gL gD) (kk : lNext p l e s m below meth c D k o b x ou od Q i cells slots) :
    vV p l e room_1 s m #[.ref b] below meth c 9 D vCl s.heap.size Q (va_pl L f) cells slots 1766 [(5, .int (nI i)), (4, .ref od), (3, .ref ou), (2, .ref (o 0)), (1, .ref x), (0, .ref b)] [] := by
  have hZ := lZ.mem h
  obtain ⟨hi0, hm0, hou, hod, fou, fod, ho1, ho2, ho3⟩ := h
  obtain ⟨kk9, v, B', Ln', Rm', Rd', Pl', Mk', G', Sz', hkk, hct, hm9⟩ := lc_find l D k s.heap.size L f (lZ o ou od) x B Ln Rm Rd Pl Mk G Sz hl hi0 hZ ou gL hou (Or.inr (Or.inl rfl)) fou (xs (i + 1)) (xs (i + 2))
  refine vAloadN X dL_law_1766 4 rfl ?_
  refine vAloadN X dL_law_1767 5 rfl ?_
  refine vIload X dL_law_1768 0 rfl ?_
  refine vIconst X dL_law_1770 (v := nI 1) (by decide) ?_
  refine vIadd X dL_law_1771 (nI_add i 1) ?_
  refine vSld X hX hbl (Nat.le_refl _) hLL (j := i + 1) rfl (by omega) dL_law_1772 ?_
  refine vAloadN X dL_law_1773 5 rfl ?_
  refine vIload X dL_law_1774 0 rfl ?_
  refine vIconst X dL_law_1776 (v := nI 2) (by decide) ?_
  refine vIadd X dL_law_1777 (nI_add i 2) ?_
  refine vSld X hX hbl (Nat.le_refl _) hLL (j := i + 2) rfl (by omega) dL_law_1778 ?_
  refine vAloadN X dL_law_1779 2 rfl ?_
  refine vCallL X hE [] hct (vGL q_637 q_638 q_23 q_639) rfl ⟨by decide, by decide, (show _ = some 4 from by decide +kernel)⟩ ⟨(Nat.le_of_ble_eq_true rfl), (Nat.le_of_ble_eq_true rfl)⟩ rfl (Nat.le_of_ble_eq_true rfl) dL_law_1780 ⟨(show cells + 1 ≤ 603072 by omega), (show slots + 6 ≤ 7219306 by omega)⟩ (fun v9 w9 hp9 => ?_)
  obtain ⟨L1, f1, g1, rfl, rfl, hk1, fo1, hg1, hi1⟩ := hp9
  refine vIstore X [(6, .int (nI kk9)), (5, .int (nI i)), (4, .ref od), (3, .ref ou), (2, .ref (o 0)), (1, .ref x), (0, .ref b)] dL_law_1783 (by decide) rfl ?_
  have hm1 : mIn k o L1 f1 B Ln Rm Rd Pl Mk G Sz Kp th := hm0.kp (fun a ha => (hk1 a ha).1) (fun j hj => (hk1 _ (hm0.1 j hj)).2 (Or.inl ⟨j, hj, rfl⟩) (fun e => ho1 j hj e.symm))
  obtain ⟨Kp', hm8⟩ := hm9 o Kp th
  have hmc := hm1.call hm8
  refine vAloadN X dL_law_1785 4 rfl ?_
  refine vAloadN X dL_law_1786 6 rfl ?_
  refine vIload X dL_law_1787 1 rfl ?_
  refine vIconst X dL_law_1789 (v := nI 1) (by decide) ?_
  refine vIadd X dL_law_1790 (nI_add i 1) ?_
  refine vSld X hX hbl (Nat.le_refl _) hLL (j := i + 1) rfl (by omega) dL_law_1791 ?_
  refine vAloadN X dL_law_1792 6 rfl ?_
  refine vIload X dL_law_1793 1 rfl ?_
  refine vIconst X dL_law_1795 (v := nI 2) (by decide) ?_
  refine vIadd X dL_law_1796 (nI_add i 2) ?_
  refine vSld X hX hbl (Nat.le_refl _) hLL (j := i + 2) rfl (by omega) dL_law_1797 ?_
  obtain ⟨ix, hix⟩ := vp_ix (f := f1) (hm1.1 0 (by decide))
  have hfo : f1 (o 0) = .inr (4, _) := hm1.2.2 0 (by decide)
  refine vCallV X [] hmc (vGV q_931 q_932 q_933 q_29 q_934) ⟨by decide, by decide, (show _ = some 2 from by decide +kernel)⟩ ⟨(Nat.le_of_ble_eq_true rfl), (Nat.le_of_ble_eq_true rfl)⟩ ix 4 rfl rfl (hix.trans (by rw [hfo])) rfl (Nat.le_of_ble_eq_true rfl) dL_law_1798 ⟨(show cells + 1 + 0 ≤ 603072 by omega), (show slots + 6 + 0 ≤ 7219306 by omega)⟩ (fun v8 w8 hp8 => ?_)
  obtain ⟨rfl, f2, rfl, hk2, hm2⟩ := hp8
  refine vIstore X [(7, .int v), (6, .int (nI kk9)), (5, .int (nI i)), (4, .ref od), (3, .ref ou), (2, .ref (o 0)), (1, .ref x), (0, .ref b)] dL_law_1801 (by decide) rfl ?_
  have hmt := hm2.call (fun pl => mm_thrown l D k o pl s.heap.size B' Ln' Rm' Rd' Pl' Mk' G' Sz' Kp' (nI kk9))
  refine vAloadN X dL_law_1803 5 rfl ?_
  obtain ⟨ixt, hixt⟩ := vp_ix (f := f2) (hm2.1 0 (by decide))
  have hfot : f2 (o 0) = .inr (4, _) := hm2.2.2 0 (by decide)
  refine vCallV X [] hmt (vGV q_774 q_775 q_776 q_29 q_777) ⟨by decide, by decide, (show _ = some 0 from by decide +kernel)⟩ ⟨(Nat.le_of_ble_eq_true rfl), (Nat.le_of_ble_eq_true rfl)⟩ ixt 4 rfl rfl (hixt.trans (by rw [hfot])) rfl (Nat.le_of_ble_eq_true rfl) dL_law_1804 ⟨(show cells + 1 + 0 + 0 ≤ 603072 by omega), (show slots + 6 + 0 + 0 ≤ 7219306 by omega)⟩ (fun v8 w8 hp8 => ?_)
  obtain ⟨rfl, f3, rfl, hk3, hm3⟩ := hp8
  refine vIload X dL_law_1807 1 rfl ?_
  refine vIcmp_eqT X 1814 dL_law_1809 (by decide) rfl ?_
  have fo3 : f3 ou = .inl (k 5, 1, .inr (.inl g1)) := (hk3 ou ho1).trans ((hk2 ou ho1).trans fo1)
  have fo4 := (hk3 od ho2).trans ((hk2 od ho2).trans (((hk1 od hod).2 (Or.inr (Or.inr rfl)) (Ne.symm ho3)).trans fod))
  have hfin : lInv k o ou od x L1 f3 B' Ln' Rm' Rd' Pl' Mk' G' Sz' Kp' (nI kk9) g1 gD := ⟨hi1.foreign (fun t ht => ⟨ht, fun hz => (hk3 t (fun j hj e => hz (Or.inl ⟨j, hj, e⟩))).trans (hk2 t (fun j hj e => hz (Or.inl ⟨j, hj, e⟩)))⟩), hm3, (hk1 ou hou).1, (hk1 od hod).1, fo3, fo4, ho1, ho2, ho3⟩
  refine vIload X dL_law_1814 1 rfl ?_
  by_cases h0 : kk9 = 0
  rotate_left
  · refine vIf_neT X 1831 dL_law_1816 (by decide) (nkk h0 (by omega)) ?_
    refine vGoto X 2499 dL_law_1831 (by decide) ?_
    refine vSub [2, 3, 4, 5, 6, 7] [(5, .int (nI i)), (4, .ref od), (3, .ref ou), (2, .ref (o 0)), (1, .ref x), (0, .ref b)] rfl ?_
    refine vWiden (cells + 8) (slots + 800) (by omega) (by omega) ?_
    exact kk _ _ _ _ _ _ _ _ _ _ _ _ _ _ hfin
  · refine vIf_neF X 1831 dL_law_1816 (by decide) (by rw [h0]; rfl) ?_
    refine vAloadN X dL_law_1819 4 rfl ?_
    refine vIconst X dL_law_1820 (v := nI 0) (by decide) ?_
    refine vpLaload X (hk1 ou hou).1 fo3 5 rfl rfl (by decide) (by decide) (hg1 h0) dL_law_1821 ?_
    refine vIload X dL_law_1822 0 rfl ?_
    refine vI2l X dL_law_1824 (v := v.toInt64) rfl ?_
    refine vLcmp X dL_law_1825 ?_
    refine vIf_eqT X 1831 dL_law_1826 (by decide) (lgc_self _) ?_
    refine vGoto X 2499 dL_law_1831 (by decide) ?_
    refine vSub [2, 3, 4, 5, 6, 7] [(5, .int (nI i)), (4, .ref od), (3, .ref ou), (2, .ref (o 0)), (1, .ref x), (0, .ref b)] rfl ?_
    refine vWiden (cells + 8) (slots + 800) (by omega) (by omega) ?_
    exact kk _ _ _ _ _ _ _ _ _ _ _ _ _ _ hfin
set_option maxHeartbeats 4000000 in
theorem lw_skip {p : Program} {e : Env} {s : State} {m : MethodId} {below : List Frame} {meth : Method} {c : Code} (l : Launch) {D : va_G} {k : Nat → ClassId} {o : Nat → Nat} {b LL x ou od : Nat} {xs : Nat → Int32} {Q : State → Prop} (X : vCX p s m #[.ref b] meth c cL_law 9 RL (Cond.initialized "Bytewell" :: vGW) D vCl (vTy k) s.heap.size) (hE : vEL s.heap.size s) (hl : l.stackTraces = false) (hX : va_X b LL xs s s.heap) (hbl : b < s.heap.size) (hLL : LL ≤ 3072) {i : Nat} (hi : i + 6 ≤ LL) {cells slots : Nat} (hc : cells + 8 ≤ 603072) (hs : slots + 800 ≤ 7219306) {L : List Nat} {f : Nat → va_E} {B : Nat → Nat → Int32} {Ln Rm : Nat → Nat} {Rd : Nat → Option Nat} {Pl Mk : Nat → Nat} {G : Nat → Nat → Int32} {Sz : Nat → Nat} {Kp : Nat → Int32} {th : Int32} {gL : Nat → Int64} {gD : Nat → UInt64} (h : lInv k o ou od x L f B Ln Rm Rd Pl Mk G Sz Kp th gL gD) (kk : lNext p l e s m below meth c D k o b x ou od Q i cells slots) :
    vV p l e room_1 s m #[.ref b] below meth c 9 D vCl s.heap.size Q (va_pl L f) cells slots 1834 [(5, .int (nI i)), (4, .ref od), (3, .ref ou), (2, .ref (o 0)), (1, .ref x), (0, .ref b)] [] := by
  have hZ := lZ.mem h
  obtain ⟨hi0, hm0, hou, hod, fou, fod, ho1, ho2, ho3⟩ := h
  obtain ⟨kk9, v, B', Ln', Rm', Rd', Pl', Mk', G', Sz', hkk, hct, hm9⟩ := lc_skip l D k s.heap.size L f (lZ o ou od) x B Ln Rm Rd Pl Mk G Sz hl hi0 hZ ou gL hou (Or.inr (Or.inl rfl)) fou (xs (i + 1)) ((((xs (i + 2)).toInt64) <<< ((nI 32).toInt64 &&& 63)) ||| (((xs (i + 3)).toInt64) &&& ((4294967295 : Int64))))
  refine vAloadN X dL_law_1834 4 rfl ?_
  refine vAloadN X dL_law_1835 5 rfl ?_
  refine vIload X dL_law_1836 0 rfl ?_
  refine vIconst X dL_law_1838 (v := nI 1) (by decide) ?_
  refine vIadd X dL_law_1839 (nI_add i 1) ?_
  refine vSld X hX hbl (Nat.le_refl _) hLL (j := i + 1) rfl (by omega) dL_law_1840 ?_
  refine vAloadN X dL_law_1841 5 rfl ?_
  refine vIload X dL_law_1842 0 rfl ?_
  refine vIconst X dL_law_1844 (v := nI 2) (by decide) ?_
  refine vIadd X dL_law_1845 (nI_add i 2) ?_
  refine vSld X hX hbl (Nat.le_refl _) hLL (j := i + 2) rfl (by omega) dL_law_1846 ?_
  refine vI2l X dL_law_1847 (v := ((xs (i + 2))).toInt64) rfl ?_
  refine vBipush X dL_law_1848 (v := nI 32) (by decide) ?_
  refine vLshl X dL_law_1850 (v := ((((xs (i + 2))).toInt64) <<< ((nI 32).toInt64 &&& 63))) rfl ?_
  refine vAloadN X dL_law_1851 5 rfl ?_
  refine vIload X dL_law_1852 0 rfl ?_
  refine vIconst X dL_law_1854 (v := nI 3) (by decide) ?_
  refine vIadd X dL_law_1855 (nI_add i 3) ?_
  refine vSld X hX hbl (Nat.le_refl _) hLL (j := i + 3) rfl (by omega) dL_law_1856 ?_
  refine vI2l X dL_law_1857 (v := ((xs (i + 3))).toInt64) rfl ?_
  refine vLdc2 X (List.mem_cons_of_mem _ q_982) dL_law_1858 ?_
  refine vLand X dL_law_1861 (v := ((((xs (i + 3))).toInt64) &&& ((4294967295 : Int64)))) rfl ?_
  refine vLor X dL_law_1862 (v := ((((((xs (i + 2))).toInt64) <<< ((nI 32).toInt64 &&& 63))) ||| (((((xs (i + 3))).toInt64) &&& ((4294967295 : Int64)))))) rfl ?_
  refine vAloadN X dL_law_1863 2 rfl ?_
  refine vCallL X hE [] hct (vGL q_644 q_645 q_23 q_646) rfl ⟨by decide, by decide, (show _ = some 4 from by decide +kernel)⟩ ⟨(Nat.le_of_ble_eq_true rfl), (Nat.le_of_ble_eq_true rfl)⟩ rfl (Nat.le_of_ble_eq_true rfl) dL_law_1864 ⟨(show cells + 1 ≤ 603072 by omega), (show slots + 6 ≤ 7219306 by omega)⟩ (fun v9 w9 hp9 => ?_)
  obtain ⟨L1, f1, g1, rfl, rfl, hk1, fo1, hg1, hi1⟩ := hp9
  refine vIstore X [(6, .int (nI kk9)), (5, .int (nI i)), (4, .ref od), (3, .ref ou), (2, .ref (o 0)), (1, .ref x), (0, .ref b)] dL_law_1867 (by decide) rfl ?_
  have hm1 : mIn k o L1 f1 B Ln Rm Rd Pl Mk G Sz Kp th := hm0.kp (fun a ha => (hk1 a ha).1) (fun j hj => (hk1 _ (hm0.1 j hj)).2 (Or.inl ⟨j, hj, rfl⟩) (fun e => ho1 j hj e.symm))
  obtain ⟨Kp', hm8⟩ := hm9 o Kp th
  have hmc := hm1.call hm8
  refine vAloadN X dL_law_1869 4 rfl ?_
  refine vAloadN X dL_law_1870 6 rfl ?_
  refine vIload X dL_law_1871 1 rfl ?_
  refine vIconst X dL_law_1873 (v := nI 1) (by decide) ?_
  refine vIadd X dL_law_1874 (nI_add i 1) ?_
  refine vSld X hX hbl (Nat.le_refl _) hLL (j := i + 1) rfl (by omega) dL_law_1875 ?_
  refine vAloadN X dL_law_1876 6 rfl ?_
  refine vIload X dL_law_1877 1 rfl ?_
  refine vIconst X dL_law_1879 (v := nI 2) (by decide) ?_
  refine vIadd X dL_law_1880 (nI_add i 2) ?_
  refine vSld X hX hbl (Nat.le_refl _) hLL (j := i + 2) rfl (by omega) dL_law_1881 ?_
  refine vI2l X dL_law_1882 (v := ((xs (i + 2))).toInt64) rfl ?_
  refine vBipush X dL_law_1883 (v := nI 32) (by decide) ?_
  refine vLshl X dL_law_1885 (v := ((((xs (i + 2))).toInt64) <<< ((nI 32).toInt64 &&& 63))) rfl ?_
  refine vAloadN X dL_law_1886 6 rfl ?_
  refine vIload X dL_law_1887 1 rfl ?_
  refine vIconst X dL_law_1889 (v := nI 3) (by decide) ?_
  refine vIadd X dL_law_1890 (nI_add i 3) ?_
  refine vSld X hX hbl (Nat.le_refl _) hLL (j := i + 3) rfl (by omega) dL_law_1891 ?_
  refine vI2l X dL_law_1892 (v := ((xs (i + 3))).toInt64) rfl ?_
  refine vLdc2 X (List.mem_cons_of_mem _ q_982) dL_law_1893 ?_
  refine vLand X dL_law_1896 (v := ((((xs (i + 3))).toInt64) &&& ((4294967295 : Int64)))) rfl ?_
  refine vLor X dL_law_1897 (v := ((((((xs (i + 2))).toInt64) <<< ((nI 32).toInt64 &&& 63))) ||| (((((xs (i + 3))).toInt64) &&& ((4294967295 : Int64)))))) rfl ?_
  obtain ⟨ix, hix⟩ := vp_ix (f := f1) (hm1.1 0 (by decide))
  have hfo : f1 (o 0) = .inr (4, _) := hm1.2.2 0 (by decide)
  refine vCallV X [] hmc (vGV q_935 q_936 q_937 q_29 q_938) ⟨by decide, by decide, (show _ = some 2 from by decide +kernel)⟩ ⟨(Nat.le_of_ble_eq_true rfl), (Nat.le_of_ble_eq_true rfl)⟩ ix 4 rfl rfl (hix.trans (by rw [hfo])) rfl (Nat.le_of_ble_eq_true rfl) dL_law_1898 ⟨(show cells + 1 + 0 ≤ 603072 by omega), (show slots + 6 + 0 ≤ 7219306 by omega)⟩ (fun v8 w8 hp8 => ?_)
  obtain ⟨rfl, f2, rfl, hk2, hm2⟩ := hp8
  refine vLstore X [(7, .long v), (6, .int (nI kk9)), (5, .int (nI i)), (4, .ref od), (3, .ref ou), (2, .ref (o 0)), (1, .ref x), (0, .ref b)] dL_law_1901 (by decide) rfl ?_
  have hmt := hm2.call (fun pl => mm_thrown l D k o pl s.heap.size B' Ln' Rm' Rd' Pl' Mk' G' Sz' Kp' (nI kk9))
  refine vAloadN X dL_law_1903 5 rfl ?_
  obtain ⟨ixt, hixt⟩ := vp_ix (f := f2) (hm2.1 0 (by decide))
  have hfot : f2 (o 0) = .inr (4, _) := hm2.2.2 0 (by decide)
  refine vCallV X [] hmt (vGV q_774 q_775 q_776 q_29 q_777) ⟨by decide, by decide, (show _ = some 0 from by decide +kernel)⟩ ⟨(Nat.le_of_ble_eq_true rfl), (Nat.le_of_ble_eq_true rfl)⟩ ixt 4 rfl rfl (hixt.trans (by rw [hfot])) rfl (Nat.le_of_ble_eq_true rfl) dL_law_1904 ⟨(show cells + 1 + 0 + 0 ≤ 603072 by omega), (show slots + 6 + 0 + 0 ≤ 7219306 by omega)⟩ (fun v8 w8 hp8 => ?_)
  obtain ⟨rfl, f3, rfl, hk3, hm3⟩ := hp8
  refine vIload X dL_law_1907 1 rfl ?_
  refine vIcmp_eqT X 1914 dL_law_1909 (by decide) rfl ?_
  have fo3 : f3 ou = .inl (k 5, 1, .inr (.inl g1)) := (hk3 ou ho1).trans ((hk2 ou ho1).trans fo1)
  have fo4 := (hk3 od ho2).trans ((hk2 od ho2).trans (((hk1 od hod).2 (Or.inr (Or.inr rfl)) (Ne.symm ho3)).trans fod))
  have hfin : lInv k o ou od x L1 f3 B' Ln' Rm' Rd' Pl' Mk' G' Sz' Kp' (nI kk9) g1 gD := ⟨hi1.foreign (fun t ht => ⟨ht, fun hz => (hk3 t (fun j hj e => hz (Or.inl ⟨j, hj, e⟩))).trans (hk2 t (fun j hj e => hz (Or.inl ⟨j, hj, e⟩)))⟩), hm3, (hk1 ou hou).1, (hk1 od hod).1, fo3, fo4, ho1, ho2, ho3⟩
  refine vIload X dL_law_1914 1 rfl ?_
  by_cases h0 : kk9 = 0
  rotate_left
  · refine vIf_neT X 1930 dL_law_1916 (by decide) (nkk h0 (by omega)) ?_
    refine vGoto X 2499 dL_law_1930 (by decide) ?_
    refine vSub [2, 3, 4, 5, 6, 7] [(5, .int (nI i)), (4, .ref od), (3, .ref ou), (2, .ref (o 0)), (1, .ref x), (0, .ref b)] rfl ?_
    refine vWiden (cells + 8) (slots + 800) (by omega) (by omega) ?_
    exact kk _ _ _ _ _ _ _ _ _ _ _ _ _ _ hfin
  · refine vIf_neF X 1930 dL_law_1916 (by decide) (by rw [h0]; rfl) ?_
    refine vAloadN X dL_law_1919 4 rfl ?_
    refine vIconst X dL_law_1920 (v := nI 0) (by decide) ?_
    refine vpLaload X (hk1 ou hou).1 fo3 5 rfl rfl (by decide) (by decide) (hg1 h0) dL_law_1921 ?_
    refine vLload X dL_law_1922 0 rfl ?_
    refine vLcmp X dL_law_1924 ?_
    refine vIf_eqT X 1930 dL_law_1925 (by decide) (lgc_self _) ?_
    refine vGoto X 2499 dL_law_1930 (by decide) ?_
    refine vSub [2, 3, 4, 5, 6, 7] [(5, .int (nI i)), (4, .ref od), (3, .ref ou), (2, .ref (o 0)), (1, .ref x), (0, .ref b)] rfl ?_
    refine vWiden (cells + 8) (slots + 800) (by omega) (by omega) ?_
    exact kk _ _ _ _ _ _ _ _ _ _ _ _ _ _ hfin
set_option maxHeartbeats 4000000 in
theorem lw_left {p : Program} {e : Env} {s : State} {m : MethodId} {below : List Frame} {meth : Method} {c : Code} (l : Launch) {D : va_G} {k : Nat → ClassId} {o : Nat → Nat} {b LL x ou od : Nat} {xs : Nat → Int32} {Q : State → Prop} (X : vCX p s m #[.ref b] meth c cL_law 9 RL (Cond.initialized "Bytewell" :: vGW) D vCl (vTy k) s.heap.size) (hE : vEL s.heap.size s) (hl : l.stackTraces = false) (hX : va_X b LL xs s s.heap) (hbl : b < s.heap.size) (hLL : LL ≤ 3072) {i : Nat} (hi : i + 6 ≤ LL) {cells slots : Nat} (hc : cells + 8 ≤ 603072) (hs : slots + 800 ≤ 7219306) {L : List Nat} {f : Nat → va_E} {B : Nat → Nat → Int32} {Ln Rm : Nat → Nat} {Rd : Nat → Option Nat} {Pl Mk : Nat → Nat} {G : Nat → Nat → Int32} {Sz : Nat → Nat} {Kp : Nat → Int32} {th : Int32} {gL : Nat → Int64} {gD : Nat → UInt64} (h : lInv k o ou od x L f B Ln Rm Rd Pl Mk G Sz Kp th gL gD) (kk : lNext p l e s m below meth c D k o b x ou od Q i cells slots) :
    vV p l e room_1 s m #[.ref b] below meth c 9 D vCl s.heap.size Q (va_pl L f) cells slots 1933 [(5, .int (nI i)), (4, .ref od), (3, .ref ou), (2, .ref (o 0)), (1, .ref x), (0, .ref b)] [] := by
  have hZ := lZ.mem h
  obtain ⟨hi0, hm0, hou, hod, fou, fod, ho1, ho2, ho3⟩ := h
  obtain ⟨kk9, v, B', Ln', Rm', Rd', Pl', Mk', G', Sz', hkk, hct, hm9⟩ := lc_left l D k s.heap.size L f (lZ o ou od) x B Ln Rm Rd Pl Mk G Sz hl hi0 hZ ou gL hou (Or.inr (Or.inl rfl)) fou (xs (i + 1))
  refine vAloadN X dL_law_1933 4 rfl ?_
  refine vAloadN X dL_law_1934 5 rfl ?_
  refine vIload X dL_law_1935 0 rfl ?_
  refine vIconst X dL_law_1937 (v := nI 1) (by decide) ?_
  refine vIadd X dL_law_1938 (nI_add i 1) ?_
  refine vSld X hX hbl (Nat.le_refl _) hLL (j := i + 1) rfl (by omega) dL_law_1939 ?_
  refine vAloadN X dL_law_1940 2 rfl ?_
  refine vCallL X hE [] hct (vGL q_651 q_652 q_23 q_653) rfl ⟨by decide, by decide, (show _ = some 3 from by decide +kernel)⟩ ⟨(Nat.le_of_ble_eq_true rfl), (Nat.le_of_ble_eq_true rfl)⟩ rfl (Nat.le_of_ble_eq_true rfl) dL_law_1941 ⟨(show cells + 1 ≤ 603072 by omega), (show slots + 6 ≤ 7219306 by omega)⟩ (fun v9 w9 hp9 => ?_)
  obtain ⟨L1, f1, g1, rfl, rfl, hk1, fo1, hg1, hi1⟩ := hp9
  refine vIstore X [(6, .int (nI kk9)), (5, .int (nI i)), (4, .ref od), (3, .ref ou), (2, .ref (o 0)), (1, .ref x), (0, .ref b)] dL_law_1944 (by decide) rfl ?_
  have hm1 : mIn k o L1 f1 B Ln Rm Rd Pl Mk G Sz Kp th := hm0.kp (fun a ha => (hk1 a ha).1) (fun j hj => (hk1 _ (hm0.1 j hj)).2 (Or.inl ⟨j, hj, rfl⟩) (fun e => ho1 j hj e.symm))
  obtain ⟨Kp', hm8⟩ := hm9 o Kp th
  have hmc := hm1.call hm8
  refine vAloadN X dL_law_1946 4 rfl ?_
  refine vAloadN X dL_law_1947 6 rfl ?_
  refine vIload X dL_law_1948 1 rfl ?_
  refine vIconst X dL_law_1950 (v := nI 1) (by decide) ?_
  refine vIadd X dL_law_1951 (nI_add i 1) ?_
  refine vSld X hX hbl (Nat.le_refl _) hLL (j := i + 1) rfl (by omega) dL_law_1952 ?_
  obtain ⟨ix, hix⟩ := vp_ix (f := f1) (hm1.1 0 (by decide))
  have hfo : f1 (o 0) = .inr (4, _) := hm1.2.2 0 (by decide)
  refine vCallV X [] hmc (vGV q_939 q_940 q_941 q_29 q_942) ⟨by decide, by decide, (show _ = some 1 from by decide +kernel)⟩ ⟨(Nat.le_of_ble_eq_true rfl), (Nat.le_of_ble_eq_true rfl)⟩ ix 4 rfl rfl (hix.trans (by rw [hfo])) rfl (Nat.le_of_ble_eq_true rfl) dL_law_1953 ⟨(show cells + 1 + 0 ≤ 603072 by omega), (show slots + 6 + 0 ≤ 7219306 by omega)⟩ (fun v8 w8 hp8 => ?_)
  obtain ⟨rfl, f2, rfl, hk2, hm2⟩ := hp8
  refine vIstore X [(7, .int v), (6, .int (nI kk9)), (5, .int (nI i)), (4, .ref od), (3, .ref ou), (2, .ref (o 0)), (1, .ref x), (0, .ref b)] dL_law_1956 (by decide) rfl ?_
  have hmt := hm2.call (fun pl => mm_thrown l D k o pl s.heap.size B' Ln' Rm' Rd' Pl' Mk' G' Sz' Kp' (nI kk9))
  refine vAloadN X dL_law_1958 5 rfl ?_
  obtain ⟨ixt, hixt⟩ := vp_ix (f := f2) (hm2.1 0 (by decide))
  have hfot : f2 (o 0) = .inr (4, _) := hm2.2.2 0 (by decide)
  refine vCallV X [] hmt (vGV q_774 q_775 q_776 q_29 q_777) ⟨by decide, by decide, (show _ = some 0 from by decide +kernel)⟩ ⟨(Nat.le_of_ble_eq_true rfl), (Nat.le_of_ble_eq_true rfl)⟩ ixt 4 rfl rfl (hixt.trans (by rw [hfot])) rfl (Nat.le_of_ble_eq_true rfl) dL_law_1959 ⟨(show cells + 1 + 0 + 0 ≤ 603072 by omega), (show slots + 6 + 0 + 0 ≤ 7219306 by omega)⟩ (fun v8 w8 hp8 => ?_)
  obtain ⟨rfl, f3, rfl, hk3, hm3⟩ := hp8
  refine vIload X dL_law_1962 1 rfl ?_
  refine vIcmp_eqT X 1969 dL_law_1964 (by decide) rfl ?_
  have fo3 : f3 ou = .inl (k 5, 1, .inr (.inl g1)) := (hk3 ou ho1).trans ((hk2 ou ho1).trans fo1)
  have fo4 := (hk3 od ho2).trans ((hk2 od ho2).trans (((hk1 od hod).2 (Or.inr (Or.inr rfl)) (Ne.symm ho3)).trans fod))
  have hfin : lInv k o ou od x L1 f3 B' Ln' Rm' Rd' Pl' Mk' G' Sz' Kp' (nI kk9) g1 gD := ⟨hi1.foreign (fun t ht => ⟨ht, fun hz => (hk3 t (fun j hj e => hz (Or.inl ⟨j, hj, e⟩))).trans (hk2 t (fun j hj e => hz (Or.inl ⟨j, hj, e⟩)))⟩), hm3, (hk1 ou hou).1, (hk1 od hod).1, fo3, fo4, ho1, ho2, ho3⟩
  refine vIload X dL_law_1969 1 rfl ?_
  by_cases h0 : kk9 = 0
  rotate_left
  · refine vIf_neT X 1986 dL_law_1971 (by decide) (nkk h0 (by omega)) ?_
    refine vGoto X 2499 dL_law_1986 (by decide) ?_
    refine vSub [2, 3, 4, 5, 6, 7] [(5, .int (nI i)), (4, .ref od), (3, .ref ou), (2, .ref (o 0)), (1, .ref x), (0, .ref b)] rfl ?_
    refine vWiden (cells + 8) (slots + 800) (by omega) (by omega) ?_
    exact kk _ _ _ _ _ _ _ _ _ _ _ _ _ _ hfin
  · refine vIf_neF X 1986 dL_law_1971 (by decide) (by rw [h0]; rfl) ?_
    refine vAloadN X dL_law_1974 4 rfl ?_
    refine vIconst X dL_law_1975 (v := nI 0) (by decide) ?_
    refine vpLaload X (hk1 ou hou).1 fo3 5 rfl rfl (by decide) (by decide) (hg1 h0) dL_law_1976 ?_
    refine vIload X dL_law_1977 0 rfl ?_
    refine vI2l X dL_law_1979 (v := v.toInt64) rfl ?_
    refine vLcmp X dL_law_1980 ?_
    refine vIf_eqT X 1986 dL_law_1981 (by decide) (lgc_self _) ?_
    refine vGoto X 2499 dL_law_1986 (by decide) ?_
    refine vSub [2, 3, 4, 5, 6, 7] [(5, .int (nI i)), (4, .ref od), (3, .ref ou), (2, .ref (o 0)), (1, .ref x), (0, .ref b)] rfl ?_
    refine vWiden (cells + 8) (slots + 800) (by omega) (by omega) ?_
    exact kk _ _ _ _ _ _ _ _ _ _ _ _ _ _ hfin
set_option maxHeartbeats 4000000 in
theorem lw_mark {p : Program} {e : Env} {s : State} {m : MethodId} {below : List Frame} {meth : Method} {c : Code} (l : Launch) {D : va_G} {k : Nat → ClassId} {o : Nat → Nat} {b LL x ou od : Nat} {xs : Nat → Int32} {Q : State → Prop} (X : vCX p s m #[.ref b] meth c cL_law 9 RL (Cond.initialized "Bytewell" :: vGW) D vCl (vTy k) s.heap.size) (hE : vEL s.heap.size s) (hl : l.stackTraces = false) (hX : va_X b LL xs s s.heap) (hbl : b < s.heap.size) (hLL : LL ≤ 3072) {i : Nat} (hi : i + 6 ≤ LL) {cells slots : Nat} (hc : cells + 8 ≤ 603072) (hs : slots + 800 ≤ 7219306) {L : List Nat} {f : Nat → va_E} {B : Nat → Nat → Int32} {Ln Rm : Nat → Nat} {Rd : Nat → Option Nat} {Pl Mk : Nat → Nat} {G : Nat → Nat → Int32} {Sz : Nat → Nat} {Kp : Nat → Int32} {th : Int32} {gL : Nat → Int64} {gD : Nat → UInt64} (h : lInv k o ou od x L f B Ln Rm Rd Pl Mk G Sz Kp th gL gD) (kk : lNext p l e s m below meth c D k o b x ou od Q i cells slots) :
    vV p l e room_1 s m #[.ref b] below meth c 9 D vCl s.heap.size Q (va_pl L f) cells slots 1989 [(5, .int (nI i)), (4, .ref od), (3, .ref ou), (2, .ref (o 0)), (1, .ref x), (0, .ref b)] [] := by
  have hZ := lZ.mem h
  obtain ⟨hi0, hm0, hou, hod, fou, fod, ho1, ho2, ho3⟩ := h
  obtain ⟨kk9, v, B', Ln', Rm', Rd', Pl', Mk', G', Sz', hkk, hct, hm9⟩ := lc_mark l D k s.heap.size L f (lZ o ou od) x B Ln Rm Rd Pl Mk G Sz hl hi0 hZ ou gL hou (Or.inr (Or.inl rfl)) fou (xs (i + 1)) (xs (i + 2))
  refine vAloadN X dL_law_1989 4 rfl ?_
  refine vAloadN X dL_law_1990 5 rfl ?_
  refine vIload X dL_law_1991 0 rfl ?_
  refine vIconst X dL_law_1993 (v := nI 1) (by decide) ?_
  refine vIadd X dL_law_1994 (nI_add i 1) ?_
  refine vSld X hX hbl (Nat.le_refl _) hLL (j := i + 1) rfl (by omega) dL_law_1995 ?_
  refine vAloadN X dL_law_1996 5 rfl ?_
  refine vIload X dL_law_1997 0 rfl ?_
  refine vIconst X dL_law_1999 (v := nI 2) (by decide) ?_
  refine vIadd X dL_law_2000 (nI_add i 2) ?_
  refine vSld X hX hbl (Nat.le_refl _) hLL (j := i + 2) rfl (by omega) dL_law_2001 ?_
  refine vAloadN X dL_law_2002 2 rfl ?_
  refine vCallL X hE [] hct (vGL q_658 q_659 q_23 q_660) rfl ⟨by decide, by decide, (show _ = some 4 from by decide +kernel)⟩ ⟨(Nat.le_of_ble_eq_true rfl), (Nat.le_of_ble_eq_true rfl)⟩ rfl (Nat.le_of_ble_eq_true rfl) dL_law_2003 ⟨(show cells + 1 ≤ 603072 by omega), (show slots + 6 ≤ 7219306 by omega)⟩ (fun v9 w9 hp9 => ?_)
  obtain ⟨L1, f1, g1, rfl, rfl, hk1, fo1, hg1, hi1⟩ := hp9
  refine vIstore X [(6, .int (nI kk9)), (5, .int (nI i)), (4, .ref od), (3, .ref ou), (2, .ref (o 0)), (1, .ref x), (0, .ref b)] dL_law_2006 (by decide) rfl ?_
  have hm1 : mIn k o L1 f1 B Ln Rm Rd Pl Mk G Sz Kp th := hm0.kp (fun a ha => (hk1 a ha).1) (fun j hj => (hk1 _ (hm0.1 j hj)).2 (Or.inl ⟨j, hj, rfl⟩) (fun e => ho1 j hj e.symm))
  obtain ⟨Kp', hm8⟩ := hm9 o Kp th
  have hmc := hm1.call hm8
  refine vAloadN X dL_law_2008 4 rfl ?_
  refine vAloadN X dL_law_2009 6 rfl ?_
  refine vIload X dL_law_2010 1 rfl ?_
  refine vIconst X dL_law_2012 (v := nI 1) (by decide) ?_
  refine vIadd X dL_law_2013 (nI_add i 1) ?_
  refine vSld X hX hbl (Nat.le_refl _) hLL (j := i + 1) rfl (by omega) dL_law_2014 ?_
  refine vAloadN X dL_law_2015 6 rfl ?_
  refine vIload X dL_law_2016 1 rfl ?_
  refine vIconst X dL_law_2018 (v := nI 2) (by decide) ?_
  refine vIadd X dL_law_2019 (nI_add i 2) ?_
  refine vSld X hX hbl (Nat.le_refl _) hLL (j := i + 2) rfl (by omega) dL_law_2020 ?_
  obtain ⟨ix, hix⟩ := vp_ix (f := f1) (hm1.1 0 (by decide))
  have hfo : f1 (o 0) = .inr (4, _) := hm1.2.2 0 (by decide)
  refine vCallV X [] hmc (vGV q_943 q_944 q_945 q_29 q_946) ⟨by decide, by decide, (show _ = some 2 from by decide +kernel)⟩ ⟨(Nat.le_of_ble_eq_true rfl), (Nat.le_of_ble_eq_true rfl)⟩ ix 4 rfl rfl (hix.trans (by rw [hfo])) rfl (Nat.le_of_ble_eq_true rfl) dL_law_2021 ⟨(show cells + 1 + 0 ≤ 603072 by omega), (show slots + 6 + 0 ≤ 7219306 by omega)⟩ (fun v8 w8 hp8 => ?_)
  obtain ⟨rfl, f2, rfl, hk2, hm2⟩ := hp8
  refine vIstore X [(7, .int v), (6, .int (nI kk9)), (5, .int (nI i)), (4, .ref od), (3, .ref ou), (2, .ref (o 0)), (1, .ref x), (0, .ref b)] dL_law_2024 (by decide) rfl ?_
  have hmt := hm2.call (fun pl => mm_thrown l D k o pl s.heap.size B' Ln' Rm' Rd' Pl' Mk' G' Sz' Kp' (nI kk9))
  refine vAloadN X dL_law_2026 5 rfl ?_
  obtain ⟨ixt, hixt⟩ := vp_ix (f := f2) (hm2.1 0 (by decide))
  have hfot : f2 (o 0) = .inr (4, _) := hm2.2.2 0 (by decide)
  refine vCallV X [] hmt (vGV q_774 q_775 q_776 q_29 q_777) ⟨by decide, by decide, (show _ = some 0 from by decide +kernel)⟩ ⟨(Nat.le_of_ble_eq_true rfl), (Nat.le_of_ble_eq_true rfl)⟩ ixt 4 rfl rfl (hixt.trans (by rw [hfot])) rfl (Nat.le_of_ble_eq_true rfl) dL_law_2027 ⟨(show cells + 1 + 0 + 0 ≤ 603072 by omega), (show slots + 6 + 0 + 0 ≤ 7219306 by omega)⟩ (fun v8 w8 hp8 => ?_)
  obtain ⟨rfl, f3, rfl, hk3, hm3⟩ := hp8
  refine vIload X dL_law_2030 1 rfl ?_
  refine vIcmp_eqT X 2037 dL_law_2032 (by decide) rfl ?_
  have fo3 : f3 ou = .inl (k 5, 1, .inr (.inl g1)) := (hk3 ou ho1).trans ((hk2 ou ho1).trans fo1)
  have fo4 := (hk3 od ho2).trans ((hk2 od ho2).trans (((hk1 od hod).2 (Or.inr (Or.inr rfl)) (Ne.symm ho3)).trans fod))
  have hfin : lInv k o ou od x L1 f3 B' Ln' Rm' Rd' Pl' Mk' G' Sz' Kp' (nI kk9) g1 gD := ⟨hi1.foreign (fun t ht => ⟨ht, fun hz => (hk3 t (fun j hj e => hz (Or.inl ⟨j, hj, e⟩))).trans (hk2 t (fun j hj e => hz (Or.inl ⟨j, hj, e⟩)))⟩), hm3, (hk1 ou hou).1, (hk1 od hod).1, fo3, fo4, ho1, ho2, ho3⟩
  refine vIload X dL_law_2037 1 rfl ?_
  by_cases h0 : kk9 = 0
  rotate_left
  · refine vIf_neT X 2054 dL_law_2039 (by decide) (nkk h0 (by omega)) ?_
    refine vGoto X 2499 dL_law_2054 (by decide) ?_
    refine vSub [2, 3, 4, 5, 6, 7] [(5, .int (nI i)), (4, .ref od), (3, .ref ou), (2, .ref (o 0)), (1, .ref x), (0, .ref b)] rfl ?_
    refine vWiden (cells + 8) (slots + 800) (by omega) (by omega) ?_
    exact kk _ _ _ _ _ _ _ _ _ _ _ _ _ _ hfin
  · refine vIf_neF X 2054 dL_law_2039 (by decide) (by rw [h0]; rfl) ?_
    refine vAloadN X dL_law_2042 4 rfl ?_
    refine vIconst X dL_law_2043 (v := nI 0) (by decide) ?_
    refine vpLaload X (hk1 ou hou).1 fo3 5 rfl rfl (by decide) (by decide) (hg1 h0) dL_law_2044 ?_
    refine vIload X dL_law_2045 0 rfl ?_
    refine vI2l X dL_law_2047 (v := v.toInt64) rfl ?_
    refine vLcmp X dL_law_2048 ?_
    refine vIf_eqT X 2054 dL_law_2049 (by decide) (lgc_self _) ?_
    refine vGoto X 2499 dL_law_2054 (by decide) ?_
    refine vSub [2, 3, 4, 5, 6, 7] [(5, .int (nI i)), (4, .ref od), (3, .ref ou), (2, .ref (o 0)), (1, .ref x), (0, .ref b)] rfl ?_
    refine vWiden (cells + 8) (slots + 800) (by omega) (by omega) ?_
    exact kk _ _ _ _ _ _ _ _ _ _ _ _ _ _ hfin
set_option maxHeartbeats 4000000 in
theorem lw_back {p : Program} {e : Env} {s : State} {m : MethodId} {below : List Frame} {meth : Method} {c : Code} (l : Launch) {D : va_G} {k : Nat → ClassId} {o : Nat → Nat} {b LL x ou od : Nat} {xs : Nat → Int32} {Q : State → Prop} (X : vCX p s m #[.ref b] meth c cL_law 9 RL (Cond.initialized "Bytewell" :: vGW) D vCl (vTy k) s.heap.size) (hE : vEL s.heap.size s) (hl : l.stackTraces = false) (hX : va_X b LL xs s s.heap) (hbl : b < s.heap.size) (hLL : LL ≤ 3072) {i : Nat} (hi : i + 6 ≤ LL) {cells slots : Nat} (hc : cells + 8 ≤ 603072) (hs : slots + 800 ≤ 7219306) {L : List Nat} {f : Nat → va_E} {B : Nat → Nat → Int32} {Ln Rm : Nat → Nat} {Rd : Nat → Option Nat} {Pl Mk : Nat → Nat} {G : Nat → Nat → Int32} {Sz : Nat → Nat} {Kp : Nat → Int32} {th : Int32} {gL : Nat → Int64} {gD : Nat → UInt64} (h : lInv k o ou od x L f B Ln Rm Rd Pl Mk G Sz Kp th gL gD) (kk : lNext p l e s m below meth c D k o b x ou od Q i cells slots) :
    vV p l e room_1 s m #[.ref b] below meth c 9 D vCl s.heap.size Q (va_pl L f) cells slots 2057 [(5, .int (nI i)), (4, .ref od), (3, .ref ou), (2, .ref (o 0)), (1, .ref x), (0, .ref b)] [] := by
  have hZ := lZ.mem h
  obtain ⟨hi0, hm0, hou, hod, fou, fod, ho1, ho2, ho3⟩ := h
  obtain ⟨kk9, v, B', Ln', Rm', Rd', Pl', Mk', G', Sz', hkk, hct, hm9⟩ := lc_back l D k s.heap.size L f (lZ o ou od) x B Ln Rm Rd Pl Mk G Sz hl hi0 hZ ou gL hou (Or.inr (Or.inl rfl)) fou (xs (i + 1))
  refine vAloadN X dL_law_2057 4 rfl ?_
  refine vAloadN X dL_law_2058 5 rfl ?_
  refine vIload X dL_law_2059 0 rfl ?_
  refine vIconst X dL_law_2061 (v := nI 1) (by decide) ?_
  refine vIadd X dL_law_2062 (nI_add i 1) ?_
  refine vSld X hX hbl (Nat.le_refl _) hLL (j := i + 1) rfl (by omega) dL_law_2063 ?_
  refine vAloadN X dL_law_2064 2 rfl ?_
  refine vCallL X hE [] hct (vGL q_666 q_667 q_23 q_668) rfl ⟨by decide, by decide, (show _ = some 3 from by decide +kernel)⟩ ⟨(Nat.le_of_ble_eq_true rfl), (Nat.le_of_ble_eq_true rfl)⟩ rfl (Nat.le_of_ble_eq_true rfl) dL_law_2065 ⟨(show cells + 1 ≤ 603072 by omega), (show slots + 6 ≤ 7219306 by omega)⟩ (fun v9 w9 hp9 => ?_)
  obtain ⟨L1, f1, g1, rfl, rfl, hk1, fo1, hg1, hi1⟩ := hp9
  refine vIstore X [(6, .int (nI kk9)), (5, .int (nI i)), (4, .ref od), (3, .ref ou), (2, .ref (o 0)), (1, .ref x), (0, .ref b)] dL_law_2068 (by decide) rfl ?_
  have hm1 : mIn k o L1 f1 B Ln Rm Rd Pl Mk G Sz Kp th := hm0.kp (fun a ha => (hk1 a ha).1) (fun j hj => (hk1 _ (hm0.1 j hj)).2 (Or.inl ⟨j, hj, rfl⟩) (fun e => ho1 j hj e.symm))
  obtain ⟨Kp', hm8⟩ := hm9 o Kp th
  have hmc := hm1.call hm8
  refine vAloadN X dL_law_2070 4 rfl ?_
  refine vAloadN X dL_law_2071 6 rfl ?_
  refine vIload X dL_law_2072 1 rfl ?_
  refine vIconst X dL_law_2074 (v := nI 1) (by decide) ?_
  refine vIadd X dL_law_2075 (nI_add i 1) ?_
  refine vSld X hX hbl (Nat.le_refl _) hLL (j := i + 1) rfl (by omega) dL_law_2076 ?_
  obtain ⟨ix, hix⟩ := vp_ix (f := f1) (hm1.1 0 (by decide))
  have hfo : f1 (o 0) = .inr (4, _) := hm1.2.2 0 (by decide)
  refine vCallV X [] hmc (vGV q_947 q_948 q_949 q_29 q_950) ⟨by decide, by decide, (show _ = some 1 from by decide +kernel)⟩ ⟨(Nat.le_of_ble_eq_true rfl), (Nat.le_of_ble_eq_true rfl)⟩ ix 4 rfl rfl (hix.trans (by rw [hfo])) rfl (Nat.le_of_ble_eq_true rfl) dL_law_2077 ⟨(show cells + 1 + 0 ≤ 603072 by omega), (show slots + 6 + 0 ≤ 7219306 by omega)⟩ (fun v8 w8 hp8 => ?_)
  obtain ⟨rfl, f2, rfl, hk2, hm2⟩ := hp8
  refine vIstore X [(7, .int v), (6, .int (nI kk9)), (5, .int (nI i)), (4, .ref od), (3, .ref ou), (2, .ref (o 0)), (1, .ref x), (0, .ref b)] dL_law_2080 (by decide) rfl ?_
  have hmt := hm2.call (fun pl => mm_thrown l D k o pl s.heap.size B' Ln' Rm' Rd' Pl' Mk' G' Sz' Kp' (nI kk9))
  refine vAloadN X dL_law_2082 5 rfl ?_
  obtain ⟨ixt, hixt⟩ := vp_ix (f := f2) (hm2.1 0 (by decide))
  have hfot : f2 (o 0) = .inr (4, _) := hm2.2.2 0 (by decide)
  refine vCallV X [] hmt (vGV q_774 q_775 q_776 q_29 q_777) ⟨by decide, by decide, (show _ = some 0 from by decide +kernel)⟩ ⟨(Nat.le_of_ble_eq_true rfl), (Nat.le_of_ble_eq_true rfl)⟩ ixt 4 rfl rfl (hixt.trans (by rw [hfot])) rfl (Nat.le_of_ble_eq_true rfl) dL_law_2083 ⟨(show cells + 1 + 0 + 0 ≤ 603072 by omega), (show slots + 6 + 0 + 0 ≤ 7219306 by omega)⟩ (fun v8 w8 hp8 => ?_)
  obtain ⟨rfl, f3, rfl, hk3, hm3⟩ := hp8
  refine vIload X dL_law_2086 1 rfl ?_
  refine vIcmp_eqT X 2093 dL_law_2088 (by decide) rfl ?_
  have fo3 : f3 ou = .inl (k 5, 1, .inr (.inl g1)) := (hk3 ou ho1).trans ((hk2 ou ho1).trans fo1)
  have fo4 := (hk3 od ho2).trans ((hk2 od ho2).trans (((hk1 od hod).2 (Or.inr (Or.inr rfl)) (Ne.symm ho3)).trans fod))
  have hfin : lInv k o ou od x L1 f3 B' Ln' Rm' Rd' Pl' Mk' G' Sz' Kp' (nI kk9) g1 gD := ⟨hi1.foreign (fun t ht => ⟨ht, fun hz => (hk3 t (fun j hj e => hz (Or.inl ⟨j, hj, e⟩))).trans (hk2 t (fun j hj e => hz (Or.inl ⟨j, hj, e⟩)))⟩), hm3, (hk1 ou hou).1, (hk1 od hod).1, fo3, fo4, ho1, ho2, ho3⟩
  refine vIload X dL_law_2093 1 rfl ?_
  by_cases h0 : kk9 = 0
  rotate_left
  · refine vIf_neT X 2110 dL_law_2095 (by decide) (nkk h0 (by omega)) ?_
    refine vGoto X 2499 dL_law_2110 (by decide) ?_
    refine vSub [2, 3, 4, 5, 6, 7] [(5, .int (nI i)), (4, .ref od), (3, .ref ou), (2, .ref (o 0)), (1, .ref x), (0, .ref b)] rfl ?_
    refine vWiden (cells + 8) (slots + 800) (by omega) (by omega) ?_
    exact kk _ _ _ _ _ _ _ _ _ _ _ _ _ _ hfin
  · refine vIf_neF X 2110 dL_law_2095 (by decide) (by rw [h0]; rfl) ?_
    refine vAloadN X dL_law_2098 4 rfl ?_
    refine vIconst X dL_law_2099 (v := nI 0) (by decide) ?_
    refine vpLaload X (hk1 ou hou).1 fo3 5 rfl rfl (by decide) (by decide) (hg1 h0) dL_law_2100 ?_
    refine vIload X dL_law_2101 0 rfl ?_
    refine vI2l X dL_law_2103 (v := v.toInt64) rfl ?_
    refine vLcmp X dL_law_2104 ?_
    refine vIf_eqT X 2110 dL_law_2105 (by decide) (lgc_self _) ?_
    refine vGoto X 2499 dL_law_2110 (by decide) ?_
    refine vSub [2, 3, 4, 5, 6, 7] [(5, .int (nI i)), (4, .ref od), (3, .ref ou), (2, .ref (o 0)), (1, .ref x), (0, .ref b)] rfl ?_
    refine vWiden (cells + 8) (slots + 800) (by omega) (by omega) ?_
    exact kk _ _ _ _ _ _ _ _ _ _ _ _ _ _ hfin
set_option maxHeartbeats 4000000 in
theorem lw_pour {p : Program} {e : Env} {s : State} {m : MethodId} {below : List Frame} {meth : Method} {c : Code} (l : Launch) {D : va_G} {k : Nat → ClassId} {o : Nat → Nat} {b LL x ou od : Nat} {xs : Nat → Int32} {Q : State → Prop} (X : vCX p s m #[.ref b] meth c cL_law 9 RL (Cond.initialized "Bytewell" :: vGW) D vCl (vTy k) s.heap.size) (hE : vEL s.heap.size s) (hl : l.stackTraces = false) (hX : va_X b LL xs s s.heap) (hbl : b < s.heap.size) (hLL : LL ≤ 3072) {i : Nat} (hi : i + 6 ≤ LL) {cells slots : Nat} (hc : cells + 8 ≤ 603072) (hs : slots + 800 ≤ 7219306) {L : List Nat} {f : Nat → va_E} {B : Nat → Nat → Int32} {Ln Rm : Nat → Nat} {Rd : Nat → Option Nat} {Pl Mk : Nat → Nat} {G : Nat → Nat → Int32} {Sz : Nat → Nat} {Kp : Nat → Int32} {th : Int32} {gL : Nat → Int64} {gD : Nat → UInt64} (h : lInv k o ou od x L f B Ln Rm Rd Pl Mk G Sz Kp th gL gD) (kk : lNext p l e s m below meth c D k o b x ou od Q i cells slots) :
    vV p l e room_1 s m #[.ref b] below meth c 9 D vCl s.heap.size Q (va_pl L f) cells slots 2113 [(5, .int (nI i)), (4, .ref od), (3, .ref ou), (2, .ref (o 0)), (1, .ref x), (0, .ref b)] [] := by
  have hZ := lZ.mem h
  obtain ⟨hi0, hm0, hou, hod, fou, fod, ho1, ho2, ho3⟩ := h
  obtain ⟨kk9, v, B', Ln', Rm', Rd', Pl', Mk', G', Sz', hkk, hct, hm9⟩ := lc_pour l D k s.heap.size L f (lZ o ou od) x B Ln Rm Rd Pl Mk G Sz hl hi0 hZ ou gL hou (Or.inr (Or.inl rfl)) fou (xs (i + 1)) (xs (i + 2))
  refine vAloadN X dL_law_2113 4 rfl ?_
  refine vAloadN X dL_law_2114 5 rfl ?_
  refine vIload X dL_law_2115 0 rfl ?_
  refine vIconst X dL_law_2117 (v := nI 1) (by decide) ?_
  refine vIadd X dL_law_2118 (nI_add i 1) ?_
  refine vSld X hX hbl (Nat.le_refl _) hLL (j := i + 1) rfl (by omega) dL_law_2119 ?_
  refine vAloadN X dL_law_2120 5 rfl ?_
  refine vIload X dL_law_2121 0 rfl ?_
  refine vIconst X dL_law_2123 (v := nI 2) (by decide) ?_
  refine vIadd X dL_law_2124 (nI_add i 2) ?_
  refine vSld X hX hbl (Nat.le_refl _) hLL (j := i + 2) rfl (by omega) dL_law_2125 ?_
  refine vAloadN X dL_law_2126 2 rfl ?_
  refine vCallL X hE [] hct (vGL q_673 q_674 q_23 q_675) rfl ⟨by decide, by decide, (show _ = some 4 from by decide +kernel)⟩ ⟨(Nat.le_of_ble_eq_true rfl), (Nat.le_of_ble_eq_true rfl)⟩ rfl (Nat.le_of_ble_eq_true rfl) dL_law_2127 ⟨(show cells + 1 ≤ 603072 by omega), (show slots + 6 ≤ 7219306 by omega)⟩ (fun v9 w9 hp9 => ?_)
  obtain ⟨L1, f1, g1, rfl, rfl, hk1, fo1, hg1, hi1⟩ := hp9
  refine vIstore X [(6, .int (nI kk9)), (5, .int (nI i)), (4, .ref od), (3, .ref ou), (2, .ref (o 0)), (1, .ref x), (0, .ref b)] dL_law_2130 (by decide) rfl ?_
  have hm1 : mIn k o L1 f1 B Ln Rm Rd Pl Mk G Sz Kp th := hm0.kp (fun a ha => (hk1 a ha).1) (fun j hj => (hk1 _ (hm0.1 j hj)).2 (Or.inl ⟨j, hj, rfl⟩) (fun e => ho1 j hj e.symm))
  obtain ⟨Kp', hm8⟩ := hm9 o Kp th
  have hmc := hm1.call hm8
  refine vAloadN X dL_law_2132 4 rfl ?_
  refine vAloadN X dL_law_2133 6 rfl ?_
  refine vIload X dL_law_2134 1 rfl ?_
  refine vIconst X dL_law_2136 (v := nI 1) (by decide) ?_
  refine vIadd X dL_law_2137 (nI_add i 1) ?_
  refine vSld X hX hbl (Nat.le_refl _) hLL (j := i + 1) rfl (by omega) dL_law_2138 ?_
  refine vAloadN X dL_law_2139 6 rfl ?_
  refine vIload X dL_law_2140 1 rfl ?_
  refine vIconst X dL_law_2142 (v := nI 2) (by decide) ?_
  refine vIadd X dL_law_2143 (nI_add i 2) ?_
  refine vSld X hX hbl (Nat.le_refl _) hLL (j := i + 2) rfl (by omega) dL_law_2144 ?_
  obtain ⟨ix, hix⟩ := vp_ix (f := f1) (hm1.1 0 (by decide))
  have hfo : f1 (o 0) = .inr (4, _) := hm1.2.2 0 (by decide)
  refine vCallV X [] hmc (vGV q_951 q_952 q_953 q_29 q_954) ⟨by decide, by decide, (show _ = some 2 from by decide +kernel)⟩ ⟨(Nat.le_of_ble_eq_true rfl), (Nat.le_of_ble_eq_true rfl)⟩ ix 4 rfl rfl (hix.trans (by rw [hfo])) rfl (Nat.le_of_ble_eq_true rfl) dL_law_2145 ⟨(show cells + 1 + 0 ≤ 603072 by omega), (show slots + 6 + 0 ≤ 7219306 by omega)⟩ (fun v8 w8 hp8 => ?_)
  obtain ⟨rfl, f2, rfl, hk2, hm2⟩ := hp8
  refine vIstore X [(7, .int v), (6, .int (nI kk9)), (5, .int (nI i)), (4, .ref od), (3, .ref ou), (2, .ref (o 0)), (1, .ref x), (0, .ref b)] dL_law_2148 (by decide) rfl ?_
  have hmt := hm2.call (fun pl => mm_thrown l D k o pl s.heap.size B' Ln' Rm' Rd' Pl' Mk' G' Sz' Kp' (nI kk9))
  refine vAloadN X dL_law_2150 5 rfl ?_
  obtain ⟨ixt, hixt⟩ := vp_ix (f := f2) (hm2.1 0 (by decide))
  have hfot : f2 (o 0) = .inr (4, _) := hm2.2.2 0 (by decide)
  refine vCallV X [] hmt (vGV q_774 q_775 q_776 q_29 q_777) ⟨by decide, by decide, (show _ = some 0 from by decide +kernel)⟩ ⟨(Nat.le_of_ble_eq_true rfl), (Nat.le_of_ble_eq_true rfl)⟩ ixt 4 rfl rfl (hixt.trans (by rw [hfot])) rfl (Nat.le_of_ble_eq_true rfl) dL_law_2151 ⟨(show cells + 1 + 0 + 0 ≤ 603072 by omega), (show slots + 6 + 0 + 0 ≤ 7219306 by omega)⟩ (fun v8 w8 hp8 => ?_)
  obtain ⟨rfl, f3, rfl, hk3, hm3⟩ := hp8
  refine vIload X dL_law_2154 1 rfl ?_
  refine vIcmp_eqT X 2161 dL_law_2156 (by decide) rfl ?_
  have fo3 : f3 ou = .inl (k 5, 1, .inr (.inl g1)) := (hk3 ou ho1).trans ((hk2 ou ho1).trans fo1)
  have fo4 := (hk3 od ho2).trans ((hk2 od ho2).trans (((hk1 od hod).2 (Or.inr (Or.inr rfl)) (Ne.symm ho3)).trans fod))
  have hfin : lInv k o ou od x L1 f3 B' Ln' Rm' Rd' Pl' Mk' G' Sz' Kp' (nI kk9) g1 gD := ⟨hi1.foreign (fun t ht => ⟨ht, fun hz => (hk3 t (fun j hj e => hz (Or.inl ⟨j, hj, e⟩))).trans (hk2 t (fun j hj e => hz (Or.inl ⟨j, hj, e⟩)))⟩), hm3, (hk1 ou hou).1, (hk1 od hod).1, fo3, fo4, ho1, ho2, ho3⟩
  refine vIload X dL_law_2161 1 rfl ?_
  by_cases h0 : kk9 = 0
  rotate_left
  · refine vIf_neT X 2178 dL_law_2163 (by decide) (nkk h0 (by omega)) ?_
    refine vGoto X 2499 dL_law_2178 (by decide) ?_
    refine vSub [2, 3, 4, 5, 6, 7] [(5, .int (nI i)), (4, .ref od), (3, .ref ou), (2, .ref (o 0)), (1, .ref x), (0, .ref b)] rfl ?_
    refine vWiden (cells + 8) (slots + 800) (by omega) (by omega) ?_
    exact kk _ _ _ _ _ _ _ _ _ _ _ _ _ _ hfin
  · refine vIf_neF X 2178 dL_law_2163 (by decide) (by rw [h0]; rfl) ?_
    refine vAloadN X dL_law_2166 4 rfl ?_
    refine vIconst X dL_law_2167 (v := nI 0) (by decide) ?_
    refine vpLaload X (hk1 ou hou).1 fo3 5 rfl rfl (by decide) (by decide) (hg1 h0) dL_law_2168 ?_
    refine vIload X dL_law_2169 0 rfl ?_
    refine vI2l X dL_law_2171 (v := v.toInt64) rfl ?_
    refine vLcmp X dL_law_2172 ?_
    refine vIf_eqT X 2178 dL_law_2173 (by decide) (lgc_self _) ?_
    refine vGoto X 2499 dL_law_2178 (by decide) ?_
    refine vSub [2, 3, 4, 5, 6, 7] [(5, .int (nI i)), (4, .ref od), (3, .ref ou), (2, .ref (o 0)), (1, .ref x), (0, .ref b)] rfl ?_
    refine vWiden (cells + 8) (slots + 800) (by omega) (by omega) ?_
    exact kk _ _ _ _ _ _ _ _ _ _ _ _ _ _ hfin
set_option maxHeartbeats 4000000 in
theorem lw_pourParts {p : Program} {e : Env} {s : State} {m : MethodId} {below : List Frame} {meth : Method} {c : Code} (l : Launch) {D : va_G} {k : Nat → ClassId} {o : Nat → Nat} {b LL x ou od : Nat} {xs : Nat → Int32} {Q : State → Prop} (X : vCX p s m #[.ref b] meth c cL_law 9 RL (Cond.initialized "Bytewell" :: vGW) D vCl (vTy k) s.heap.size) (hE : vEL s.heap.size s) (hl : l.stackTraces = false) (hX : va_X b LL xs s s.heap) (hbl : b < s.heap.size) (hLL : LL ≤ 3072) {i : Nat} (hi : i + 6 ≤ LL) {cells slots : Nat} (hc : cells + 8 ≤ 603072) (hs : slots + 800 ≤ 7219306) {L : List Nat} {f : Nat → va_E} {B : Nat → Nat → Int32} {Ln Rm : Nat → Nat} {Rd : Nat → Option Nat} {Pl Mk : Nat → Nat} {G : Nat → Nat → Int32} {Sz : Nat → Nat} {Kp : Nat → Int32} {th : Int32} {gL : Nat → Int64} {gD : Nat → UInt64} (h : lInv k o ou od x L f B Ln Rm Rd Pl Mk G Sz Kp th gL gD) (kk : lNext p l e s m below meth c D k o b x ou od Q i cells slots) :
    vV p l e room_1 s m #[.ref b] below meth c 9 D vCl s.heap.size Q (va_pl L f) cells slots 2181 [(5, .int (nI i)), (4, .ref od), (3, .ref ou), (2, .ref (o 0)), (1, .ref x), (0, .ref b)] [] := by
  have hZ := lZ.mem h
  obtain ⟨hi0, hm0, hou, hod, fou, fod, ho1, ho2, ho3⟩ := h
  obtain ⟨kk9, v, B', Ln', Rm', Rd', Pl', Mk', G', Sz', hkk, hct, hm9⟩ := lc_pourParts l D k s.heap.size L f (lZ o ou od) x B Ln Rm Rd Pl Mk G Sz hl hi0 hZ ou gL hou (Or.inr (Or.inl rfl)) fou (xs (i + 1)) (xs (i + 2)) (xs (i + 3))
  refine vAloadN X dL_law_2181 4 rfl ?_
  refine vAloadN X dL_law_2182 5 rfl ?_
  refine vIload X dL_law_2183 0 rfl ?_
  refine vIconst X dL_law_2185 (v := nI 1) (by decide) ?_
  refine vIadd X dL_law_2186 (nI_add i 1) ?_
  refine vSld X hX hbl (Nat.le_refl _) hLL (j := i + 1) rfl (by omega) dL_law_2187 ?_
  refine vAloadN X dL_law_2188 5 rfl ?_
  refine vIload X dL_law_2189 0 rfl ?_
  refine vIconst X dL_law_2191 (v := nI 2) (by decide) ?_
  refine vIadd X dL_law_2192 (nI_add i 2) ?_
  refine vSld X hX hbl (Nat.le_refl _) hLL (j := i + 2) rfl (by omega) dL_law_2193 ?_
  refine vAloadN X dL_law_2194 5 rfl ?_
  refine vIload X dL_law_2195 0 rfl ?_
  refine vIconst X dL_law_2197 (v := nI 3) (by decide) ?_
  refine vIadd X dL_law_2198 (nI_add i 3) ?_
  refine vSld X hX hbl (Nat.le_refl _) hLL (j := i + 3) rfl (by omega) dL_law_2199 ?_
  refine vAloadN X dL_law_2200 2 rfl ?_
  refine vCallL X hE [] hct (vGL q_680 q_681 q_23 q_682) rfl ⟨by decide, by decide, (show _ = some 5 from by decide +kernel)⟩ ⟨(Nat.le_of_ble_eq_true rfl), (Nat.le_of_ble_eq_true rfl)⟩ rfl (Nat.le_of_ble_eq_true rfl) dL_law_2201 ⟨(show cells + 1 ≤ 603072 by omega), (show slots + 6 ≤ 7219306 by omega)⟩ (fun v9 w9 hp9 => ?_)
  obtain ⟨L1, f1, g1, rfl, rfl, hk1, fo1, hg1, hi1⟩ := hp9
  refine vIstore X [(6, .int (nI kk9)), (5, .int (nI i)), (4, .ref od), (3, .ref ou), (2, .ref (o 0)), (1, .ref x), (0, .ref b)] dL_law_2204 (by decide) rfl ?_
  have hm1 : mIn k o L1 f1 B Ln Rm Rd Pl Mk G Sz Kp th := hm0.kp (fun a ha => (hk1 a ha).1) (fun j hj => (hk1 _ (hm0.1 j hj)).2 (Or.inl ⟨j, hj, rfl⟩) (fun e => ho1 j hj e.symm))
  obtain ⟨Kp', hm8⟩ := hm9 o Kp th
  have hmc := hm1.call hm8
  refine vAloadN X dL_law_2206 4 rfl ?_
  refine vAloadN X dL_law_2207 6 rfl ?_
  refine vIload X dL_law_2208 1 rfl ?_
  refine vIconst X dL_law_2210 (v := nI 1) (by decide) ?_
  refine vIadd X dL_law_2211 (nI_add i 1) ?_
  refine vSld X hX hbl (Nat.le_refl _) hLL (j := i + 1) rfl (by omega) dL_law_2212 ?_
  refine vAloadN X dL_law_2213 6 rfl ?_
  refine vIload X dL_law_2214 1 rfl ?_
  refine vIconst X dL_law_2216 (v := nI 2) (by decide) ?_
  refine vIadd X dL_law_2217 (nI_add i 2) ?_
  refine vSld X hX hbl (Nat.le_refl _) hLL (j := i + 2) rfl (by omega) dL_law_2218 ?_
  refine vAloadN X dL_law_2219 6 rfl ?_
  refine vIload X dL_law_2220 1 rfl ?_
  refine vIconst X dL_law_2222 (v := nI 3) (by decide) ?_
  refine vIadd X dL_law_2223 (nI_add i 3) ?_
  refine vSld X hX hbl (Nat.le_refl _) hLL (j := i + 3) rfl (by omega) dL_law_2224 ?_
  obtain ⟨ix, hix⟩ := vp_ix (f := f1) (hm1.1 0 (by decide))
  have hfo : f1 (o 0) = .inr (4, _) := hm1.2.2 0 (by decide)
  refine vCallV X [] hmc (vGV q_955 q_956 q_957 q_29 q_958) ⟨by decide, by decide, (show _ = some 3 from by decide +kernel)⟩ ⟨(Nat.le_of_ble_eq_true rfl), (Nat.le_of_ble_eq_true rfl)⟩ ix 4 rfl rfl (hix.trans (by rw [hfo])) rfl (Nat.le_of_ble_eq_true rfl) dL_law_2225 ⟨(show cells + 1 + 0 ≤ 603072 by omega), (show slots + 6 + 0 ≤ 7219306 by omega)⟩ (fun v8 w8 hp8 => ?_)
  obtain ⟨rfl, f2, rfl, hk2, hm2⟩ := hp8
  refine vIstore X [(7, .int v), (6, .int (nI kk9)), (5, .int (nI i)), (4, .ref od), (3, .ref ou), (2, .ref (o 0)), (1, .ref x), (0, .ref b)] dL_law_2228 (by decide) rfl ?_
  have hmt := hm2.call (fun pl => mm_thrown l D k o pl s.heap.size B' Ln' Rm' Rd' Pl' Mk' G' Sz' Kp' (nI kk9))
  refine vAloadN X dL_law_2230 5 rfl ?_
  obtain ⟨ixt, hixt⟩ := vp_ix (f := f2) (hm2.1 0 (by decide))
  have hfot : f2 (o 0) = .inr (4, _) := hm2.2.2 0 (by decide)
  refine vCallV X [] hmt (vGV q_774 q_775 q_776 q_29 q_777) ⟨by decide, by decide, (show _ = some 0 from by decide +kernel)⟩ ⟨(Nat.le_of_ble_eq_true rfl), (Nat.le_of_ble_eq_true rfl)⟩ ixt 4 rfl rfl (hixt.trans (by rw [hfot])) rfl (Nat.le_of_ble_eq_true rfl) dL_law_2231 ⟨(show cells + 1 + 0 + 0 ≤ 603072 by omega), (show slots + 6 + 0 + 0 ≤ 7219306 by omega)⟩ (fun v8 w8 hp8 => ?_)
  obtain ⟨rfl, f3, rfl, hk3, hm3⟩ := hp8
  refine vIload X dL_law_2234 1 rfl ?_
  refine vIcmp_eqT X 2241 dL_law_2236 (by decide) rfl ?_
  have fo3 : f3 ou = .inl (k 5, 1, .inr (.inl g1)) := (hk3 ou ho1).trans ((hk2 ou ho1).trans fo1)
  have fo4 := (hk3 od ho2).trans ((hk2 od ho2).trans (((hk1 od hod).2 (Or.inr (Or.inr rfl)) (Ne.symm ho3)).trans fod))
  have hfin : lInv k o ou od x L1 f3 B' Ln' Rm' Rd' Pl' Mk' G' Sz' Kp' (nI kk9) g1 gD := ⟨hi1.foreign (fun t ht => ⟨ht, fun hz => (hk3 t (fun j hj e => hz (Or.inl ⟨j, hj, e⟩))).trans (hk2 t (fun j hj e => hz (Or.inl ⟨j, hj, e⟩)))⟩), hm3, (hk1 ou hou).1, (hk1 od hod).1, fo3, fo4, ho1, ho2, ho3⟩
  refine vIload X dL_law_2241 1 rfl ?_
  by_cases h0 : kk9 = 0
  rotate_left
  · refine vIf_neT X 2258 dL_law_2243 (by decide) (nkk h0 (by omega)) ?_
    refine vGoto X 2499 dL_law_2258 (by decide) ?_
    refine vSub [2, 3, 4, 5, 6, 7] [(5, .int (nI i)), (4, .ref od), (3, .ref ou), (2, .ref (o 0)), (1, .ref x), (0, .ref b)] rfl ?_
    refine vWiden (cells + 8) (slots + 800) (by omega) (by omega) ?_
    exact kk _ _ _ _ _ _ _ _ _ _ _ _ _ _ hfin
  · refine vIf_neF X 2258 dL_law_2243 (by decide) (by rw [h0]; rfl) ?_
    refine vAloadN X dL_law_2246 4 rfl ?_
    refine vIconst X dL_law_2247 (v := nI 0) (by decide) ?_
    refine vpLaload X (hk1 ou hou).1 fo3 5 rfl rfl (by decide) (by decide) (hg1 h0) dL_law_2248 ?_
    refine vIload X dL_law_2249 0 rfl ?_
    refine vI2l X dL_law_2251 (v := v.toInt64) rfl ?_
    refine vLcmp X dL_law_2252 ?_
    refine vIf_eqT X 2258 dL_law_2253 (by decide) (lgc_self _) ?_
    refine vGoto X 2499 dL_law_2258 (by decide) ?_
    refine vSub [2, 3, 4, 5, 6, 7] [(5, .int (nI i)), (4, .ref od), (3, .ref ou), (2, .ref (o 0)), (1, .ref x), (0, .ref b)] rfl ?_
    refine vWiden (cells + 8) (slots + 800) (by omega) (by omega) ?_
    exact kk _ _ _ _ _ _ _ _ _ _ _ _ _ _ hfin
set_option maxHeartbeats 4000000 in
theorem lw_alike {p : Program} {e : Env} {s : State} {m : MethodId} {below : List Frame} {meth : Method} {c : Code} (l : Launch) {D : va_G} {k : Nat → ClassId} {o : Nat → Nat} {b LL x ou od : Nat} {xs : Nat → Int32} {Q : State → Prop} (X : vCX p s m #[.ref b] meth c cL_law 9 RL (Cond.initialized "Bytewell" :: vGW) D vCl (vTy k) s.heap.size) (hE : vEL s.heap.size s) (hl : l.stackTraces = false) (hX : va_X b LL xs s s.heap) (hbl : b < s.heap.size) (hLL : LL ≤ 3072) {i : Nat} (hi : i + 6 ≤ LL) {cells slots : Nat} (hc : cells + 8 ≤ 603072) (hs : slots + 800 ≤ 7219306) {L : List Nat} {f : Nat → va_E} {B : Nat → Nat → Int32} {Ln Rm : Nat → Nat} {Rd : Nat → Option Nat} {Pl Mk : Nat → Nat} {G : Nat → Nat → Int32} {Sz : Nat → Nat} {Kp : Nat → Int32} {th : Int32} {gL : Nat → Int64} {gD : Nat → UInt64} (h : lInv k o ou od x L f B Ln Rm Rd Pl Mk G Sz Kp th gL gD) (kk : lNext p l e s m below meth c D k o b x ou od Q i cells slots) :
    vV p l e room_1 s m #[.ref b] below meth c 9 D vCl s.heap.size Q (va_pl L f) cells slots 2261 [(5, .int (nI i)), (4, .ref od), (3, .ref ou), (2, .ref (o 0)), (1, .ref x), (0, .ref b)] [] := by
  have hZ := lZ.mem h
  obtain ⟨hi0, hm0, hou, hod, fou, fod, ho1, ho2, ho3⟩ := h
  obtain ⟨kk9, v, B', Ln', Rm', Rd', Pl', Mk', G', Sz', hkk, hct, hm9⟩ := lc_alike l D k s.heap.size L f (lZ o ou od) x B Ln Rm Rd Pl Mk G Sz hl hi0 hZ ou gL hou (Or.inr (Or.inl rfl)) fou (xs (i + 1)) (xs (i + 2))
  refine vAloadN X dL_law_2261 4 rfl ?_
  refine vAloadN X dL_law_2262 5 rfl ?_
  refine vIload X dL_law_2263 0 rfl ?_
  refine vIconst X dL_law_2265 (v := nI 1) (by decide) ?_
  refine vIadd X dL_law_2266 (nI_add i 1) ?_
  refine vSld X hX hbl (Nat.le_refl _) hLL (j := i + 1) rfl (by omega) dL_law_2267 ?_
  refine vAloadN X dL_law_2268 5 rfl ?_
  refine vIload X dL_law_2269 0 rfl ?_
  refine vIconst X dL_law_2271 (v := nI 2) (by decide) ?_
  refine vIadd X dL_law_2272 (nI_add i 2) ?_
  refine vSld X hX hbl (Nat.le_refl _) hLL (j := i + 2) rfl (by omega) dL_law_2273 ?_
  refine vAloadN X dL_law_2274 2 rfl ?_
  refine vCallL X hE [] hct (vGL q_688 q_689 q_23 q_690) rfl ⟨by decide, by decide, (show _ = some 4 from by decide +kernel)⟩ ⟨(Nat.le_of_ble_eq_true rfl), (Nat.le_of_ble_eq_true rfl)⟩ rfl (Nat.le_of_ble_eq_true rfl) dL_law_2275 ⟨(show cells + 1 ≤ 603072 by omega), (show slots + 6 ≤ 7219306 by omega)⟩ (fun v9 w9 hp9 => ?_)
  obtain ⟨L1, f1, g1, rfl, rfl, hk1, fo1, hg1, hi1⟩ := hp9
  refine vIstore X [(6, .int (nI kk9)), (5, .int (nI i)), (4, .ref od), (3, .ref ou), (2, .ref (o 0)), (1, .ref x), (0, .ref b)] dL_law_2278 (by decide) rfl ?_
  have hm1 : mIn k o L1 f1 B Ln Rm Rd Pl Mk G Sz Kp th := hm0.kp (fun a ha => (hk1 a ha).1) (fun j hj => (hk1 _ (hm0.1 j hj)).2 (Or.inl ⟨j, hj, rfl⟩) (fun e => ho1 j hj e.symm))
  obtain ⟨Kp', hm8⟩ := hm9 o Kp th
  have hmc := hm1.call hm8
  refine vAloadN X dL_law_2280 4 rfl ?_
  refine vAloadN X dL_law_2281 6 rfl ?_
  refine vIload X dL_law_2282 1 rfl ?_
  refine vIconst X dL_law_2284 (v := nI 1) (by decide) ?_
  refine vIadd X dL_law_2285 (nI_add i 1) ?_
  refine vSld X hX hbl (Nat.le_refl _) hLL (j := i + 1) rfl (by omega) dL_law_2286 ?_
  refine vAloadN X dL_law_2287 6 rfl ?_
  refine vIload X dL_law_2288 1 rfl ?_
  refine vIconst X dL_law_2290 (v := nI 2) (by decide) ?_
  refine vIadd X dL_law_2291 (nI_add i 2) ?_
  refine vSld X hX hbl (Nat.le_refl _) hLL (j := i + 2) rfl (by omega) dL_law_2292 ?_
  obtain ⟨ix, hix⟩ := vp_ix (f := f1) (hm1.1 0 (by decide))
  have hfo : f1 (o 0) = .inr (4, _) := hm1.2.2 0 (by decide)
  refine vCallV X [] hmc (vGV q_960 q_961 q_962 q_29 q_963) ⟨by decide, by decide, (show _ = some 2 from by decide +kernel)⟩ ⟨(Nat.le_of_ble_eq_true rfl), (Nat.le_of_ble_eq_true rfl)⟩ ix 4 rfl rfl (hix.trans (by rw [hfo])) rfl (Nat.le_of_ble_eq_true rfl) dL_law_2293 ⟨(show cells + 1 + 0 ≤ 603072 by omega), (show slots + 6 + 0 ≤ 7219306 by omega)⟩ (fun v8 w8 hp8 => ?_)
  obtain ⟨rfl, f2, rfl, hk2, hm2⟩ := hp8
  refine vIstore X [(7, .int v), (6, .int (nI kk9)), (5, .int (nI i)), (4, .ref od), (3, .ref ou), (2, .ref (o 0)), (1, .ref x), (0, .ref b)] dL_law_2296 (by decide) rfl ?_
  have hmt := hm2.call (fun pl => mm_thrown l D k o pl s.heap.size B' Ln' Rm' Rd' Pl' Mk' G' Sz' Kp' (nI kk9))
  refine vAloadN X dL_law_2298 5 rfl ?_
  obtain ⟨ixt, hixt⟩ := vp_ix (f := f2) (hm2.1 0 (by decide))
  have hfot : f2 (o 0) = .inr (4, _) := hm2.2.2 0 (by decide)
  refine vCallV X [] hmt (vGV q_774 q_775 q_776 q_29 q_777) ⟨by decide, by decide, (show _ = some 0 from by decide +kernel)⟩ ⟨(Nat.le_of_ble_eq_true rfl), (Nat.le_of_ble_eq_true rfl)⟩ ixt 4 rfl rfl (hixt.trans (by rw [hfot])) rfl (Nat.le_of_ble_eq_true rfl) dL_law_2299 ⟨(show cells + 1 + 0 + 0 ≤ 603072 by omega), (show slots + 6 + 0 + 0 ≤ 7219306 by omega)⟩ (fun v8 w8 hp8 => ?_)
  obtain ⟨rfl, f3, rfl, hk3, hm3⟩ := hp8
  refine vIload X dL_law_2302 1 rfl ?_
  refine vIcmp_eqT X 2309 dL_law_2304 (by decide) rfl ?_
  have fo3 : f3 ou = .inl (k 5, 1, .inr (.inl g1)) := (hk3 ou ho1).trans ((hk2 ou ho1).trans fo1)
  have fo4 := (hk3 od ho2).trans ((hk2 od ho2).trans (((hk1 od hod).2 (Or.inr (Or.inr rfl)) (Ne.symm ho3)).trans fod))
  have hfin : lInv k o ou od x L1 f3 B' Ln' Rm' Rd' Pl' Mk' G' Sz' Kp' (nI kk9) g1 gD := ⟨hi1.foreign (fun t ht => ⟨ht, fun hz => (hk3 t (fun j hj e => hz (Or.inl ⟨j, hj, e⟩))).trans (hk2 t (fun j hj e => hz (Or.inl ⟨j, hj, e⟩)))⟩), hm3, (hk1 ou hou).1, (hk1 od hod).1, fo3, fo4, ho1, ho2, ho3⟩
  refine vIload X dL_law_2309 1 rfl ?_
  by_cases h0 : kk9 = 0
  rotate_left
  · refine vIf_neT X 2326 dL_law_2311 (by decide) (nkk h0 (by omega)) ?_
    refine vGoto X 2499 dL_law_2326 (by decide) ?_
    refine vSub [2, 3, 4, 5, 6, 7] [(5, .int (nI i)), (4, .ref od), (3, .ref ou), (2, .ref (o 0)), (1, .ref x), (0, .ref b)] rfl ?_
    refine vWiden (cells + 8) (slots + 800) (by omega) (by omega) ?_
    exact kk _ _ _ _ _ _ _ _ _ _ _ _ _ _ hfin
  · refine vIf_neF X 2326 dL_law_2311 (by decide) (by rw [h0]; rfl) ?_
    refine vAloadN X dL_law_2314 4 rfl ?_
    refine vIconst X dL_law_2315 (v := nI 0) (by decide) ?_
    refine vpLaload X (hk1 ou hou).1 fo3 5 rfl rfl (by decide) (by decide) (hg1 h0) dL_law_2316 ?_
    refine vIload X dL_law_2317 0 rfl ?_
    refine vI2l X dL_law_2319 (v := v.toInt64) rfl ?_
    refine vLcmp X dL_law_2320 ?_
    refine vIf_eqT X 2326 dL_law_2321 (by decide) (lgc_self _) ?_
    refine vGoto X 2499 dL_law_2326 (by decide) ?_
    refine vSub [2, 3, 4, 5, 6, 7] [(5, .int (nI i)), (4, .ref od), (3, .ref ou), (2, .ref (o 0)), (1, .ref x), (0, .ref b)] rfl ?_
    refine vWiden (cells + 8) (slots + 800) (by omega) (by omega) ?_
    exact kk _ _ _ _ _ _ _ _ _ _ _ _ _ _ hfin
set_option maxHeartbeats 4000000 in
theorem lw_leftShare {p : Program} {e : Env} {s : State} {m : MethodId} {below : List Frame} {meth : Method} {c : Code} (l : Launch) {D : va_G} {k : Nat → ClassId} {o : Nat → Nat} {b LL x ou od : Nat} {xs : Nat → Int32} {Q : State → Prop} (X : vCX p s m #[.ref b] meth c cL_law 9 RL (Cond.initialized "Bytewell" :: vGW) D vCl (vTy k) s.heap.size) (hE : vEL s.heap.size s) (hl : l.stackTraces = false) (hX : va_X b LL xs s s.heap) (hbl : b < s.heap.size) (hLL : LL ≤ 3072) {i : Nat} (hi : i + 6 ≤ LL) {cells slots : Nat} (hc : cells + 8 ≤ 603072) (hs : slots + 800 ≤ 7219306) {L : List Nat} {f : Nat → va_E} {B : Nat → Nat → Int32} {Ln Rm : Nat → Nat} {Rd : Nat → Option Nat} {Pl Mk : Nat → Nat} {G : Nat → Nat → Int32} {Sz : Nat → Nat} {Kp : Nat → Int32} {th : Int32} {gL : Nat → Int64} {gD : Nat → UInt64} (h : lInv k o ou od x L f B Ln Rm Rd Pl Mk G Sz Kp th gL gD) (kk : lNext p l e s m below meth c D k o b x ou od Q i cells slots) :
    vV p l e room_1 s m #[.ref b] below meth c 9 D vCl s.heap.size Q (va_pl L f) cells slots 2329 [(5, .int (nI i)), (4, .ref od), (3, .ref ou), (2, .ref (o 0)), (1, .ref x), (0, .ref b)] [] := by
  have hZ := lZ.mem h
  obtain ⟨hi0, hm0, hou, hod, fou, fod, ho1, ho2, ho3⟩ := h
  obtain ⟨kk9, v, B', Ln', Rm', Rd', Pl', Mk', G', Sz', hkk, hct, hm9, hx9⟩ := lc_leftShare l D k s.heap.size L f (lZ o ou od) x B Ln Rm Rd Pl Mk G Sz hl hi0 hZ od gD hod (Or.inr (Or.inr rfl)) fod (xs (i + 1))
  refine vAloadN X dL_law_2329 4 rfl ?_
  refine vAloadN X dL_law_2330 5 rfl ?_
  refine vIload X dL_law_2331 0 rfl ?_
  refine vIconst X dL_law_2333 (v := nI 1) (by decide) ?_
  refine vIadd X dL_law_2334 (nI_add i 1) ?_
  refine vSld X hX hbl (Nat.le_refl _) hLL (j := i + 1) rfl (by omega) dL_law_2335 ?_
  refine vAload X dL_law_2336 1 rfl ?_
  refine vCallL X hE [] hct (vGL q_700 q_701 q_23 q_702) rfl ⟨by decide, by decide, (show _ = some 3 from by decide +kernel)⟩ ⟨(Nat.le_of_ble_eq_true rfl), (Nat.le_of_ble_eq_true rfl)⟩ rfl (Nat.le_of_ble_eq_true rfl) dL_law_2338 ⟨(show cells + 1 ≤ 603072 by omega), (show slots + 6 ≤ 7219306 by omega)⟩ (fun v9 w9 hp9 => ?_)
  obtain ⟨L1, f1, g1, rfl, rfl, hk1, fo1, hg1, hi1⟩ := hp9
  refine vIstore X [(6, .int (nI kk9)), (5, .int (nI i)), (4, .ref od), (3, .ref ou), (2, .ref (o 0)), (1, .ref x), (0, .ref b)] dL_law_2341 (by decide) rfl ?_
  have hm1 : mIn k o L1 f1 B Ln Rm Rd Pl Mk G Sz Kp th := hm0.kp (fun a ha => (hk1 a ha).1) (fun j hj => (hk1 _ (hm0.1 j hj)).2 (Or.inl ⟨j, hj, rfl⟩) (fun e => ho2 j hj e.symm))
  obtain ⟨Kp', hm8⟩ := hm9 o Kp th
  have hmc := hm1.call hm8
  refine vAloadN X dL_law_2343 4 rfl ?_
  refine vAloadN X dL_law_2344 6 rfl ?_
  refine vIload X dL_law_2345 1 rfl ?_
  refine vIconst X dL_law_2347 (v := nI 1) (by decide) ?_
  refine vIadd X dL_law_2348 (nI_add i 1) ?_
  refine vSld X hX hbl (Nat.le_refl _) hLL (j := i + 1) rfl (by omega) dL_law_2349 ?_
  obtain ⟨ix, hix⟩ := vp_ix (f := f1) (hm1.1 0 (by decide))
  have hfo : f1 (o 0) = .inr (4, _) := hm1.2.2 0 (by decide)
  refine vCallV X [] hmc (vGV q_964 q_965 q_966 q_29 q_967) ⟨by decide, by decide, (show _ = some 1 from by decide +kernel)⟩ ⟨(Nat.le_of_ble_eq_true rfl), (Nat.le_of_ble_eq_true rfl)⟩ ix 4 rfl rfl (hix.trans (by rw [hfo])) rfl (Nat.le_of_ble_eq_true rfl) dL_law_2350 ⟨(show cells + 1 + 0 ≤ 603072 by omega), (show slots + 6 + 0 ≤ 7219306 by omega)⟩ (fun v8 w8 hp8 => ?_)
  obtain ⟨rfl, f2, rfl, hk2, hm2⟩ := hp8
  refine vFstore X [(7, .float v), (6, .int (nI kk9)), (5, .int (nI i)), (4, .ref od), (3, .ref ou), (2, .ref (o 0)), (1, .ref x), (0, .ref b)] dL_law_2353 (by decide) rfl ?_
  have hmt := hm2.call (fun pl => mm_thrown l D k o pl s.heap.size B' Ln' Rm' Rd' Pl' Mk' G' Sz' Kp' (nI kk9))
  refine vAloadN X dL_law_2355 5 rfl ?_
  obtain ⟨ixt, hixt⟩ := vp_ix (f := f2) (hm2.1 0 (by decide))
  have hfot : f2 (o 0) = .inr (4, _) := hm2.2.2 0 (by decide)
  refine vCallV X [] hmt (vGV q_774 q_775 q_776 q_29 q_777) ⟨by decide, by decide, (show _ = some 0 from by decide +kernel)⟩ ⟨(Nat.le_of_ble_eq_true rfl), (Nat.le_of_ble_eq_true rfl)⟩ ixt 4 rfl rfl (hixt.trans (by rw [hfot])) rfl (Nat.le_of_ble_eq_true rfl) dL_law_2356 ⟨(show cells + 1 + 0 + 0 ≤ 603072 by omega), (show slots + 6 + 0 + 0 ≤ 7219306 by omega)⟩ (fun v8 w8 hp8 => ?_)
  obtain ⟨rfl, f3, rfl, hk3, hm3⟩ := hp8
  refine vIload X dL_law_2359 1 rfl ?_
  refine vIcmp_eqT X 2366 dL_law_2361 (by decide) rfl ?_
  have fo3 : f3 od = .inl (k 6, 1, .inr (.inr (.inr (.inl g1)))) := (hk3 od ho2).trans ((hk2 od ho2).trans fo1)
  have fo4 := (hk3 ou ho1).trans ((hk2 ou ho1).trans (((hk1 ou hou).2 (Or.inr (Or.inl rfl)) ho3).trans fou))
  have hfin : lInv k o ou od x L1 f3 B' Ln' Rm' Rd' Pl' Mk' G' Sz' Kp' (nI kk9) gL g1 := ⟨hi1.foreign (fun t ht => ⟨ht, fun hz => (hk3 t (fun j hj e => hz (Or.inl ⟨j, hj, e⟩))).trans (hk2 t (fun j hj e => hz (Or.inl ⟨j, hj, e⟩)))⟩), hm3, (hk1 ou hou).1, (hk1 od hod).1, fo4, fo3, ho1, ho2, ho3⟩
  refine vIload X dL_law_2366 1 rfl ?_
  by_cases h0 : kk9 = 0
  rotate_left
  · refine vIf_neT X 2404 dL_law_2368 (by decide) (nkk h0 (by omega)) ?_
    refine vGoto X 2499 dL_law_2404 (by decide) ?_
    refine vSub [2, 3, 4, 5, 6, 7] [(5, .int (nI i)), (4, .ref od), (3, .ref ou), (2, .ref (o 0)), (1, .ref x), (0, .ref b)] rfl ?_
    refine vWiden (cells + 8) (slots + 800) (by omega) (by omega) ?_
    exact kk _ _ _ _ _ _ _ _ _ _ _ _ _ _ hfin
  · refine vIf_neF X 2404 dL_law_2368 (by decide) (by rw [h0]; rfl) ?_
    refine vAload X dL_law_2371 3 rfl ?_
    refine vIconst X dL_law_2373 (v := nI 0) (by decide) ?_
    refine vpDaload X (hk1 od hod).1 fo3 6 rfl rfl (by decide) (by decide) (hg1 h0) dL_law_2374 ?_
    refine vFload X dL_law_2375 0 rfl ?_
    refine vF2d X dL_law_2377 (hx9 h0) ?_
    refine vDcmp X dL_law_2378 ?_
    refine vIf_eqT X 2404 dL_law_2379 (by decide) (by rw [dcmp_self (hx9 h0)]; rfl) ?_
    refine vGoto X 2499 dL_law_2404 (by decide) ?_
    refine vSub [2, 3, 4, 5, 6, 7] [(5, .int (nI i)), (4, .ref od), (3, .ref ou), (2, .ref (o 0)), (1, .ref x), (0, .ref b)] rfl ?_
    refine vWiden (cells + 8) (slots + 800) (by omega) (by omega) ?_
    exact kk _ _ _ _ _ _ _ _ _ _ _ _ _ _ hfin
set_option maxHeartbeats 4000000 in
theorem lw_meanSize {p : Program} {e : Env} {s : State} {m : MethodId} {below : List Frame} {meth : Method} {c : Code} (l : Launch) {D : va_G} {k : Nat → ClassId} {o : Nat → Nat} {b LL x ou od : Nat} {xs : Nat → Int32} {Q : State → Prop} (X : vCX p s m #[.ref b] meth c cL_law 9 RL (Cond.initialized "Bytewell" :: vGW) D vCl (vTy k) s.heap.size) (hE : vEL s.heap.size s) (hl : l.stackTraces = false) (hX : va_X b LL xs s s.heap) (hbl : b < s.heap.size) (hLL : LL ≤ 3072) {i : Nat} (hi : i + 6 ≤ LL) {cells slots : Nat} (hc : cells + 8 ≤ 603072) (hs : slots + 800 ≤ 7219306) {L : List Nat} {f : Nat → va_E} {B : Nat → Nat → Int32} {Ln Rm : Nat → Nat} {Rd : Nat → Option Nat} {Pl Mk : Nat → Nat} {G : Nat → Nat → Int32} {Sz : Nat → Nat} {Kp : Nat → Int32} {th : Int32} {gL : Nat → Int64} {gD : Nat → UInt64} (h : lInv k o ou od x L f B Ln Rm Rd Pl Mk G Sz Kp th gL gD) (kk : lNext p l e s m below meth c D k o b x ou od Q i cells slots) :
    vV p l e room_1 s m #[.ref b] below meth c 9 D vCl s.heap.size Q (va_pl L f) cells slots 2407 [(5, .int (nI i)), (4, .ref od), (3, .ref ou), (2, .ref (o 0)), (1, .ref x), (0, .ref b)] [] := by
  have hZ := lZ.mem h
  obtain ⟨hi0, hm0, hou, hod, fou, fod, ho1, ho2, ho3⟩ := h
  obtain ⟨kk9, v, B', Ln', Rm', Rd', Pl', Mk', G', Sz', hkk, hct, hm9, hx9⟩ := lc_meanSize l D k s.heap.size L f (lZ o ou od) x B Ln Rm Rd Pl Mk G Sz hl hi0 hZ od gD hod (Or.inr (Or.inr rfl)) fod 
  refine vAloadN X dL_law_2407 4 rfl ?_
  refine vAload X dL_law_2408 1 rfl ?_
  refine vCallL X hE [] hct (vGL q_728 q_729 q_23 q_730) rfl ⟨by decide, by decide, (show _ = some 2 from by decide +kernel)⟩ ⟨(Nat.le_of_ble_eq_true rfl), (Nat.le_of_ble_eq_true rfl)⟩ rfl (Nat.le_of_ble_eq_true rfl) dL_law_2410 ⟨(show cells + 1 ≤ 603072 by omega), (show slots + 6 ≤ 7219306 by omega)⟩ (fun v9 w9 hp9 => ?_)
  obtain ⟨L1, f1, g1, rfl, rfl, hk1, fo1, hg1, hi1⟩ := hp9
  refine vIstore X [(6, .int (nI kk9)), (5, .int (nI i)), (4, .ref od), (3, .ref ou), (2, .ref (o 0)), (1, .ref x), (0, .ref b)] dL_law_2413 (by decide) rfl ?_
  have hm1 : mIn k o L1 f1 B Ln Rm Rd Pl Mk G Sz Kp th := hm0.kp (fun a ha => (hk1 a ha).1) (fun j hj => (hk1 _ (hm0.1 j hj)).2 (Or.inl ⟨j, hj, rfl⟩) (fun e => ho2 j hj e.symm))
  obtain ⟨Kp', hm8⟩ := hm9 o Kp th
  have hmc := hm1.call hm8
  refine vAloadN X dL_law_2415 4 rfl ?_
  obtain ⟨ix, hix⟩ := vp_ix (f := f1) (hm1.1 0 (by decide))
  have hfo : f1 (o 0) = .inr (4, _) := hm1.2.2 0 (by decide)
  refine vCallV X [] hmc (vGV q_968 q_969 q_970 q_29 q_971) ⟨by decide, by decide, (show _ = some 0 from by decide +kernel)⟩ ⟨(Nat.le_of_ble_eq_true rfl), (Nat.le_of_ble_eq_true rfl)⟩ ix 4 rfl rfl (hix.trans (by rw [hfo])) rfl (Nat.le_of_ble_eq_true rfl) dL_law_2416 ⟨(show cells + 1 + 0 ≤ 603072 by omega), (show slots + 6 + 0 ≤ 7219306 by omega)⟩ (fun v8 w8 hp8 => ?_)
  obtain ⟨rfl, f2, rfl, hk2, hm2⟩ := hp8
  refine vDstore X [(7, .double v), (6, .int (nI kk9)), (5, .int (nI i)), (4, .ref od), (3, .ref ou), (2, .ref (o 0)), (1, .ref x), (0, .ref b)] dL_law_2419 (by decide) rfl ?_
  have hmt := hm2.call (fun pl => mm_thrown l D k o pl s.heap.size B' Ln' Rm' Rd' Pl' Mk' G' Sz' Kp' (nI kk9))
  refine vAloadN X dL_law_2421 5 rfl ?_
  obtain ⟨ixt, hixt⟩ := vp_ix (f := f2) (hm2.1 0 (by decide))
  have hfot : f2 (o 0) = .inr (4, _) := hm2.2.2 0 (by decide)
  refine vCallV X [] hmt (vGV q_774 q_775 q_776 q_29 q_777) ⟨by decide, by decide, (show _ = some 0 from by decide +kernel)⟩ ⟨(Nat.le_of_ble_eq_true rfl), (Nat.le_of_ble_eq_true rfl)⟩ ixt 4 rfl rfl (hixt.trans (by rw [hfot])) rfl (Nat.le_of_ble_eq_true rfl) dL_law_2422 ⟨(show cells + 1 + 0 + 0 ≤ 603072 by omega), (show slots + 6 + 0 + 0 ≤ 7219306 by omega)⟩ (fun v8 w8 hp8 => ?_)
  obtain ⟨rfl, f3, rfl, hk3, hm3⟩ := hp8
  refine vIload X dL_law_2425 1 rfl ?_
  refine vIcmp_eqT X 2432 dL_law_2427 (by decide) rfl ?_
  have fo3 : f3 od = .inl (k 6, 1, .inr (.inr (.inr (.inl g1)))) := (hk3 od ho2).trans ((hk2 od ho2).trans fo1)
  have fo4 := (hk3 ou ho1).trans ((hk2 ou ho1).trans (((hk1 ou hou).2 (Or.inr (Or.inl rfl)) ho3).trans fou))
  have hfin : lInv k o ou od x L1 f3 B' Ln' Rm' Rd' Pl' Mk' G' Sz' Kp' (nI kk9) gL g1 := ⟨hi1.foreign (fun t ht => ⟨ht, fun hz => (hk3 t (fun j hj e => hz (Or.inl ⟨j, hj, e⟩))).trans (hk2 t (fun j hj e => hz (Or.inl ⟨j, hj, e⟩)))⟩), hm3, (hk1 ou hou).1, (hk1 od hod).1, fo4, fo3, ho1, ho2, ho3⟩
  refine vIload X dL_law_2432 1 rfl ?_
  by_cases h0 : kk9 = 0
  rotate_left
  · refine vIf_neT X 2469 dL_law_2434 (by decide) (nkk h0 (by omega)) ?_
    refine vGoto X 2499 dL_law_2469 (by decide) ?_
    refine vSub [2, 3, 4, 5, 6, 7] [(5, .int (nI i)), (4, .ref od), (3, .ref ou), (2, .ref (o 0)), (1, .ref x), (0, .ref b)] rfl ?_
    refine vWiden (cells + 8) (slots + 800) (by omega) (by omega) ?_
    exact kk _ _ _ _ _ _ _ _ _ _ _ _ _ _ hfin
  · refine vIf_neF X 2469 dL_law_2434 (by decide) (by rw [h0]; rfl) ?_
    refine vAload X dL_law_2437 3 rfl ?_
    refine vIconst X dL_law_2439 (v := nI 0) (by decide) ?_
    refine vpDaload X (hk1 od hod).1 fo3 6 rfl rfl (by decide) (by decide) (hg1 h0) dL_law_2440 ?_
    refine vDload X dL_law_2441 0 rfl ?_
    refine vDcmp X dL_law_2443 ?_
    refine vIf_eqT X 2469 dL_law_2444 (by decide) (by rw [dcmp_self (hx9 h0)]; rfl) ?_
    refine vGoto X 2499 dL_law_2469 (by decide) ?_
    refine vSub [2, 3, 4, 5, 6, 7] [(5, .int (nI i)), (4, .ref od), (3, .ref ou), (2, .ref (o 0)), (1, .ref x), (0, .ref b)] rfl ?_
    refine vWiden (cells + 8) (slots + 800) (by omega) (by omega) ?_
    exact kk _ _ _ _ _ _ _ _ _ _ _ _ _ _ hfin
set_option maxHeartbeats 4000000 in
theorem lw_checksum {p : Program} {e : Env} {s : State} {m : MethodId} {below : List Frame} {meth : Method} {c : Code} (l : Launch) {D : va_G} {k : Nat → ClassId} {o : Nat → Nat} {b LL x ou od : Nat} {xs : Nat → Int32} {Q : State → Prop} (X : vCX p s m #[.ref b] meth c cL_law 9 RL (Cond.initialized "Bytewell" :: vGW) D vCl (vTy k) s.heap.size) (hE : vEL s.heap.size s) (hl : l.stackTraces = false) (hX : va_X b LL xs s s.heap) (hbl : b < s.heap.size) (hLL : LL ≤ 3072) {i : Nat} (hi : i + 6 ≤ LL) {cells slots : Nat} (hc : cells + 8 ≤ 603072) (hs : slots + 800 ≤ 7219306) {L : List Nat} {f : Nat → va_E} {B : Nat → Nat → Int32} {Ln Rm : Nat → Nat} {Rd : Nat → Option Nat} {Pl Mk : Nat → Nat} {G : Nat → Nat → Int32} {Sz : Nat → Nat} {Kp : Nat → Int32} {th : Int32} {gL : Nat → Int64} {gD : Nat → UInt64} (h : lInv k o ou od x L f B Ln Rm Rd Pl Mk G Sz Kp th gL gD) (kk : lNext p l e s m below meth c D k o b x ou od Q i cells slots) :
    vV p l e room_1 s m #[.ref b] below meth c 9 D vCl s.heap.size Q (va_pl L f) cells slots 2472 [(5, .int (nI i)), (4, .ref od), (3, .ref ou), (2, .ref (o 0)), (1, .ref x), (0, .ref b)] [] := by
  have hZ := lZ.mem h
  obtain ⟨hi0, hm0, hou, hod, fou, fod, ho1, ho2, ho3⟩ := h
  obtain ⟨kk9, v, B', Ln', Rm', Rd', Pl', Mk', G', Sz', hkk, hc9, hm9⟩ := cl_checksum l D k s.heap.size L f (lZ o ou od) x B Ln Rm Rd Pl Mk G Sz hl hi0 hZ
  rcases hc9 with ⟨rfl, hct⟩ | ⟨-, hno, -⟩
  rotate_left
  · exact hno.elim
  obtain ⟨hxL, fs9, fx9⟩ := hi0.obj
  obtain ⟨ix0, hix0⟩ := vp_ix (f := f) hxL
  refine vAloadN X dL_law_2472 4 rfl ?_
  refine vCallV X [] hct (vGV q_125 q_126 q_127 q_24 q_128) ⟨by decide, by decide, (show _ = some 0 from by decide +kernel)⟩ ⟨(Nat.le_of_ble_eq_true rfl), (Nat.le_of_ble_eq_true rfl)⟩ ix0 3 rfl rfl (hix0.trans (by rw [fx9])) rfl (Nat.le_of_ble_eq_true rfl) dL_law_2473 ⟨(show cells + 0 ≤ 603072 by omega), (show slots + 0 ≤ 7219306 by omega)⟩ (fun v9 w9 hp9 => ?_)
  obtain ⟨L1, f1, rfl, rfl, hk1, hi1⟩ := hp9
  have hm1 : mIn k o L1 f1 B Ln Rm Rd Pl Mk G Sz Kp th := hm0.kp (fun a ha => (hk1 a ha).1) (fun j hj => (hk1 _ (hm0.1 j hj)).2 (Or.inl ⟨j, hj, rfl⟩))
  obtain ⟨Kp', hm8⟩ := hm9 o Kp th
  have hmc := hm1.call hm8
  refine vAloadN X dL_law_2476 3 rfl ?_
  obtain ⟨ix, hix⟩ := vp_ix (f := f1) (hm1.1 0 (by decide))
  have hfo : f1 (o 0) = .inr (4, _) := hm1.2.2 0 (by decide)
  refine vCallV X [.long v] hmc (vGV q_972 q_973 q_974 q_29 q_975) ⟨by decide, by decide, (show _ = some 0 from by decide +kernel)⟩ ⟨(Nat.le_of_ble_eq_true rfl), (Nat.le_of_ble_eq_true rfl)⟩ ix 4 rfl rfl (hix.trans (by rw [hfo])) rfl (Nat.le_of_ble_eq_true rfl) dL_law_2477 ⟨(show cells + 0 + 0 ≤ 603072 by omega), (show slots + 0 + 0 ≤ 7219306 by omega)⟩ (fun v8 w8 hp8 => ?_)
  obtain ⟨rfl, f2, rfl, hk2, hm2⟩ := hp8
  have hfin : lInv k o ou od x L1 f2 B' Ln' Rm' Rd' Pl' Mk' G' Sz' Kp' (nI 0) gL gD := ⟨hi1.foreign (fun t ht => ⟨ht, fun hz => hk2 t (fun j hj e => hz (Or.inl ⟨j, hj, e⟩))⟩), hm2, (hk1 ou hou).1, (hk1 od hod).1, (hk2 ou ho1).trans (((hk1 ou hou).2 (Or.inr (Or.inl rfl))).trans fou), (hk2 od ho2).trans (((hk1 od hod).2 (Or.inr (Or.inr rfl))).trans fod), ho1, ho2, ho3⟩
  refine vLcmp X dL_law_2480 ?_
  refine vIf_eqT X 2499 dL_law_2481 (by decide) (lgc_self _) ?_
  refine vWiden (cells + 8) (slots + 800) (by omega) (by omega) ?_
  exact kk _ _ _ _ _ _ _ _ _ _ _ _ _ _ hfin
set_option maxHeartbeats 4000000 in
theorem lw_isTrue {p : Program} {e : Env} {s : State} {m : MethodId} {below : List Frame} {meth : Method} {c : Code} (l : Launch) {D : va_G} {k : Nat → ClassId} {o : Nat → Nat} {b LL x ou od : Nat} {xs : Nat → Int32} {Q : State → Prop} (X : vCX p s m #[.ref b] meth c cL_law 9 RL (Cond.initialized "Bytewell" :: vGW) D vCl (vTy k) s.heap.size) (hE : vEL s.heap.size s) (hl : l.stackTraces = false) (hX : va_X b LL xs s s.heap) (hbl : b < s.heap.size) (hLL : LL ≤ 3072) {i : Nat} (hi : i + 6 ≤ LL) {cells slots : Nat} (hc : cells + 8 ≤ 603072) (hs : slots + 800 ≤ 7219306) {L : List Nat} {f : Nat → va_E} {B : Nat → Nat → Int32} {Ln Rm : Nat → Nat} {Rd : Nat → Option Nat} {Pl Mk : Nat → Nat} {G : Nat → Nat → Int32} {Sz : Nat → Nat} {Kp : Nat → Int32} {th : Int32} {gL : Nat → Int64} {gD : Nat → UInt64} (h : lInv k o ou od x L f B Ln Rm Rd Pl Mk G Sz Kp th gL gD) (kk : lNext p l e s m below meth c D k o b x ou od Q i cells slots) :
    vV p l e room_1 s m #[.ref b] below meth c 9 D vCl s.heap.size Q (va_pl L f) cells slots 2486 [(5, .int (nI i)), (4, .ref od), (3, .ref ou), (2, .ref (o 0)), (1, .ref x), (0, .ref b)] [] := by
  have hZ := lZ.mem h
  obtain ⟨hi0, hm0, hou, hod, fou, fod, ho1, ho2, ho3⟩ := h
  obtain ⟨kk9, v, B', Ln', Rm', Rd', Pl', Mk', G', Sz', hkk, hc9, hm9⟩ := cl_isTrue l D k s.heap.size L f (lZ o ou od) x B Ln Rm Rd Pl Mk G Sz hl hi0 hZ
  rcases hc9 with ⟨rfl, hct⟩ | ⟨-, hno, -⟩
  rotate_left
  · exact hno.elim
  obtain ⟨hxL, fs9, fx9⟩ := hi0.obj
  obtain ⟨ix0, hix0⟩ := vp_ix (f := f) hxL
  refine vAloadN X dL_law_2486 4 rfl ?_
  refine vCallV X [] hct (vGV q_166 q_167 q_168 q_24 q_169) ⟨by decide, by decide, (show _ = some 0 from by decide +kernel)⟩ ⟨(Nat.le_of_ble_eq_true rfl), (Nat.le_of_ble_eq_true rfl)⟩ ix0 3 rfl rfl (hix0.trans (by rw [fx9])) rfl (Nat.le_of_ble_eq_true rfl) dL_law_2487 ⟨(show cells + 6 ≤ 603072 by omega), (show slots + 771 ≤ 7219306 by omega)⟩ (fun v9 w9 hp9 => ?_)
  obtain ⟨L1, f1, rfl, rfl, hk1, hi1⟩ := hp9
  have hm1 : mIn k o L1 f1 B Ln Rm Rd Pl Mk G Sz Kp th := hm0.kp (fun a ha => (hk1 a ha).1) (fun j hj => (hk1 _ (hm0.1 j hj)).2 (Or.inl ⟨j, hj, rfl⟩))
  obtain ⟨Kp', hm8⟩ := hm9 o Kp th
  have hmc := hm1.call hm8
  refine vAloadN X dL_law_2490 3 rfl ?_
  obtain ⟨ix, hix⟩ := vp_ix (f := f1) (hm1.1 0 (by decide))
  have hfo : f1 (o 0) = .inr (4, _) := hm1.2.2 0 (by decide)
  refine vCallV X [.int v] hmc (vGV q_978 q_979 q_980 q_29 q_981) ⟨by decide, by decide, (show _ = some 0 from by decide +kernel)⟩ ⟨(Nat.le_of_ble_eq_true rfl), (Nat.le_of_ble_eq_true rfl)⟩ ix 4 rfl rfl (hix.trans (by rw [hfo])) rfl (Nat.le_of_ble_eq_true rfl) dL_law_2491 ⟨(show cells + 6 + 0 ≤ 603072 by omega), (show slots + 771 + 0 ≤ 7219306 by omega)⟩ (fun v8 w8 hp8 => ?_)
  obtain ⟨rfl, f2, rfl, hk2, hm2⟩ := hp8
  have hfin : lInv k o ou od x L1 f2 B' Ln' Rm' Rd' Pl' Mk' G' Sz' Kp' (nI 0) gL gD := ⟨hi1.foreign (fun t ht => ⟨ht, fun hz => hk2 t (fun j hj e => hz (Or.inl ⟨j, hj, e⟩))⟩), hm2, (hk1 ou hou).1, (hk1 od hod).1, (hk2 ou ho1).trans (((hk1 ou hou).2 (Or.inr (Or.inl rfl))).trans fou), (hk2 od ho2).trans (((hk1 od hod).2 (Or.inr (Or.inr rfl))).trans fod), ho1, ho2, ho3⟩
  refine vIcmp_eqT X 2499 dL_law_2494 (by decide) rfl ?_
  refine vWiden (cells + 8) (slots + 800) (by omega) (by omega) ?_
  exact kk _ _ _ _ _ _ _ _ _ _ _ _ _ _ hfin
