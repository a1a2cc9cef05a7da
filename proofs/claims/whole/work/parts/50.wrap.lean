def wPost (k : Nat → ClassId) (L : List Nat) (f : Nat → va_E) (Z : Nat → Prop) (x ou kk : Nat) (v : Int64) (B : Nat → Nat → Int32) (Ln Rm : Nat → Nat) (Rd : Nat → Option Nat) (Pl Mk : Nat → Nat) (G : Nat → Nat → Int32) (Sz : Nat → Nat) : Option Value → va_W → Prop := fun w ws' =>
  ∃ (L' : List Nat) (f' : Nat → va_E) (g' : Nat → Int64), w = some (.int (nI kk)) ∧ ws' = va_pl L' f' ∧ (∀ a, a ∈ L → a ∈ L' ∧ (Z a → a ≠ ou → f' a = f a)) ∧ f' ou = .inl (k 5, 1, .inr (.inl g')) ∧ (kk = 0 → g' 0 = v) ∧ cInv k L' f' Z x B Ln Rm Rd Pl Mk G Sz
def wPostD (k : Nat → ClassId) (L : List Nat) (f : Nat → va_E) (Z : Nat → Prop) (x ou kk : Nat) (v : UInt64) (B : Nat → Nat → Int32) (Ln Rm : Nat → Nat) (Rd : Nat → Option Nat) (Pl Mk : Nat → Nat) (G : Nat → Nat → Int32) (Sz : Nat → Nat) : Option Value → va_W → Prop := fun w ws' =>
  ∃ (L' : List Nat) (f' : Nat → va_E) (g' : Nat → UInt64), w = some (.int (nI kk)) ∧ ws' = va_pl L' f' ∧ (∀ a, a ∈ L → a ∈ L' ∧ (Z a → a ≠ ou → f' a = f a)) ∧ f' ou = .inl (k 6, 1, .inr (.inr (.inr (.inl g')))) ∧ (kk = 0 → g' 0 = v) ∧ cInv k L' f' Z x B Ln Rm Rd Pl Mk G Sz
def bL (v : Int32) : Int64 := if v = 0 then 0 else 1
set_option maxHeartbeats 4000000 in
theorem lc_make (l : Launch) (D : va_G) (k : Nat → ClassId) (sb : Nat) (L : List Nat) (f : Nat → va_E) (Z : Nat → Prop) (x : Nat) (B : Nat → Nat → Int32) (Ln Rm : Nat → Nat) (Rd : Nat → Option Nat) (Pl Mk : Nat → Nat) (G : Nat → Nat → Int32) (Sz : Nat → Nat) (hl : l.stackTraces = false) (h : cInv k L f Z x B Ln Rm Rd Pl Mk G Sz) (hZ : ∀ a, Z a → a ∈ L) (ou : Nat) (g0 : Nat → Int64) (hou : ou ∈ L) (hzo : Z ou) (fou : f ou = .inl (k 5, 1, .inr (.inl g0))) (p0 : Int32) (p1 : Int32) : ∃ (kk : Nat) (v : Int32) (B' : Nat → Nat → Int32) (Ln' Rm' : Nat → Nat) (Rd' : Nat → Option Nat) (Pl' Mk' : Nat → Nat) (G' : Nat → Nat → Int32) (Sz' : Nat → Nat), kk ≤ 2 ∧ vCtL l yL_make cL_make 5 [(0, 10, 13, 13), (0, 10, 17, 15)] 11 175 2 257 D vCl (vTy k) sb [.ref x, .int p0, .int p1, .ref ou] (va_pl L f) (wPost k L f Z x ou kk (v.toInt64) B' Ln' Rm' Rd' Pl' Mk' G' Sz') ∧ (∀ (o : Nat → Nat) (Kp : Nat → Int32) (th : Int32), ∃ Kp' : Nat → Int32, ∀ pl : va_W, vCt l yX4_make cX4_make 5 (some .int) 2 47 0 0 D vCl (vTy k) sb [.ref (o 0), .int p0, .int p1] (mW k o pl B Ln Rm Rd Pl Mk G Sz Kp th) (vDet (some (.int v)) (mW k o pl B' Ln' Rm' Rd' Pl' Mk' G' Sz' Kp' (nI kk)))) := by
  obtain ⟨kk, v, B', Ln', Rm', Rd', Pl', Mk', G', Sz', hkk, hc, hm⟩ := cl_make l D k sb L f Z x B Ln Rm Rd Pl Mk G Sz hl h hZ p0 p1
  refine ⟨kk, v, B', Ln', Rm', Rd', Pl', Mk', G', Sz', hkk, ?_, hm⟩
  obtain ⟨hxL, fs, fx⟩ := h.obj
  obtain ⟨ix, hix⟩ := vp_ix (f := f) hxL
  refine vOfL (by decide +kernel) (Nat.le_of_ble_eq_true rfl) (fun p9 e9 s9 m9 below9 meth9 c9 X hret htab hE => ?_)
  refine vAloadN X dL_make_0 3 rfl ?_
  refine vIconst X dL_make_1 (v := nI 0) (by decide) ?_
  refine vAloadN X dL_make_2 0 rfl ?_
  refine vIloadN X dL_make_3 1 rfl ?_
  refine vIloadN X dL_make_4 2 rfl ?_
  rcases hc with ⟨rfl, hc⟩ | ⟨hpos, hcx, hinv⟩
  · refine vCallV X [.int (nI 0), .ref ou] hc (vGV q_337 q_338 q_339 q_24 q_340) ⟨by decide, by decide, (show _ = some 2 from by decide +kernel)⟩ ⟨(Nat.le_of_ble_eq_true rfl), (Nat.le_of_ble_eq_true rfl)⟩ ix 3 rfl rfl (hix.trans (by rw [fx])) rfl (Nat.le_of_ble_eq_true rfl) dL_make_5 ⟨(Nat.le_of_ble_eq_true rfl), (Nat.le_of_ble_eq_true rfl)⟩ (fun v9 w9 hp9 => ?_)
    obtain ⟨L1, f1, rfl, rfl, hk1, hi1⟩ := hp9
    refine vI2l X dL_make_8 (v := v.toInt64) rfl ?_
    refine vpLastore X (hk1 ou hou).1 (((hk1 ou hou).2 hzo).trans fou) 5 rfl rfl (by decide) (by decide) (g' := vp_updL g0 0 (v.toInt64)) rfl dL_make_9 ?_
    refine vGoto X 21 dL_make_10 (by decide) ?_
    refine vIconst X dL_make_21 (v := nI 0) (by decide) ?_
    refine vWiden 2 257 (Nat.le_of_ble_eq_true rfl) (Nat.le_of_ble_eq_true rfl) ?_
    exact vRetIL X hret dL_make_22 ⟨L1, _, _, rfl, rfl, (fun a ha => ⟨(hk1 a ha).1, fun hz hn => (va_up_nq _ hn).trans ((hk1 a ha).2 hz)⟩), va_up_eq _ _ _, fun _ => rfl, hi1.foreign (fun t ht => ⟨ht, fun hz => va_up_nq _ (fun e => hz (by rw [e]; exact hzo))⟩)⟩
  · rcases (show kk = 1 ∨ kk = 2 by omega) with rfl | rfl
    · have hcx9 : vCtX l yX3_make cX3_make 4 (some .int) 10 152 1 6 D vCl (vTy k) sb [.ref x, .int p0, .int p1] (va_pl L f) "java/lang/IndexOutOfBoundsException" := hcx
      refine vCatch X hE [.int (nI 0), .ref ou] hcx9 (vGV q_337 q_338 q_339 q_24 q_340) ⟨by decide, by decide, (show _ = some 2 from by decide +kernel)⟩ ⟨(Nat.le_of_ble_eq_true rfl), (Nat.le_of_ble_eq_true rfl)⟩ ix 3 rfl rfl (hix.trans (by rw [fx])) rfl (Nat.le_of_ble_eq_true rfl) dL_make_5 ⟨(Nat.le_of_ble_eq_true rfl), (Nat.le_of_ble_eq_true rfl)⟩ [] (⟨0, 10, 13, 13⟩ : ExceptionTableEntry) [(⟨0, 10, 17, 15⟩ : ExceptionTableEntry)] (htab.trans rfl) (fun _ hz => absurd hz List.not_mem_nil) (by decide) (by decide) (name := "java/lang/IndexOutOfBoundsException") (List.mem_cons_of_mem _ q_257) t_351 (fun a9 => ?_)
      refine vPc (pc' := 13) rfl ?_
      refine vAstore X _ dL_make_13 (by decide) rfl ?_
      refine vIconst X dL_make_15 (v := nI 1) (by decide) ?_
      refine vWiden 2 257 (Nat.le_of_ble_eq_true rfl) (Nat.le_of_ble_eq_true rfl) ?_
      exact vRetIL X hret dL_make_16 ⟨L, f, g0, rfl, rfl, (fun a ha => ⟨ha, fun _ _ => rfl⟩), fou, fun e => absurd e (by decide), hinv⟩
    · have hcx9 : vCtX l yX3_make cX3_make 4 (some .int) 10 152 1 6 D vCl (vTy k) sb [.ref x, .int p0, .int p1] (va_pl L f) "java/lang/IllegalArgumentException" := hcx
      refine vCatch X hE [.int (nI 0), .ref ou] hcx9 (vGV q_337 q_338 q_339 q_24 q_340) ⟨by decide, by decide, (show _ = some 2 from by decide +kernel)⟩ ⟨(Nat.le_of_ble_eq_true rfl), (Nat.le_of_ble_eq_true rfl)⟩ ix 3 rfl rfl (hix.trans (by rw [fx])) rfl (Nat.le_of_ble_eq_true rfl) dL_make_5 ⟨(Nat.le_of_ble_eq_true rfl), (Nat.le_of_ble_eq_true rfl)⟩ [(⟨0, 10, 13, 13⟩ : ExceptionTableEntry)] (⟨0, 10, 17, 15⟩ : ExceptionTableEntry) [] (htab.trans rfl) (List.forall_mem_cons.mpr ⟨⟨by decide, _, List.mem_cons_of_mem _ q_257, by decide⟩, (fun _ hz => absurd hz List.not_mem_nil)⟩) (by decide) (by decide) (name := "java/lang/IllegalArgumentException") (List.mem_cons_of_mem _ q_336) t_364 (fun a9 => ?_)
      refine vPc (pc' := 17) rfl ?_
      refine vAstore X _ dL_make_17 (by decide) rfl ?_
      refine vIconst X dL_make_19 (v := nI 2) (by decide) ?_
      refine vWiden 2 257 (Nat.le_of_ble_eq_true rfl) (Nat.le_of_ble_eq_true rfl) ?_
      exact vRetIL X hret dL_make_20 ⟨L, f, g0, rfl, rfl, (fun a ha => ⟨ha, fun _ _ => rfl⟩), fou, fun e => absurd e (by decide), hinv⟩
set_option maxHeartbeats 4000000 in
theorem lc_lend (l : Launch) (D : va_G) (k : Nat → ClassId) (sb : Nat) (L : List Nat) (f : Nat → va_E) (Z : Nat → Prop) (x : Nat) (B : Nat → Nat → Int32) (Ln Rm : Nat → Nat) (Rd : Nat → Option Nat) (Pl Mk : Nat → Nat) (G : Nat → Nat → Int32) (Sz : Nat → Nat) (hl : l.stackTraces = false) (h : cInv k L f Z x B Ln Rm Rd Pl Mk G Sz) (hZ : ∀ a, Z a → a ∈ L) (ou : Nat) (g0 : Nat → Int64) (hou : ou ∈ L) (hzo : Z ou) (fou : f ou = .inl (k 5, 1, .inr (.inl g0))) (p0 : Int32) (p1 : Int32) : ∃ (kk : Nat) (v : Int32) (B' : Nat → Nat → Int32) (Ln' Rm' : Nat → Nat) (Rd' : Nat → Option Nat) (Pl' Mk' : Nat → Nat) (G' : Nat → Nat → Int32) (Sz' : Nat → Nat), kk ≤ 1 ∧ vCtL l yL_lend cL_lend 5 [(0, 10, 13, 13)] 11 176 1 6 D vCl (vTy k) sb [.ref x, .int p0, .int p1, .ref ou] (va_pl L f) (wPost k L f Z x ou kk (v.toInt64) B' Ln' Rm' Rd' Pl' Mk' G' Sz') ∧ (∀ (o : Nat → Nat) (Kp : Nat → Int32) (th : Int32), ∃ Kp' : Nat → Int32, ∀ pl : va_W, vCt l yX4_lend cX4_lend 4 (some .int) 1 21 0 0 D vCl (vTy k) sb [.ref (o 0), .int p0, .int p1] (mW k o pl B Ln Rm Rd Pl Mk G Sz Kp th) (vDet (some (.int v)) (mW k o pl B' Ln' Rm' Rd' Pl' Mk' G' Sz' Kp' (nI kk)))) := by
  obtain ⟨kk, v, B', Ln', Rm', Rd', Pl', Mk', G', Sz', hkk, hc, hm⟩ := cl_lend l D k sb L f Z x B Ln Rm Rd Pl Mk G Sz hl h hZ p0 p1
  refine ⟨kk, v, B', Ln', Rm', Rd', Pl', Mk', G', Sz', hkk, ?_, hm⟩
  obtain ⟨hxL, fs, fx⟩ := h.obj
  obtain ⟨ix, hix⟩ := vp_ix (f := f) hxL
  refine vOfL (by decide +kernel) (Nat.le_of_ble_eq_true rfl) (fun p9 e9 s9 m9 below9 meth9 c9 X hret htab hE => ?_)
  refine vAloadN X dL_lend_0 3 rfl ?_
  refine vIconst X dL_lend_1 (v := nI 0) (by decide) ?_
  refine vAloadN X dL_lend_2 0 rfl ?_
  refine vIloadN X dL_lend_3 1 rfl ?_
  refine vIloadN X dL_lend_4 2 rfl ?_
  rcases hc with ⟨rfl, hc⟩ | ⟨hpos, hcx, hinv⟩
  · refine vCallV X [.int (nI 0), .ref ou] hc (vGV q_381 q_382 q_383 q_24 q_384) ⟨by decide, by decide, (show _ = some 2 from by decide +kernel)⟩ ⟨(Nat.le_of_ble_eq_true rfl), (Nat.le_of_ble_eq_true rfl)⟩ ix 3 rfl rfl (hix.trans (by rw [fx])) rfl (Nat.le_of_ble_eq_true rfl) dL_lend_5 ⟨(Nat.le_of_ble_eq_true rfl), (Nat.le_of_ble_eq_true rfl)⟩ (fun v9 w9 hp9 => ?_)
    obtain ⟨L1, f1, rfl, rfl, hk1, hi1⟩ := hp9
    refine vI2l X dL_lend_8 (v := v.toInt64) rfl ?_
    refine vpLastore X (hk1 ou hou).1 (((hk1 ou hou).2 hzo).trans fou) 5 rfl rfl (by decide) (by decide) (g' := vp_updL g0 0 (v.toInt64)) rfl dL_lend_9 ?_
    refine vGoto X 17 dL_lend_10 (by decide) ?_
    refine vIconst X dL_lend_17 (v := nI 0) (by decide) ?_
    refine vWiden 1 6 (Nat.le_of_ble_eq_true rfl) (Nat.le_of_ble_eq_true rfl) ?_
    exact vRetIL X hret dL_lend_18 ⟨L1, _, _, rfl, rfl, (fun a ha => ⟨(hk1 a ha).1, fun hz hn => (va_up_nq _ hn).trans ((hk1 a ha).2 hz)⟩), va_up_eq _ _ _, fun _ => rfl, hi1.foreign (fun t ht => ⟨ht, fun hz => va_up_nq _ (fun e => hz (by rw [e]; exact hzo))⟩)⟩
  · obtain rfl : kk = 1 := by omega
    have hcx9 : vCtX l yX3_lend cX3_lend 5 (some .int) 10 152 1 6 D vCl (vTy k) sb [.ref x, .int p0, .int p1] (va_pl L f) "java/lang/IndexOutOfBoundsException" := hcx
    refine vCatch X hE [.int (nI 0), .ref ou] hcx9 (vGV q_381 q_382 q_383 q_24 q_384) ⟨by decide, by decide, (show _ = some 2 from by decide +kernel)⟩ ⟨(Nat.le_of_ble_eq_true rfl), (Nat.le_of_ble_eq_true rfl)⟩ ix 3 rfl rfl (hix.trans (by rw [fx])) rfl (Nat.le_of_ble_eq_true rfl) dL_lend_5 ⟨(Nat.le_of_ble_eq_true rfl), (Nat.le_of_ble_eq_true rfl)⟩ [] (⟨0, 10, 13, 13⟩ : ExceptionTableEntry) [] (htab.trans rfl) (fun _ hz => absurd hz List.not_mem_nil) (by decide) (by decide) (name := "java/lang/IndexOutOfBoundsException") (List.mem_cons_of_mem _ q_257) t_351 (fun a9 => ?_)
    refine vPc (pc' := 13) rfl ?_
    refine vAstore X _ dL_lend_13 (by decide) rfl ?_
    refine vIconst X dL_lend_15 (v := nI 1) (by decide) ?_
    refine vWiden 1 6 (Nat.le_of_ble_eq_true rfl) (Nat.le_of_ble_eq_true rfl) ?_
    exact vRetIL X hret dL_lend_16 ⟨L, f, g0, rfl, rfl, (fun a ha => ⟨ha, fun _ _ => rfl⟩), fou, fun e => absurd e (by decide), hinv⟩
set_option maxHeartbeats 4000000 in
theorem lc_length (l : Launch) (D : va_G) (k : Nat → ClassId) (sb : Nat) (L : List Nat) (f : Nat → va_E) (Z : Nat → Prop) (x : Nat) (B : Nat → Nat → Int32) (Ln Rm : Nat → Nat) (Rd : Nat → Option Nat) (Pl Mk : Nat → Nat) (G : Nat → Nat → Int32) (Sz : Nat → Nat) (hl : l.stackTraces = false) (h : cInv k L f Z x B Ln Rm Rd Pl Mk G Sz) (hZ : ∀ a, Z a → a ∈ L) (ou : Nat) (g0 : Nat → Int64) (hou : ou ∈ L) (hzo : Z ou) (fou : f ou = .inl (k 5, 1, .inr (.inl g0))) (p0 : Int32) : ∃ (kk : Nat) (v : Int32) (B' : Nat → Nat → Int32) (Ln' Rm' : Nat → Nat) (Rd' : Nat → Option Nat) (Pl' Mk' : Nat → Nat) (G' : Nat → Nat → Int32) (Sz' : Nat → Nat), kk ≤ 1 ∧ vCtL l yL_length cL_length 4 [(0, 9, 12, 13)] 11 173 1 6 D vCl (vTy k) sb [.ref x, .int p0, .ref ou] (va_pl L f) (wPost k L f Z x ou kk (v.toInt64) B' Ln' Rm' Rd' Pl' Mk' G' Sz') ∧ (∀ (o : Nat → Nat) (Kp : Nat → Int32) (th : Int32), ∃ Kp' : Nat → Int32, ∀ pl : va_W, vCt l yX4_length cX4_length 2 (some .int) 1 21 0 0 D vCl (vTy k) sb [.ref (o 0), .int p0] (mW k o pl B Ln Rm Rd Pl Mk G Sz Kp th) (vDet (some (.int v)) (mW k o pl B' Ln' Rm' Rd' Pl' Mk' G' Sz' Kp' (nI kk)))) := by
  obtain ⟨kk, v, B', Ln', Rm', Rd', Pl', Mk', G', Sz', hkk, hc, hm⟩ := cl_length l D k sb L f Z x B Ln Rm Rd Pl Mk G Sz hl h hZ p0
  refine ⟨kk, v, B', Ln', Rm', Rd', Pl', Mk', G', Sz', hkk, ?_, hm⟩
  obtain ⟨hxL, fs, fx⟩ := h.obj
  obtain ⟨ix, hix⟩ := vp_ix (f := f) hxL
  refine vOfL (by decide +kernel) (Nat.le_of_ble_eq_true rfl) (fun p9 e9 s9 m9 below9 meth9 c9 X hret htab hE => ?_)
  refine vAloadN X dL_length_0 2 rfl ?_
  refine vIconst X dL_length_1 (v := nI 0) (by decide) ?_
  refine vAloadN X dL_length_2 0 rfl ?_
  refine vIloadN X dL_length_3 1 rfl ?_
  rcases hc with ⟨rfl, hc⟩ | ⟨hpos, hcx, hinv⟩
  · refine vCallV X [.int (nI 0), .ref ou] hc (vGV q_388 q_389 q_390 q_24 q_391) ⟨by decide, by decide, (show _ = some 1 from by decide +kernel)⟩ ⟨(Nat.le_of_ble_eq_true rfl), (Nat.le_of_ble_eq_true rfl)⟩ ix 3 rfl rfl (hix.trans (by rw [fx])) rfl (Nat.le_of_ble_eq_true rfl) dL_length_4 ⟨(Nat.le_of_ble_eq_true rfl), (Nat.le_of_ble_eq_true rfl)⟩ (fun v9 w9 hp9 => ?_)
    obtain ⟨L1, f1, rfl, rfl, hk1, hi1⟩ := hp9
    refine vI2l X dL_length_7 (v := v.toInt64) rfl ?_
    refine vpLastore X (hk1 ou hou).1 (((hk1 ou hou).2 hzo).trans fou) 5 rfl rfl (by decide) (by decide) (g' := vp_updL g0 0 (v.toInt64)) rfl dL_length_8 ?_
    refine vGoto X 15 dL_length_9 (by decide) ?_
    refine vIconst X dL_length_15 (v := nI 0) (by decide) ?_
    refine vWiden 1 6 (Nat.le_of_ble_eq_true rfl) (Nat.le_of_ble_eq_true rfl) ?_
    exact vRetIL X hret dL_length_16 ⟨L1, _, _, rfl, rfl, (fun a ha => ⟨(hk1 a ha).1, fun hz hn => (va_up_nq _ hn).trans ((hk1 a ha).2 hz)⟩), va_up_eq _ _ _, fun _ => rfl, hi1.foreign (fun t ht => ⟨ht, fun hz => va_up_nq _ (fun e => hz (by rw [e]; exact hzo))⟩)⟩
  · obtain rfl : kk = 1 := by omega
    have hcx9 : vCtX l yX3_length cX3_length 2 (some .int) 10 152 1 6 D vCl (vTy k) sb [.ref x, .int p0] (va_pl L f) "java/lang/IndexOutOfBoundsException" := hcx
    refine vCatch X hE [.int (nI 0), .ref ou] hcx9 (vGV q_388 q_389 q_390 q_24 q_391) ⟨by decide, by decide, (show _ = some 1 from by decide +kernel)⟩ ⟨(Nat.le_of_ble_eq_true rfl), (Nat.le_of_ble_eq_true rfl)⟩ ix 3 rfl rfl (hix.trans (by rw [fx])) rfl (Nat.le_of_ble_eq_true rfl) dL_length_4 ⟨(Nat.le_of_ble_eq_true rfl), (Nat.le_of_ble_eq_true rfl)⟩ [] (⟨0, 9, 12, 13⟩ : ExceptionTableEntry) [] (htab.trans rfl) (fun _ hz => absurd hz List.not_mem_nil) (by decide) (by decide) (name := "java/lang/IndexOutOfBoundsException") (List.mem_cons_of_mem _ q_257) t_351 (fun a9 => ?_)
    refine vPc (pc' := 12) rfl ?_
    refine vAstoreN X _ dL_length_12 (by decide) rfl ?_
    refine vIconst X dL_length_13 (v := nI 1) (by decide) ?_
    refine vWiden 1 6 (Nat.le_of_ble_eq_true rfl) (Nat.le_of_ble_eq_true rfl) ?_
    exact vRetIL X hret dL_length_14 ⟨L, f, g0, rfl, rfl, (fun a ha => ⟨ha, fun _ _ => rfl⟩), fou, fun e => absurd e (by decide), hinv⟩
set_option maxHeartbeats 4000000 in
theorem lc_get (l : Launch) (D : va_G) (k : Nat → ClassId) (sb : Nat) (L : List Nat) (f : Nat → va_E) (Z : Nat → Prop) (x : Nat) (B : Nat → Nat → Int32) (Ln Rm : Nat → Nat) (Rd : Nat → Option Nat) (Pl Mk : Nat → Nat) (G : Nat → Nat → Int32) (Sz : Nat → Nat) (hl : l.stackTraces = false) (h : cInv k L f Z x B Ln Rm Rd Pl Mk G Sz) (hZ : ∀ a, Z a → a ∈ L) (ou : Nat) (g0 : Nat → Int64) (hou : ou ∈ L) (hzo : Z ou) (fou : f ou = .inl (k 5, 1, .inr (.inl g0))) (p0 : Int32) (p1 : Int32) : ∃ (kk : Nat) (v : Int32) (B' : Nat → Nat → Int32) (Ln' Rm' : Nat → Nat) (Rd' : Nat → Option Nat) (Pl' Mk' : Nat → Nat) (G' : Nat → Nat → Int32) (Sz' : Nat → Nat), kk ≤ 1 ∧ vCtL l yL_get cL_get 5 [(0, 10, 13, 13)] 11 175 1 6 D vCl (vTy k) sb [.ref x, .int p0, .int p1, .ref ou] (va_pl L f) (wPost k L f Z x ou kk (v.toInt64) B' Ln' Rm' Rd' Pl' Mk' G' Sz') ∧ (∀ (o : Nat → Nat) (Kp : Nat → Int32) (th : Int32), ∃ Kp' : Nat → Int32, ∀ pl : va_W, vCt l yX4_get cX4_get 3 (some .int) 2 44 0 0 D vCl (vTy k) sb [.ref (o 0), .int p0, .int p1] (mW k o pl B Ln Rm Rd Pl Mk G Sz Kp th) (vDet (some (.int v)) (mW k o pl B' Ln' Rm' Rd' Pl' Mk' G' Sz' Kp' (nI kk)))) := by
  obtain ⟨kk, v, B', Ln', Rm', Rd', Pl', Mk', G', Sz', hkk, hc, hm⟩ := cl_get l D k sb L f Z x B Ln Rm Rd Pl Mk G Sz hl h hZ p0 p1
  refine ⟨kk, v, B', Ln', Rm', Rd', Pl', Mk', G', Sz', hkk, ?_, hm⟩
  obtain ⟨hxL, fs, fx⟩ := h.obj
  obtain ⟨ix, hix⟩ := vp_ix (f := f) hxL
  refine vOfL (by decide +kernel) (Nat.le_of_ble_eq_true rfl) (fun p9 e9 s9 m9 below9 meth9 c9 X hret htab hE => ?_)
  refine vAloadN X dL_get_0 3 rfl ?_
  refine vIconst X dL_get_1 (v := nI 0) (by decide) ?_
  refine vAloadN X dL_get_2 0 rfl ?_
  refine vIloadN X dL_get_3 1 rfl ?_
  refine vIloadN X dL_get_4 2 rfl ?_
  rcases hc with ⟨rfl, hc⟩ | ⟨hpos, hcx, hinv⟩
  · refine vCallV X [.int (nI 0), .ref ou] hc (vGV q_395 q_396 q_397 q_24 q_398) ⟨by decide, by decide, (show _ = some 2 from by decide +kernel)⟩ ⟨(Nat.le_of_ble_eq_true rfl), (Nat.le_of_ble_eq_true rfl)⟩ ix 3 rfl rfl (hix.trans (by rw [fx])) rfl (Nat.le_of_ble_eq_true rfl) dL_get_5 ⟨(Nat.le_of_ble_eq_true rfl), (Nat.le_of_ble_eq_true rfl)⟩ (fun v9 w9 hp9 => ?_)
    obtain ⟨L1, f1, rfl, rfl, hk1, hi1⟩ := hp9
    refine vI2l X dL_get_8 (v := v.toInt64) rfl ?_
    refine vpLastore X (hk1 ou hou).1 (((hk1 ou hou).2 hzo).trans fou) 5 rfl rfl (by decide) (by decide) (g' := vp_updL g0 0 (v.toInt64)) rfl dL_get_9 ?_
    refine vGoto X 17 dL_get_10 (by decide) ?_
    refine vIconst X dL_get_17 (v := nI 0) (by decide) ?_
    refine vWiden 1 6 (Nat.le_of_ble_eq_true rfl) (Nat.le_of_ble_eq_true rfl) ?_
    exact vRetIL X hret dL_get_18 ⟨L1, _, _, rfl, rfl, (fun a ha => ⟨(hk1 a ha).1, fun hz hn => (va_up_nq _ hn).trans ((hk1 a ha).2 hz)⟩), va_up_eq _ _ _, fun _ => rfl, hi1.foreign (fun t ht => ⟨ht, fun hz => va_up_nq _ (fun e => hz (by rw [e]; exact hzo))⟩)⟩
  · obtain rfl : kk = 1 := by omega
    have hcx9 : vCtX l yX3_get cX3_get 4 (some .int) 10 152 1 6 D vCl (vTy k) sb [.ref x, .int p0, .int p1] (va_pl L f) "java/lang/IndexOutOfBoundsException" := hcx
    refine vCatch X hE [.int (nI 0), .ref ou] hcx9 (vGV q_395 q_396 q_397 q_24 q_398) ⟨by decide, by decide, (show _ = some 2 from by decide +kernel)⟩ ⟨(Nat.le_of_ble_eq_true rfl), (Nat.le_of_ble_eq_true rfl)⟩ ix 3 rfl rfl (hix.trans (by rw [fx])) rfl (Nat.le_of_ble_eq_true rfl) dL_get_5 ⟨(Nat.le_of_ble_eq_true rfl), (Nat.le_of_ble_eq_true rfl)⟩ [] (⟨0, 10, 13, 13⟩ : ExceptionTableEntry) [] (htab.trans rfl) (fun _ hz => absurd hz List.not_mem_nil) (by decide) (by decide) (name := "java/lang/IndexOutOfBoundsException") (List.mem_cons_of_mem _ q_257) t_351 (fun a9 => ?_)
    refine vPc (pc' := 13) rfl ?_
    refine vAstore X _ dL_get_13 (by decide) rfl ?_
    refine vIconst X dL_get_15 (v := nI 1) (by decide) ?_
    refine vWiden 1 6 (Nat.le_of_ble_eq_true rfl) (Nat.le_of_ble_eq_true rfl) ?_
    exact vRetIL X hret dL_get_16 ⟨L, f, g0, rfl, rfl, (fun a ha => ⟨ha, fun _ _ => rfl⟩), fou, fun e => absurd e (by decide), hinv⟩
set_option maxHeartbeats 4000000 in
theorem lc_put (l : Launch) (D : va_G) (k : Nat → ClassId) (sb : Nat) (L : List Nat) (f : Nat → va_E) (Z : Nat → Prop) (x : Nat) (B : Nat → Nat → Int32) (Ln Rm : Nat → Nat) (Rd : Nat → Option Nat) (Pl Mk : Nat → Nat) (G : Nat → Nat → Int32) (Sz : Nat → Nat) (hl : l.stackTraces = false) (h : cInv k L f Z x B Ln Rm Rd Pl Mk G Sz) (hZ : ∀ a, Z a → a ∈ L) (ou : Nat) (g0 : Nat → Int64) (hou : ou ∈ L) (hzo : Z ou) (fou : f ou = .inl (k 5, 1, .inr (.inl g0))) (p0 : Int32) (p1 : Int32) (p2 : Int32) : ∃ (kk : Nat) (v : Int32) (B' : Nat → Nat → Int32) (Ln' Rm' : Nat → Nat) (Rd' : Nat → Option Nat) (Pl' Mk' : Nat → Nat) (G' : Nat → Nat → Int32) (Sz' : Nat → Nat), kk ≤ 1 ∧ vCtL l yL_put cL_put 6 [(0, 12, 15, 13)] 11 176 1 6 D vCl (vTy k) sb [.ref x, .int p0, .int p1, .int p2, .ref ou] (va_pl L f) (wPost k L f Z x ou kk (v.toInt64) B' Ln' Rm' Rd' Pl' Mk' G' Sz') ∧ (∀ (o : Nat → Nat) (Kp : Nat → Int32) (th : Int32), ∃ Kp' : Nat → Int32, ∀ pl : va_W, vCt l yX4_put cX4_put 6 (some .int) 2 44 0 0 D vCl (vTy k) sb [.ref (o 0), .int p0, .int p1, .int p2] (mW k o pl B Ln Rm Rd Pl Mk G Sz Kp th) (vDet (some (.int v)) (mW k o pl B' Ln' Rm' Rd' Pl' Mk' G' Sz' Kp' (nI kk)))) := by
  obtain ⟨kk, v, B', Ln', Rm', Rd', Pl', Mk', G', Sz', hkk, hc, hm⟩ := cl_put l D k sb L f Z x B Ln Rm Rd Pl Mk G Sz hl h hZ p0 p1 p2
  refine ⟨kk, v, B', Ln', Rm', Rd', Pl', Mk', G', Sz', hkk, ?_, hm⟩
  obtain ⟨hxL, fs, fx⟩ := h.obj
  obtain ⟨ix, hix⟩ := vp_ix (f := f) hxL
  refine vOfL (by decide +kernel) (Nat.le_of_ble_eq_true rfl) (fun p9 e9 s9 m9 below9 meth9 c9 X hret htab hE => ?_)
  refine vAload X dL_put_0 4 rfl ?_
  refine vIconst X dL_put_2 (v := nI 0) (by decide) ?_
  refine vAloadN X dL_put_3 0 rfl ?_
  refine vIloadN X dL_put_4 1 rfl ?_
  refine vIloadN X dL_put_5 2 rfl ?_
  refine vIloadN X dL_put_6 3 rfl ?_
  rcases hc with ⟨rfl, hc⟩ | ⟨hpos, hcx, hinv⟩
  · refine vCallV X [.int (nI 0), .ref ou] hc (vGV q_408 q_409 q_410 q_24 q_411) ⟨by decide, by decide, (show _ = some 3 from by decide +kernel)⟩ ⟨(Nat.le_of_ble_eq_true rfl), (Nat.le_of_ble_eq_true rfl)⟩ ix 3 rfl rfl (hix.trans (by rw [fx])) rfl (Nat.le_of_ble_eq_true rfl) dL_put_7 ⟨(Nat.le_of_ble_eq_true rfl), (Nat.le_of_ble_eq_true rfl)⟩ (fun v9 w9 hp9 => ?_)
    obtain ⟨L1, f1, rfl, rfl, hk1, hi1⟩ := hp9
    refine vI2l X dL_put_10 (v := v.toInt64) rfl ?_
    refine vpLastore X (hk1 ou hou).1 (((hk1 ou hou).2 hzo).trans fou) 5 rfl rfl (by decide) (by decide) (g' := vp_updL g0 0 (v.toInt64)) rfl dL_put_11 ?_
    refine vGoto X 19 dL_put_12 (by decide) ?_
    refine vIconst X dL_put_19 (v := nI 0) (by decide) ?_
    refine vWiden 1 6 (Nat.le_of_ble_eq_true rfl) (Nat.le_of_ble_eq_true rfl) ?_
    exact vRetIL X hret dL_put_20 ⟨L1, _, _, rfl, rfl, (fun a ha => ⟨(hk1 a ha).1, fun hz hn => (va_up_nq _ hn).trans ((hk1 a ha).2 hz)⟩), va_up_eq _ _ _, fun _ => rfl, hi1.foreign (fun t ht => ⟨ht, fun hz => va_up_nq _ (fun e => hz (by rw [e]; exact hzo))⟩)⟩
  · obtain rfl : kk = 1 := by omega
    have hcx9 : vCtX l yX3_put cX3_put 5 (some .int) 10 152 1 6 D vCl (vTy k) sb [.ref x, .int p0, .int p1, .int p2] (va_pl L f) "java/lang/IndexOutOfBoundsException" := hcx
    refine vCatch X hE [.int (nI 0), .ref ou] hcx9 (vGV q_408 q_409 q_410 q_24 q_411) ⟨by decide, by decide, (show _ = some 3 from by decide +kernel)⟩ ⟨(Nat.le_of_ble_eq_true rfl), (Nat.le_of_ble_eq_true rfl)⟩ ix 3 rfl rfl (hix.trans (by rw [fx])) rfl (Nat.le_of_ble_eq_true rfl) dL_put_7 ⟨(Nat.le_of_ble_eq_true rfl), (Nat.le_of_ble_eq_true rfl)⟩ [] (⟨0, 12, 15, 13⟩ : ExceptionTableEntry) [] (htab.trans rfl) (fun _ hz => absurd hz List.not_mem_nil) (by decide) (by decide) (name := "java/lang/IndexOutOfBoundsException") (List.mem_cons_of_mem _ q_257) t_351 (fun a9 => ?_)
    refine vPc (pc' := 15) rfl ?_
    refine vAstore X _ dL_put_15 (by decide) rfl ?_
    refine vIconst X dL_put_17 (v := nI 1) (by decide) ?_
    refine vWiden 1 6 (Nat.le_of_ble_eq_true rfl) (Nat.le_of_ble_eq_true rfl) ?_
    exact vRetIL X hret dL_put_18 ⟨L, f, g0, rfl, rfl, (fun a ha => ⟨ha, fun _ _ => rfl⟩), fou, fun e => absurd e (by decide), hinv⟩
set_option maxHeartbeats 4000000 in
theorem lc_fill (l : Launch) (D : va_G) (k : Nat → ClassId) (sb : Nat) (L : List Nat) (f : Nat → va_E) (Z : Nat → Prop) (x : Nat) (B : Nat → Nat → Int32) (Ln Rm : Nat → Nat) (Rd : Nat → Option Nat) (Pl Mk : Nat → Nat) (G : Nat → Nat → Int32) (Sz : Nat → Nat) (hl : l.stackTraces = false) (h : cInv k L f Z x B Ln Rm Rd Pl Mk G Sz) (hZ : ∀ a, Z a → a ∈ L) (ou : Nat) (g0 : Nat → Int64) (hou : ou ∈ L) (hzo : Z ou) (fou : f ou = .inl (k 5, 1, .inr (.inl g0))) (p0 : Int32) (p1 : Int32) (p2 : Int32) (p3 : Int32) (p4 : Int32) : ∃ (kk : Nat) (v : Int32) (B' : Nat → Nat → Int32) (Ln' Rm' : Nat → Nat) (Rd' : Nat → Option Nat) (Pl' Mk' : Nat → Nat) (G' : Nat → Nat → Int32) (Sz' : Nat → Nat), kk ≤ 1 ∧ vCtL l yL_fill cL_fill 8 [(0, 16, 19, 13)] 11 181 1 6 D vCl (vTy k) sb [.ref x, .int p0, .int p1, .int p2, .int p3, .int p4, .ref ou] (va_pl L f) (wPost k L f Z x ou kk (v.toInt64) B' Ln' Rm' Rd' Pl' Mk' G' Sz') ∧ (∀ (o : Nat → Nat) (Kp : Nat → Int32) (th : Int32), ∃ Kp' : Nat → Int32, ∀ pl : va_W, vCt l yX4_fill cX4_fill 9 (some .int) 2 44 0 0 D vCl (vTy k) sb [.ref (o 0), .int p0, .int p1, .int p2, .int p3, .int p4] (mW k o pl B Ln Rm Rd Pl Mk G Sz Kp th) (vDet (some (.int v)) (mW k o pl B' Ln' Rm' Rd' Pl' Mk' G' Sz' Kp' (nI kk)))) := by
  obtain ⟨kk, v, B', Ln', Rm', Rd', Pl', Mk', G', Sz', hkk, hc, hm⟩ := cl_fill l D k sb L f Z x B Ln Rm Rd Pl Mk G Sz hl h hZ p0 p1 p2 p3 p4
  refine ⟨kk, v, B', Ln', Rm', Rd', Pl', Mk', G', Sz', hkk, ?_, hm⟩
  obtain ⟨hxL, fs, fx⟩ := h.obj
  obtain ⟨ix, hix⟩ := vp_ix (f := f) hxL
  refine vOfL (by decide +kernel) (Nat.le_of_ble_eq_true rfl) (fun p9 e9 s9 m9 below9 meth9 c9 X hret htab hE => ?_)
  refine vAload X dL_fill_0 6 rfl ?_
  refine vIconst X dL_fill_2 (v := nI 0) (by decide) ?_
  refine vAloadN X dL_fill_3 0 rfl ?_
  refine vIloadN X dL_fill_4 1 rfl ?_
  refine vIloadN X dL_fill_5 2 rfl ?_
  refine vIloadN X dL_fill_6 3 rfl ?_
  refine vIload X dL_fill_7 4 rfl ?_
  refine vIload X dL_fill_9 5 rfl ?_
  rcases hc with ⟨rfl, hc⟩ | ⟨hpos, hcx, hinv⟩
  · refine vCallV X [.int (nI 0), .ref ou] hc (vGV q_419 q_420 q_421 q_24 q_422) ⟨by decide, by decide, (show _ = some 5 from by decide +kernel)⟩ ⟨(Nat.le_of_ble_eq_true rfl), (Nat.le_of_ble_eq_true rfl)⟩ ix 3 rfl rfl (hix.trans (by rw [fx])) rfl (Nat.le_of_ble_eq_true rfl) dL_fill_11 ⟨(Nat.le_of_ble_eq_true rfl), (Nat.le_of_ble_eq_true rfl)⟩ (fun v9 w9 hp9 => ?_)
    obtain ⟨L1, f1, rfl, rfl, hk1, hi1⟩ := hp9
    refine vI2l X dL_fill_14 (v := v.toInt64) rfl ?_
    refine vpLastore X (hk1 ou hou).1 (((hk1 ou hou).2 hzo).trans fou) 5 rfl rfl (by decide) (by decide) (g' := vp_updL g0 0 (v.toInt64)) rfl dL_fill_15 ?_
    refine vGoto X 23 dL_fill_16 (by decide) ?_
    refine vIconst X dL_fill_23 (v := nI 0) (by decide) ?_
    refine vWiden 1 6 (Nat.le_of_ble_eq_true rfl) (Nat.le_of_ble_eq_true rfl) ?_
    exact vRetIL X hret dL_fill_24 ⟨L1, _, _, rfl, rfl, (fun a ha => ⟨(hk1 a ha).1, fun hz hn => (va_up_nq _ hn).trans ((hk1 a ha).2 hz)⟩), va_up_eq _ _ _, fun _ => rfl, hi1.foreign (fun t ht => ⟨ht, fun hz => va_up_nq _ (fun e => hz (by rw [e]; exact hzo))⟩)⟩
  · obtain rfl : kk = 1 := by omega
    have hcx9 : vCtX l yX3_fill cX3_fill 10 (some .int) 10 152 1 6 D vCl (vTy k) sb [.ref x, .int p0, .int p1, .int p2, .int p3, .int p4] (va_pl L f) "java/lang/IndexOutOfBoundsException" := hcx
    refine vCatch X hE [.int (nI 0), .ref ou] hcx9 (vGV q_419 q_420 q_421 q_24 q_422) ⟨by decide, by decide, (show _ = some 5 from by decide +kernel)⟩ ⟨(Nat.le_of_ble_eq_true rfl), (Nat.le_of_ble_eq_true rfl)⟩ ix 3 rfl rfl (hix.trans (by rw [fx])) rfl (Nat.le_of_ble_eq_true rfl) dL_fill_11 ⟨(Nat.le_of_ble_eq_true rfl), (Nat.le_of_ble_eq_true rfl)⟩ [] (⟨0, 16, 19, 13⟩ : ExceptionTableEntry) [] (htab.trans rfl) (fun _ hz => absurd hz List.not_mem_nil) (by decide) (by decide) (name := "java/lang/IndexOutOfBoundsException") (List.mem_cons_of_mem _ q_257) t_351 (fun a9 => ?_)
    refine vPc (pc' := 19) rfl ?_
    refine vAstore X _ dL_fill_19 (by decide) rfl ?_
    refine vIconst X dL_fill_21 (v := nI 1) (by decide) ?_
    refine vWiden 1 6 (Nat.le_of_ble_eq_true rfl) (Nat.le_of_ble_eq_true rfl) ?_
    exact vRetIL X hret dL_fill_22 ⟨L, f, g0, rfl, rfl, (fun a ha => ⟨ha, fun _ _ => rfl⟩), fou, fun e => absurd e (by decide), hinv⟩
set_option maxHeartbeats 4000000 in
theorem lc_isLike (l : Launch) (D : va_G) (k : Nat → ClassId) (sb : Nat) (L : List Nat) (f : Nat → va_E) (Z : Nat → Prop) (x : Nat) (B : Nat → Nat → Int32) (Ln Rm : Nat → Nat) (Rd : Nat → Option Nat) (Pl Mk : Nat → Nat) (G : Nat → Nat → Int32) (Sz : Nat → Nat) (hl : l.stackTraces = false) (h : cInv k L f Z x B Ln Rm Rd Pl Mk G Sz) (hZ : ∀ a, Z a → a ∈ L) (ou : Nat) (g0 : Nat → Int64) (hou : ou ∈ L) (hzo : Z ou) (fou : f ou = .inl (k 5, 1, .inr (.inl g0))) (p0 : Int32) (p1 : Int32) : ∃ (kk : Nat) (v : Int32) (B' : Nat → Nat → Int32) (Ln' Rm' : Nat → Nat) (Rd' : Nat → Option Nat) (Pl' Mk' : Nat → Nat) (G' : Nat → Nat → Int32) (Sz' : Nat → Nat), kk ≤ 1 ∧ vCtL l yL_isLike cL_isLike 5 [(0, 17, 20, 13)] 11 177 1 6 D vCl (vTy k) sb [.ref x, .int p0, .int p1, .ref ou] (va_pl L f) (wPost k L f Z x ou kk (bL v) B' Ln' Rm' Rd' Pl' Mk' G' Sz') ∧ (∀ (o : Nat → Nat) (Kp : Nat → Int32) (th : Int32), ∃ Kp' : Nat → Int32, ∀ pl : va_W, vCt l yX4_isLike cX4_isLike 5 (some .boolean) 1 21 0 0 D vCl (vTy k) sb [.ref (o 0), .int p0, .int p1] (mW k o pl B Ln Rm Rd Pl Mk G Sz Kp th) (vDet (some (.int v)) (mW k o pl B' Ln' Rm' Rd' Pl' Mk' G' Sz' Kp' (nI kk)))) := by
  obtain ⟨kk, v, B', Ln', Rm', Rd', Pl', Mk', G', Sz', hkk, hc, hm⟩ := cl_isLike l D k sb L f Z x B Ln Rm Rd Pl Mk G Sz hl h hZ p0 p1
  refine ⟨kk, v, B', Ln', Rm', Rd', Pl', Mk', G', Sz', hkk, ?_, hm⟩
  obtain ⟨hxL, fs, fx⟩ := h.obj
  obtain ⟨ix, hix⟩ := vp_ix (f := f) hxL
  refine vOfL (by decide +kernel) (Nat.le_of_ble_eq_true rfl) (fun p9 e9 s9 m9 below9 meth9 c9 X hret htab hE => ?_)
  refine vAloadN X dL_isLike_0 3 rfl ?_
  refine vIconst X dL_isLike_1 (v := nI 0) (by decide) ?_
  refine vAloadN X dL_isLike_2 0 rfl ?_
  refine vIloadN X dL_isLike_3 1 rfl ?_
  refine vIloadN X dL_isLike_4 2 rfl ?_
  rcases hc with ⟨rfl, hc⟩ | ⟨hpos, hcx, hinv⟩
  · refine vCallV X [.int (nI 0), .ref ou] hc (vGV q_426 q_427 q_428 q_24 q_429) ⟨by decide, by decide, (show _ = some 2 from by decide +kernel)⟩ ⟨(Nat.le_of_ble_eq_true rfl), (Nat.le_of_ble_eq_true rfl)⟩ ix 3 rfl rfl (hix.trans (by rw [fx])) rfl (Nat.le_of_ble_eq_true rfl) dL_isLike_5 ⟨(Nat.le_of_ble_eq_true rfl), (Nat.le_of_ble_eq_true rfl)⟩ (fun v9 w9 hp9 => ?_)
    obtain ⟨L1, f1, rfl, rfl, hk1, hi1⟩ := hp9
    by_cases hv : v = 0
    · refine vIf_eqT X 15 dL_isLike_8 (by decide) hv ?_
      refine vLconst X dL_isLike_15 (v := 0) (by decide) ?_
      refine vpLastore X (hk1 ou hou).1 (((hk1 ou hou).2 hzo).trans fou) 5 rfl rfl (by decide) (by decide) (g' := vp_updL g0 0 (0)) rfl dL_isLike_16 ?_
      refine vGoto X 24 dL_isLike_17 (by decide) ?_
      refine vIconst X dL_isLike_24 (v := nI 0) (by decide) ?_
      refine vWiden 1 6 (Nat.le_of_ble_eq_true rfl) (Nat.le_of_ble_eq_true rfl) ?_
      exact vRetIL X hret dL_isLike_25 ⟨L1, _, _, rfl, rfl, (fun a ha => ⟨(hk1 a ha).1, fun hz hn => (va_up_nq _ hn).trans ((hk1 a ha).2 hz)⟩), va_up_eq _ _ _, fun _ => (by simp [vp_updL, bL, hv]), hi1.foreign (fun t ht => ⟨ht, fun hz => va_up_nq _ (fun e => hz (by rw [e]; exact hzo))⟩)⟩
    · refine vIf_eqF X 15 dL_isLike_8 (by decide) hv ?_
      refine vLconst X dL_isLike_11 (v := 1) (by decide) ?_
      refine vGoto X 16 dL_isLike_12 (by decide) ?_
      refine vpLastore X (hk1 ou hou).1 (((hk1 ou hou).2 hzo).trans fou) 5 rfl rfl (by decide) (by decide) (g' := vp_updL g0 0 (1)) rfl dL_isLike_16 ?_
      refine vGoto X 24 dL_isLike_17 (by decide) ?_
      refine vIconst X dL_isLike_24 (v := nI 0) (by decide) ?_
      refine vWiden 1 6 (Nat.le_of_ble_eq_true rfl) (Nat.le_of_ble_eq_true rfl) ?_
      exact vRetIL X hret dL_isLike_25 ⟨L1, _, _, rfl, rfl, (fun a ha => ⟨(hk1 a ha).1, fun hz hn => (va_up_nq _ hn).trans ((hk1 a ha).2 hz)⟩), va_up_eq _ _ _, fun _ => (by simp [vp_updL, bL, hv]), hi1.foreign (fun t ht => ⟨ht, fun hz => va_up_nq _ (fun e => hz (by rw [e]; exact hzo))⟩)⟩
  · obtain rfl : kk = 1 := by omega
    have hcx9 : vCtX l yX3_isLike cX3_isLike 6 (some .boolean) 10 152 1 6 D vCl (vTy k) sb [.ref x, .int p0, .int p1] (va_pl L f) "java/lang/IndexOutOfBoundsException" := hcx
    refine vCatch X hE [.int (nI 0), .ref ou] hcx9 (vGV q_426 q_427 q_428 q_24 q_429) ⟨by decide, by decide, (show _ = some 2 from by decide +kernel)⟩ ⟨(Nat.le_of_ble_eq_true rfl), (Nat.le_of_ble_eq_true rfl)⟩ ix 3 rfl rfl (hix.trans (by rw [fx])) rfl (Nat.le_of_ble_eq_true rfl) dL_isLike_5 ⟨(Nat.le_of_ble_eq_true rfl), (Nat.le_of_ble_eq_true rfl)⟩ [] (⟨0, 17, 20, 13⟩ : ExceptionTableEntry) [] (htab.trans rfl) (fun _ hz => absurd hz List.not_mem_nil) (by decide) (by decide) (name := "java/lang/IndexOutOfBoundsException") (List.mem_cons_of_mem _ q_257) t_351 (fun a9 => ?_)
    refine vPc (pc' := 20) rfl ?_
    refine vAstore X _ dL_isLike_20 (by decide) rfl ?_
    refine vIconst X dL_isLike_22 (v := nI 1) (by decide) ?_
    refine vWiden 1 6 (Nat.le_of_ble_eq_true rfl) (Nat.le_of_ble_eq_true rfl) ?_
    exact vRetIL X hret dL_isLike_23 ⟨L, f, g0, rfl, rfl, (fun a ha => ⟨ha, fun _ _ => rfl⟩), fou, fun e => absurd e (by decide), hinv⟩
set_option maxHeartbeats 4000000 in
theorem lc_write (l : Launch) (D : va_G) (k : Nat → ClassId) (sb : Nat) (L : List Nat) (f : Nat → va_E) (Z : Nat → Prop) (x : Nat) (B : Nat → Nat → Int32) (Ln Rm : Nat → Nat) (Rd : Nat → Option Nat) (Pl Mk : Nat → Nat) (G : Nat → Nat → Int32) (Sz : Nat → Nat) (hl : l.stackTraces = false) (h : cInv k L f Z x B Ln Rm Rd Pl Mk G Sz) (hZ : ∀ a, Z a → a ∈ L) (ou : Nat) (g0 : Nat → Int64) (hou : ou ∈ L) (hzo : Z ou) (fou : f ou = .inl (k 5, 1, .inr (.inl g0))) (p0 : Int32) (p1 : Int32) : ∃ (kk : Nat) (v : Int32) (B' : Nat → Nat → Int32) (Ln' Rm' : Nat → Nat) (Rd' : Nat → Option Nat) (Pl' Mk' : Nat → Nat) (G' : Nat → Nat → Int32) (Sz' : Nat → Nat), kk ≤ 2 ∧ vCtL l yL_write cL_write 5 [(0, 10, 13, 13), (0, 10, 17, 42)] 10 154 1 6 D vCl (vTy k) sb [.ref x, .int p0, .int p1, .ref ou] (va_pl L f) (wPost k L f Z x ou kk (v.toInt64) B' Ln' Rm' Rd' Pl' Mk' G' Sz') ∧ (∀ (o : Nat → Nat) (Kp : Nat → Int32) (th : Int32), ∃ Kp' : Nat → Int32, ∀ pl : va_W, vCt l yX4_write cX4_write 3 (some .int) 2 44 0 0 D vCl (vTy k) sb [.ref (o 0), .int p0, .int p1] (mW k o pl B Ln Rm Rd Pl Mk G Sz Kp th) (vDet (some (.int v)) (mW k o pl B' Ln' Rm' Rd' Pl' Mk' G' Sz' Kp' (nI kk)))) := by
  obtain ⟨kk, v, B', Ln', Rm', Rd', Pl', Mk', G', Sz', hkk, hc, hm⟩ := cl_write l D k sb L f Z x B Ln Rm Rd Pl Mk G Sz hl h hZ p0 p1
  refine ⟨kk, v, B', Ln', Rm', Rd', Pl', Mk', G', Sz', hkk, ?_, hm⟩
  obtain ⟨hxL, fs, fx⟩ := h.obj
  obtain ⟨ix, hix⟩ := vp_ix (f := f) hxL
  refine vOfL (by decide +kernel) (Nat.le_of_ble_eq_true rfl) (fun p9 e9 s9 m9 below9 meth9 c9 X hret htab hE => ?_)
  refine vAloadN X dL_write_0 3 rfl ?_
  refine vIconst X dL_write_1 (v := nI 0) (by decide) ?_
  refine vAloadN X dL_write_2 0 rfl ?_
  refine vIloadN X dL_write_3 1 rfl ?_
  refine vIloadN X dL_write_4 2 rfl ?_
  rcases hc with ⟨rfl, hc⟩ | ⟨hpos, hcx, hinv⟩
  · refine vCallV X [.int (nI 0), .ref ou] hc (vGV q_434 q_435 q_436 q_24 q_437) ⟨by decide, by decide, (show _ = some 2 from by decide +kernel)⟩ ⟨(Nat.le_of_ble_eq_true rfl), (Nat.le_of_ble_eq_true rfl)⟩ ix 3 rfl rfl (hix.trans (by rw [fx])) rfl (Nat.le_of_ble_eq_true rfl) dL_write_5 ⟨(Nat.le_of_ble_eq_true rfl), (Nat.le_of_ble_eq_true rfl)⟩ (fun v9 w9 hp9 => ?_)
    obtain ⟨L1, f1, rfl, rfl, hk1, hi1⟩ := hp9
    refine vI2l X dL_write_8 (v := v.toInt64) rfl ?_
    refine vpLastore X (hk1 ou hou).1 (((hk1 ou hou).2 hzo).trans fou) 5 rfl rfl (by decide) (by decide) (g' := vp_updL g0 0 (v.toInt64)) rfl dL_write_9 ?_
    refine vGoto X 21 dL_write_10 (by decide) ?_
    refine vIconst X dL_write_21 (v := nI 0) (by decide) ?_
    refine vWiden 1 6 (Nat.le_of_ble_eq_true rfl) (Nat.le_of_ble_eq_true rfl) ?_
    exact vRetIL X hret dL_write_22 ⟨L1, _, _, rfl, rfl, (fun a ha => ⟨(hk1 a ha).1, fun hz hn => (va_up_nq _ hn).trans ((hk1 a ha).2 hz)⟩), va_up_eq _ _ _, fun _ => rfl, hi1.foreign (fun t ht => ⟨ht, fun hz => va_up_nq _ (fun e => hz (by rw [e]; exact hzo))⟩)⟩
  · rcases (show kk = 1 ∨ kk = 2 by omega) with rfl | rfl
    · have hcx9 : vCtX l yX3_write cX3_write 4 (some .int) 9 131 1 6 D vCl (vTy k) sb [.ref x, .int p0, .int p1] (va_pl L f) "java/lang/IndexOutOfBoundsException" := hcx
      refine vCatch X hE [.int (nI 0), .ref ou] hcx9 (vGV q_434 q_435 q_436 q_24 q_437) ⟨by decide, by decide, (show _ = some 2 from by decide +kernel)⟩ ⟨(Nat.le_of_ble_eq_true rfl), (Nat.le_of_ble_eq_true rfl)⟩ ix 3 rfl rfl (hix.trans (by rw [fx])) rfl (Nat.le_of_ble_eq_true rfl) dL_write_5 ⟨(Nat.le_of_ble_eq_true rfl), (Nat.le_of_ble_eq_true rfl)⟩ [] (⟨0, 10, 13, 13⟩ : ExceptionTableEntry) [(⟨0, 10, 17, 42⟩ : ExceptionTableEntry)] (htab.trans rfl) (fun _ hz => absurd hz List.not_mem_nil) (by decide) (by decide) (name := "java/lang/IndexOutOfBoundsException") (List.mem_cons_of_mem _ q_257) t_351 (fun a9 => ?_)
      refine vPc (pc' := 13) rfl ?_
      refine vAstore X _ dL_write_13 (by decide) rfl ?_
      refine vIconst X dL_write_15 (v := nI 1) (by decide) ?_
      refine vWiden 1 6 (Nat.le_of_ble_eq_true rfl) (Nat.le_of_ble_eq_true rfl) ?_
      exact vRetIL X hret dL_write_16 ⟨L, f, g0, rfl, rfl, (fun a ha => ⟨ha, fun _ _ => rfl⟩), fou, fun e => absurd e (by decide), hinv⟩
    · have hcx9 : vCtX l yX3_write cX3_write 4 (some .int) 9 131 1 6 D vCl (vTy k) sb [.ref x, .int p0, .int p1] (va_pl L f) "java/lang/IllegalStateException" := hcx
      refine vCatch X hE [.int (nI 0), .ref ou] hcx9 (vGV q_434 q_435 q_436 q_24 q_437) ⟨by decide, by decide, (show _ = some 2 from by decide +kernel)⟩ ⟨(Nat.le_of_ble_eq_true rfl), (Nat.le_of_ble_eq_true rfl)⟩ ix 3 rfl rfl (hix.trans (by rw [fx])) rfl (Nat.le_of_ble_eq_true rfl) dL_write_5 ⟨(Nat.le_of_ble_eq_true rfl), (Nat.le_of_ble_eq_true rfl)⟩ [(⟨0, 10, 13, 13⟩ : ExceptionTableEntry)] (⟨0, 10, 17, 42⟩ : ExceptionTableEntry) [] (htab.trans rfl) (List.forall_mem_cons.mpr ⟨⟨by decide, _, List.mem_cons_of_mem _ q_257, by decide⟩, (fun _ hz => absurd hz List.not_mem_nil)⟩) (by decide) (by decide) (name := "java/lang/IllegalStateException") (List.mem_cons_of_mem _ q_433) t_453 (fun a9 => ?_)
      refine vPc (pc' := 17) rfl ?_
      refine vAstore X _ dL_write_17 (by decide) rfl ?_
      refine vIconst X dL_write_19 (v := nI 2) (by decide) ?_
      refine vWiden 1 6 (Nat.le_of_ble_eq_true rfl) (Nat.le_of_ble_eq_true rfl) ?_
      exact vRetIL X hret dL_write_20 ⟨L, f, g0, rfl, rfl, (fun a ha => ⟨ha, fun _ _ => rfl⟩), fou, fun e => absurd e (by decide), hinv⟩
set_option maxHeartbeats 4000000 in
theorem lc_writePart (l : Launch) (D : va_G) (k : Nat → ClassId) (sb : Nat) (L : List Nat) (f : Nat → va_E) (Z : Nat → Prop) (x : Nat) (B : Nat → Nat → Int32) (Ln Rm : Nat → Nat) (Rd : Nat → Option Nat) (Pl Mk : Nat → Nat) (G : Nat → Nat → Int32) (Sz : Nat → Nat) (hl : l.stackTraces = false) (h : cInv k L f Z x B Ln Rm Rd Pl Mk G Sz) (hZ : ∀ a, Z a → a ∈ L) (ou : Nat) (g0 : Nat → Int64) (hou : ou ∈ L) (hzo : Z ou) (fou : f ou = .inl (k 5, 1, .inr (.inl g0))) (p0 : Int32) (p1 : Int32) (p2 : Int32) (p3 : Int32) : ∃ (kk : Nat) (v : Int32) (B' : Nat → Nat → Int32) (Ln' Rm' : Nat → Nat) (Rd' : Nat → Option Nat) (Pl' Mk' : Nat → Nat) (G' : Nat → Nat → Int32) (Sz' : Nat → Nat), kk ≤ 2 ∧ vCtL l yL_writePart cL_writePart 7 [(0, 14, 17, 13), (0, 14, 21, 42)] 11 178 1 6 D vCl (vTy k) sb [.ref x, .int p0, .int p1, .int p2, .int p3, .ref ou] (va_pl L f) (wPost k L f Z x ou kk (v.toInt64) B' Ln' Rm' Rd' Pl' Mk' G' Sz') ∧ (∀ (o : Nat → Nat) (Kp : Nat → Int32) (th : Int32), ∃ Kp' : Nat → Int32, ∀ pl : va_W, vCt l yX4_writePart cX4_writePart 6 (some .int) 2 44 0 0 D vCl (vTy k) sb [.ref (o 0), .int p0, .int p1, .int p2, .int p3] (mW k o pl B Ln Rm Rd Pl Mk G Sz Kp th) (vDet (some (.int v)) (mW k o pl B' Ln' Rm' Rd' Pl' Mk' G' Sz' Kp' (nI kk)))) := by
  obtain ⟨kk, v, B', Ln', Rm', Rd', Pl', Mk', G', Sz', hkk, hc, hm⟩ := cl_writePart l D k sb L f Z x B Ln Rm Rd Pl Mk G Sz hl h hZ p0 p1 p2 p3
  refine ⟨kk, v, B', Ln', Rm', Rd', Pl', Mk', G', Sz', hkk, ?_, hm⟩
  obtain ⟨hxL, fs, fx⟩ := h.obj
  obtain ⟨ix, hix⟩ := vp_ix (f := f) hxL
  refine vOfL (by decide +kernel) (Nat.le_of_ble_eq_true rfl) (fun p9 e9 s9 m9 below9 meth9 c9 X hret htab hE => ?_)
  refine vAload X dL_writePart_0 5 rfl ?_
  refine vIconst X dL_writePart_2 (v := nI 0) (by decide) ?_
  refine vAloadN X dL_writePart_3 0 rfl ?_
  refine vIloadN X dL_writePart_4 1 rfl ?_
  refine vIloadN X dL_writePart_5 2 rfl ?_
  refine vIloadN X dL_writePart_6 3 rfl ?_
  refine vIload X dL_writePart_7 4 rfl ?_
  rcases hc with ⟨rfl, hc⟩ | ⟨hpos, hcx, hinv⟩
  · refine vCallV X [.int (nI 0), .ref ou] hc (vGV q_475 q_476 q_477 q_24 q_478) ⟨by decide, by decide, (show _ = some 4 from by decide +kernel)⟩ ⟨(Nat.le_of_ble_eq_true rfl), (Nat.le_of_ble_eq_true rfl)⟩ ix 3 rfl rfl (hix.trans (by rw [fx])) rfl (Nat.le_of_ble_eq_true rfl) dL_writePart_9 ⟨(Nat.le_of_ble_eq_true rfl), (Nat.le_of_ble_eq_true rfl)⟩ (fun v9 w9 hp9 => ?_)
    obtain ⟨L1, f1, rfl, rfl, hk1, hi1⟩ := hp9
    refine vI2l X dL_writePart_12 (v := v.toInt64) rfl ?_
    refine vpLastore X (hk1 ou hou).1 (((hk1 ou hou).2 hzo).trans fou) 5 rfl rfl (by decide) (by decide) (g' := vp_updL g0 0 (v.toInt64)) rfl dL_writePart_13 ?_
    refine vGoto X 25 dL_writePart_14 (by decide) ?_
    refine vIconst X dL_writePart_25 (v := nI 0) (by decide) ?_
    refine vWiden 1 6 (Nat.le_of_ble_eq_true rfl) (Nat.le_of_ble_eq_true rfl) ?_
    exact vRetIL X hret dL_writePart_26 ⟨L1, _, _, rfl, rfl, (fun a ha => ⟨(hk1 a ha).1, fun hz hn => (va_up_nq _ hn).trans ((hk1 a ha).2 hz)⟩), va_up_eq _ _ _, fun _ => rfl, hi1.foreign (fun t ht => ⟨ht, fun hz => va_up_nq _ (fun e => hz (by rw [e]; exact hzo))⟩)⟩
  · rcases (show kk = 1 ∨ kk = 2 by omega) with rfl | rfl
    · have hcx9 : vCtX l yX3_writePart cX3_writePart 7 (some .int) 10 152 1 6 D vCl (vTy k) sb [.ref x, .int p0, .int p1, .int p2, .int p3] (va_pl L f) "java/lang/IndexOutOfBoundsException" := hcx
      refine vCatch X hE [.int (nI 0), .ref ou] hcx9 (vGV q_475 q_476 q_477 q_24 q_478) ⟨by decide, by decide, (show _ = some 4 from by decide +kernel)⟩ ⟨(Nat.le_of_ble_eq_true rfl), (Nat.le_of_ble_eq_true rfl)⟩ ix 3 rfl rfl (hix.trans (by rw [fx])) rfl (Nat.le_of_ble_eq_true rfl) dL_writePart_9 ⟨(Nat.le_of_ble_eq_true rfl), (Nat.le_of_ble_eq_true rfl)⟩ [] (⟨0, 14, 17, 13⟩ : ExceptionTableEntry) [(⟨0, 14, 21, 42⟩ : ExceptionTableEntry)] (htab.trans rfl) (fun _ hz => absurd hz List.not_mem_nil) (by decide) (by decide) (name := "java/lang/IndexOutOfBoundsException") (List.mem_cons_of_mem _ q_257) t_351 (fun a9 => ?_)
      refine vPc (pc' := 17) rfl ?_
      refine vAstore X _ dL_writePart_17 (by decide) rfl ?_
      refine vIconst X dL_writePart_19 (v := nI 1) (by decide) ?_
      refine vWiden 1 6 (Nat.le_of_ble_eq_true rfl) (Nat.le_of_ble_eq_true rfl) ?_
      exact vRetIL X hret dL_writePart_20 ⟨L, f, g0, rfl, rfl, (fun a ha => ⟨ha, fun _ _ => rfl⟩), fou, fun e => absurd e (by decide), hinv⟩
    · have hcx9 : vCtX l yX3_writePart cX3_writePart 7 (some .int) 10 152 1 6 D vCl (vTy k) sb [.ref x, .int p0, .int p1, .int p2, .int p3] (va_pl L f) "java/lang/IllegalStateException" := hcx
      refine vCatch X hE [.int (nI 0), .ref ou] hcx9 (vGV q_475 q_476 q_477 q_24 q_478) ⟨by decide, by decide, (show _ = some 4 from by decide +kernel)⟩ ⟨(Nat.le_of_ble_eq_true rfl), (Nat.le_of_ble_eq_true rfl)⟩ ix 3 rfl rfl (hix.trans (by rw [fx])) rfl (Nat.le_of_ble_eq_true rfl) dL_writePart_9 ⟨(Nat.le_of_ble_eq_true rfl), (Nat.le_of_ble_eq_true rfl)⟩ [(⟨0, 14, 17, 13⟩ : ExceptionTableEntry)] (⟨0, 14, 21, 42⟩ : ExceptionTableEntry) [] (htab.trans rfl) (List.forall_mem_cons.mpr ⟨⟨by decide, _, List.mem_cons_of_mem _ q_257, by decide⟩, (fun _ hz => absurd hz List.not_mem_nil)⟩) (by decide) (by decide) (name := "java/lang/IllegalStateException") (List.mem_cons_of_mem _ q_433) t_453 (fun a9 => ?_)
      refine vPc (pc' := 21) rfl ?_
      refine vAstore X _ dL_writePart_21 (by decide) rfl ?_
      refine vIconst X dL_writePart_23 (v := nI 2) (by decide) ?_
      refine vWiden 1 6 (Nat.le_of_ble_eq_true rfl) (Nat.le_of_ble_eq_true rfl) ?_
      exact vRetIL X hret dL_writePart_24 ⟨L, f, g0, rfl, rfl, (fun a ha => ⟨ha, fun _ _ => rfl⟩), fou, fun e => absurd e (by decide), hinv⟩
set_option maxHeartbeats 4000000 in
theorem lc_writeRow (l : Launch) (D : va_G) (k : Nat → ClassId) (sb : Nat) (L : List Nat) (f : Nat → va_E) (Z : Nat → Prop) (x : Nat) (B : Nat → Nat → Int32) (Ln Rm : Nat → Nat) (Rd : Nat → Option Nat) (Pl Mk : Nat → Nat) (G : Nat → Nat → Int32) (Sz : Nat → Nat) (hl : l.stackTraces = false) (h : cInv k L f Z x B Ln Rm Rd Pl Mk G Sz) (hZ : ∀ a, Z a → a ∈ L) (ou : Nat) (g0 : Nat → Int64) (hou : ou ∈ L) (hzo : Z ou) (fou : f ou = .inl (k 5, 1, .inr (.inl g0))) (p0 : Int32) (p1 : Int32) : ∃ (kk : Nat) (v : Int32) (B' : Nat → Nat → Int32) (Ln' Rm' : Nat → Nat) (Rd' : Nat → Option Nat) (Pl' Mk' : Nat → Nat) (G' : Nat → Nat → Int32) (Sz' : Nat → Nat), kk ≤ 2 ∧ vCtL l yL_writeRow cL_writeRow 5 [(0, 10, 13, 13), (0, 10, 17, 42)] 11 176 1 6 D vCl (vTy k) sb [.ref x, .int p0, .int p1, .ref ou] (va_pl L f) (wPost k L f Z x ou kk (v.toInt64) B' Ln' Rm' Rd' Pl' Mk' G' Sz') ∧ (∀ (o : Nat → Nat) (Kp : Nat → Int32) (th : Int32), ∃ Kp' : Nat → Int32, ∀ pl : va_W, vCt l yX4_writeRow cX4_writeRow 3 (some .int) 3 69 0 0 D vCl (vTy k) sb [.ref (o 0), .int p0, .int p1] (mW k o pl B Ln Rm Rd Pl Mk G Sz Kp th) (vDet (some (.int v)) (mW k o pl B' Ln' Rm' Rd' Pl' Mk' G' Sz' Kp' (nI kk)))) := by
  obtain ⟨kk, v, B', Ln', Rm', Rd', Pl', Mk', G', Sz', hkk, hc, hm⟩ := cl_writeRow l D k sb L f Z x B Ln Rm Rd Pl Mk G Sz hl h hZ p0 p1
  refine ⟨kk, v, B', Ln', Rm', Rd', Pl', Mk', G', Sz', hkk, ?_, hm⟩
  obtain ⟨hxL, fs, fx⟩ := h.obj
  obtain ⟨ix, hix⟩ := vp_ix (f := f) hxL
  refine vOfL (by decide +kernel) (Nat.le_of_ble_eq_true rfl) (fun p9 e9 s9 m9 below9 meth9 c9 X hret htab hE => ?_)
  refine vAloadN X dL_writeRow_0 3 rfl ?_
  refine vIconst X dL_writeRow_1 (v := nI 0) (by decide) ?_
  refine vAloadN X dL_writeRow_2 0 rfl ?_
  refine vIloadN X dL_writeRow_3 1 rfl ?_
  refine vIloadN X dL_writeRow_4 2 rfl ?_
  rcases hc with ⟨rfl, hc⟩ | ⟨hpos, hcx, hinv⟩
  · refine vCallV X [.int (nI 0), .ref ou] hc (vGV q_483 q_484 q_485 q_24 q_486) ⟨by decide, by decide, (show _ = some 2 from by decide +kernel)⟩ ⟨(Nat.le_of_ble_eq_true rfl), (Nat.le_of_ble_eq_true rfl)⟩ ix 3 rfl rfl (hix.trans (by rw [fx])) rfl (Nat.le_of_ble_eq_true rfl) dL_writeRow_5 ⟨(Nat.le_of_ble_eq_true rfl), (Nat.le_of_ble_eq_true rfl)⟩ (fun v9 w9 hp9 => ?_)
    obtain ⟨L1, f1, rfl, rfl, hk1, hi1⟩ := hp9
    refine vI2l X dL_writeRow_8 (v := v.toInt64) rfl ?_
    refine vpLastore X (hk1 ou hou).1 (((hk1 ou hou).2 hzo).trans fou) 5 rfl rfl (by decide) (by decide) (g' := vp_updL g0 0 (v.toInt64)) rfl dL_writeRow_9 ?_
    refine vGoto X 21 dL_writeRow_10 (by decide) ?_
    refine vIconst X dL_writeRow_21 (v := nI 0) (by decide) ?_
    refine vWiden 1 6 (Nat.le_of_ble_eq_true rfl) (Nat.le_of_ble_eq_true rfl) ?_
    exact vRetIL X hret dL_writeRow_22 ⟨L1, _, _, rfl, rfl, (fun a ha => ⟨(hk1 a ha).1, fun hz hn => (va_up_nq _ hn).trans ((hk1 a ha).2 hz)⟩), va_up_eq _ _ _, fun _ => rfl, hi1.foreign (fun t ht => ⟨ht, fun hz => va_up_nq _ (fun e => hz (by rw [e]; exact hzo))⟩)⟩
  · rcases (show kk = 1 ∨ kk = 2 by omega) with rfl | rfl
    · have hcx9 : vCtX l yX3_writeRow cX3_writeRow 5 (some .int) 10 152 1 6 D vCl (vTy k) sb [.ref x, .int p0, .int p1] (va_pl L f) "java/lang/IndexOutOfBoundsException" := hcx
      refine vCatch X hE [.int (nI 0), .ref ou] hcx9 (vGV q_483 q_484 q_485 q_24 q_486) ⟨by decide, by decide, (show _ = some 2 from by decide +kernel)⟩ ⟨(Nat.le_of_ble_eq_true rfl), (Nat.le_of_ble_eq_true rfl)⟩ ix 3 rfl rfl (hix.trans (by rw [fx])) rfl (Nat.le_of_ble_eq_true rfl) dL_writeRow_5 ⟨(Nat.le_of_ble_eq_true rfl), (Nat.le_of_ble_eq_true rfl)⟩ [] (⟨0, 10, 13, 13⟩ : ExceptionTableEntry) [(⟨0, 10, 17, 42⟩ : ExceptionTableEntry)] (htab.trans rfl) (fun _ hz => absurd hz List.not_mem_nil) (by decide) (by decide) (name := "java/lang/IndexOutOfBoundsException") (List.mem_cons_of_mem _ q_257) t_351 (fun a9 => ?_)
      refine vPc (pc' := 13) rfl ?_
      refine vAstore X _ dL_writeRow_13 (by decide) rfl ?_
      refine vIconst X dL_writeRow_15 (v := nI 1) (by decide) ?_
      refine vWiden 1 6 (Nat.le_of_ble_eq_true rfl) (Nat.le_of_ble_eq_true rfl) ?_
      exact vRetIL X hret dL_writeRow_16 ⟨L, f, g0, rfl, rfl, (fun a ha => ⟨ha, fun _ _ => rfl⟩), fou, fun e => absurd e (by decide), hinv⟩
    · have hcx9 : vCtX l yX3_writeRow cX3_writeRow 5 (some .int) 10 152 1 6 D vCl (vTy k) sb [.ref x, .int p0, .int p1] (va_pl L f) "java/lang/IllegalStateException" := hcx
      refine vCatch X hE [.int (nI 0), .ref ou] hcx9 (vGV q_483 q_484 q_485 q_24 q_486) ⟨by decide, by decide, (show _ = some 2 from by decide +kernel)⟩ ⟨(Nat.le_of_ble_eq_true rfl), (Nat.le_of_ble_eq_true rfl)⟩ ix 3 rfl rfl (hix.trans (by rw [fx])) rfl (Nat.le_of_ble_eq_true rfl) dL_writeRow_5 ⟨(Nat.le_of_ble_eq_true rfl), (Nat.le_of_ble_eq_true rfl)⟩ [(⟨0, 10, 13, 13⟩ : ExceptionTableEntry)] (⟨0, 10, 17, 42⟩ : ExceptionTableEntry) [] (htab.trans rfl) (List.forall_mem_cons.mpr ⟨⟨by decide, _, List.mem_cons_of_mem _ q_257, by decide⟩, (fun _ hz => absurd hz List.not_mem_nil)⟩) (by decide) (by decide) (name := "java/lang/IllegalStateException") (List.mem_cons_of_mem _ q_433) t_453 (fun a9 => ?_)
      refine vPc (pc' := 17) rfl ?_
      refine vAstore X _ dL_writeRow_17 (by decide) rfl ?_
      refine vIconst X dL_writeRow_19 (v := nI 2) (by decide) ?_
      refine vWiden 1 6 (Nat.le_of_ble_eq_true rfl) (Nat.le_of_ble_eq_true rfl) ?_
      exact vRetIL X hret dL_writeRow_20 ⟨L, f, g0, rfl, rfl, (fun a ha => ⟨ha, fun _ _ => rfl⟩), fou, fun e => absurd e (by decide), hinv⟩
set_option maxHeartbeats 4000000 in
theorem lc_writeNumber (l : Launch) (D : va_G) (k : Nat → ClassId) (sb : Nat) (L : List Nat) (f : Nat → va_E) (Z : Nat → Prop) (x : Nat) (B : Nat → Nat → Int32) (Ln Rm : Nat → Nat) (Rd : Nat → Option Nat) (Pl Mk : Nat → Nat) (G : Nat → Nat → Int32) (Sz : Nat → Nat) (hl : l.stackTraces = false) (h : cInv k L f Z x B Ln Rm Rd Pl Mk G Sz) (hZ : ∀ a, Z a → a ∈ L) (ou : Nat) (g0 : Nat → Int64) (hou : ou ∈ L) (hzo : Z ou) (fou : f ou = .inl (k 5, 1, .inr (.inl g0))) (p0 : Int32) (p1 : Int32) : ∃ (kk : Nat) (v : Int32) (B' : Nat → Nat → Int32) (Ln' Rm' : Nat → Nat) (Rd' : Nat → Option Nat) (Pl' Mk' : Nat → Nat) (G' : Nat → Nat → Int32) (Sz' : Nat → Nat), kk ≤ 2 ∧ vCtL l yL_writeNumber cL_writeNumber 5 [(0, 10, 13, 13), (0, 10, 17, 42)] 10 155 1 6 D vCl (vTy k) sb [.ref x, .int p0, .int p1, .ref ou] (va_pl L f) (wPost k L f Z x ou kk (v.toInt64) B' Ln' Rm' Rd' Pl' Mk' G' Sz') ∧ (∀ (o : Nat → Nat) (Kp : Nat → Int32) (th : Int32), ∃ Kp' : Nat → Int32, ∀ pl : va_W, vCt l yX4_writeNumber cX4_writeNumber 4 (some .int) 2 44 0 0 D vCl (vTy k) sb [.ref (o 0), .int p0, .int p1] (mW k o pl B Ln Rm Rd Pl Mk G Sz Kp th) (vDet (some (.int v)) (mW k o pl B' Ln' Rm' Rd' Pl' Mk' G' Sz' Kp' (nI kk)))) := by
  obtain ⟨kk, v, B', Ln', Rm', Rd', Pl', Mk', G', Sz', hkk, hc, hm⟩ := cl_writeNumber l D k sb L f Z x B Ln Rm Rd Pl Mk G Sz hl h hZ p0 p1
  refine ⟨kk, v, B', Ln', Rm', Rd', Pl', Mk', G', Sz', hkk, ?_, hm⟩
  obtain ⟨hxL, fs, fx⟩ := h.obj
  obtain ⟨ix, hix⟩ := vp_ix (f := f) hxL
  refine vOfL (by decide +kernel) (Nat.le_of_ble_eq_true rfl) (fun p9 e9 s9 m9 below9 meth9 c9 X hret htab hE => ?_)
  refine vAloadN X dL_writeNumber_0 3 rfl ?_
  refine vIconst X dL_writeNumber_1 (v := nI 0) (by decide) ?_
  refine vAloadN X dL_writeNumber_2 0 rfl ?_
  refine vIloadN X dL_writeNumber_3 1 rfl ?_
  refine vIloadN X dL_writeNumber_4 2 rfl ?_
  rcases hc with ⟨rfl, hc⟩ | ⟨hpos, hcx, hinv⟩
  · refine vCallV X [.int (nI 0), .ref ou] hc (vGV q_490 q_491 q_492 q_24 q_493) ⟨by decide, by decide, (show _ = some 2 from by decide +kernel)⟩ ⟨(Nat.le_of_ble_eq_true rfl), (Nat.le_of_ble_eq_true rfl)⟩ ix 3 rfl rfl (hix.trans (by rw [fx])) rfl (Nat.le_of_ble_eq_true rfl) dL_writeNumber_5 ⟨(Nat.le_of_ble_eq_true rfl), (Nat.le_of_ble_eq_true rfl)⟩ (fun v9 w9 hp9 => ?_)
    obtain ⟨L1, f1, rfl, rfl, hk1, hi1⟩ := hp9
    refine vI2l X dL_writeNumber_8 (v := v.toInt64) rfl ?_
    refine vpLastore X (hk1 ou hou).1 (((hk1 ou hou).2 hzo).trans fou) 5 rfl rfl (by decide) (by decide) (g' := vp_updL g0 0 (v.toInt64)) rfl dL_writeNumber_9 ?_
    refine vGoto X 21 dL_writeNumber_10 (by decide) ?_
    refine vIconst X dL_writeNumber_21 (v := nI 0) (by decide) ?_
    refine vWiden 1 6 (Nat.le_of_ble_eq_true rfl) (Nat.le_of_ble_eq_true rfl) ?_
    exact vRetIL X hret dL_writeNumber_22 ⟨L1, _, _, rfl, rfl, (fun a ha => ⟨(hk1 a ha).1, fun hz hn => (va_up_nq _ hn).trans ((hk1 a ha).2 hz)⟩), va_up_eq _ _ _, fun _ => rfl, hi1.foreign (fun t ht => ⟨ht, fun hz => va_up_nq _ (fun e => hz (by rw [e]; exact hzo))⟩)⟩
  · rcases (show kk = 1 ∨ kk = 2 by omega) with rfl | rfl
    · have hcx9 : vCtX l yX3_writeNumber cX3_writeNumber 5 (some .int) 9 131 1 6 D vCl (vTy k) sb [.ref x, .int p0, .int p1] (va_pl L f) "java/lang/IndexOutOfBoundsException" := hcx
      refine vCatch X hE [.int (nI 0), .ref ou] hcx9 (vGV q_490 q_491 q_492 q_24 q_493) ⟨by decide, by decide, (show _ = some 2 from by decide +kernel)⟩ ⟨(Nat.le_of_ble_eq_true rfl), (Nat.le_of_ble_eq_true rfl)⟩ ix 3 rfl rfl (hix.trans (by rw [fx])) rfl (Nat.le_of_ble_eq_true rfl) dL_writeNumber_5 ⟨(Nat.le_of_ble_eq_true rfl), (Nat.le_of_ble_eq_true rfl)⟩ [] (⟨0, 10, 13, 13⟩ : ExceptionTableEntry) [(⟨0, 10, 17, 42⟩ : ExceptionTableEntry)] (htab.trans rfl) (fun _ hz => absurd hz List.not_mem_nil) (by decide) (by decide) (name := "java/lang/IndexOutOfBoundsException") (List.mem_cons_of_mem _ q_257) t_351 (fun a9 => ?_)
      refine vPc (pc' := 13) rfl ?_
      refine vAstore X _ dL_writeNumber_13 (by decide) rfl ?_
      refine vIconst X dL_writeNumber_15 (v := nI 1) (by decide) ?_
      refine vWiden 1 6 (Nat.le_of_ble_eq_true rfl) (Nat.le_of_ble_eq_true rfl) ?_
      exact vRetIL X hret dL_writeNumber_16 ⟨L, f, g0, rfl, rfl, (fun a ha => ⟨ha, fun _ _ => rfl⟩), fou, fun e => absurd e (by decide), hinv⟩
    · have hcx9 : vCtX l yX3_writeNumber cX3_writeNumber 5 (some .int) 9 131 1 6 D vCl (vTy k) sb [.ref x, .int p0, .int p1] (va_pl L f) "java/lang/IllegalStateException" := hcx
      refine vCatch X hE [.int (nI 0), .ref ou] hcx9 (vGV q_490 q_491 q_492 q_24 q_493) ⟨by decide, by decide, (show _ = some 2 from by decide +kernel)⟩ ⟨(Nat.le_of_ble_eq_true rfl), (Nat.le_of_ble_eq_true rfl)⟩ ix 3 rfl rfl (hix.trans (by rw [fx])) rfl (Nat.le_of_ble_eq_true rfl) dL_writeNumber_5 ⟨(Nat.le_of_ble_eq_true rfl), (Nat.le_of_ble_eq_true rfl)⟩ [(⟨0, 10, 13, 13⟩ : ExceptionTableEntry)] (⟨0, 10, 17, 42⟩ : ExceptionTableEntry) [] (htab.trans rfl) (List.forall_mem_cons.mpr ⟨⟨by decide, _, List.mem_cons_of_mem _ q_257, by decide⟩, (fun _ hz => absurd hz List.not_mem_nil)⟩) (by decide) (by decide) (name := "java/lang/IllegalStateException") (List.mem_cons_of_mem _ q_433) t_453 (fun a9 => ?_)
      refine vPc (pc' := 17) rfl ?_
      refine vAstore X _ dL_writeNumber_17 (by decide) rfl ?_
      refine vIconst X dL_writeNumber_19 (v := nI 2) (by decide) ?_
      refine vWiden 1 6 (Nat.le_of_ble_eq_true rfl) (Nat.le_of_ble_eq_true rfl) ?_
      exact vRetIL X hret dL_writeNumber_20 ⟨L, f, g0, rfl, rfl, (fun a ha => ⟨ha, fun _ _ => rfl⟩), fou, fun e => absurd e (by decide), hinv⟩
set_option maxHeartbeats 4000000 in
theorem lc_size (l : Launch) (D : va_G) (k : Nat → ClassId) (sb : Nat) (L : List Nat) (f : Nat → va_E) (Z : Nat → Prop) (x : Nat) (B : Nat → Nat → Int32) (Ln Rm : Nat → Nat) (Rd : Nat → Option Nat) (Pl Mk : Nat → Nat) (G : Nat → Nat → Int32) (Sz : Nat → Nat) (hl : l.stackTraces = false) (h : cInv k L f Z x B Ln Rm Rd Pl Mk G Sz) (hZ : ∀ a, Z a → a ∈ L) (ou : Nat) (g0 : Nat → Int64) (hou : ou ∈ L) (hzo : Z ou) (fou : f ou = .inl (k 5, 1, .inr (.inl g0))) (p0 : Int32) : ∃ (kk : Nat) (v : Int32) (B' : Nat → Nat → Int32) (Ln' Rm' : Nat → Nat) (Rd' : Nat → Option Nat) (Pl' Mk' : Nat → Nat) (G' : Nat → Nat → Int32) (Sz' : Nat → Nat), kk ≤ 1 ∧ vCtL l yL_size cL_size 4 [(0, 9, 12, 13)] 10 152 1 6 D vCl (vTy k) sb [.ref x, .int p0, .ref ou] (va_pl L f) (wPost k L f Z x ou kk (v.toInt64) B' Ln' Rm' Rd' Pl' Mk' G' Sz') ∧ (∀ (o : Nat → Nat) (Kp : Nat → Int32) (th : Int32), ∃ Kp' : Nat → Int32, ∀ pl : va_W, vCt l yX4_size cX4_size 2 (some .int) 1 21 0 0 D vCl (vTy k) sb [.ref (o 0), .int p0] (mW k o pl B Ln Rm Rd Pl Mk G Sz Kp th) (vDet (some (.int v)) (mW k o pl B' Ln' Rm' Rd' Pl' Mk' G' Sz' Kp' (nI kk)))) := by
  obtain ⟨kk, v, B', Ln', Rm', Rd', Pl', Mk', G', Sz', hkk, hc, hm⟩ := cl_size l D k sb L f Z x B Ln Rm Rd Pl Mk G Sz hl h hZ p0
  refine ⟨kk, v, B', Ln', Rm', Rd', Pl', Mk', G', Sz', hkk, ?_, hm⟩
  obtain ⟨hxL, fs, fx⟩ := h.obj
  obtain ⟨ix, hix⟩ := vp_ix (f := f) hxL
  refine vOfL (by decide +kernel) (Nat.le_of_ble_eq_true rfl) (fun p9 e9 s9 m9 below9 meth9 c9 X hret htab hE => ?_)
  refine vAloadN X dL_size_0 2 rfl ?_
  refine vIconst X dL_size_1 (v := nI 0) (by decide) ?_
  refine vAloadN X dL_size_2 0 rfl ?_
  refine vIloadN X dL_size_3 1 rfl ?_
  rcases hc with ⟨rfl, hc⟩ | ⟨hpos, hcx, hinv⟩
  · refine vCallV X [.int (nI 0), .ref ou] hc (vGV q_497 q_498 q_499 q_24 q_500) ⟨by decide, by decide, (show _ = some 1 from by decide +kernel)⟩ ⟨(Nat.le_of_ble_eq_true rfl), (Nat.le_of_ble_eq_true rfl)⟩ ix 3 rfl rfl (hix.trans (by rw [fx])) rfl (Nat.le_of_ble_eq_true rfl) dL_size_4 ⟨(Nat.le_of_ble_eq_true rfl), (Nat.le_of_ble_eq_true rfl)⟩ (fun v9 w9 hp9 => ?_)
    obtain ⟨L1, f1, rfl, rfl, hk1, hi1⟩ := hp9
    refine vI2l X dL_size_7 (v := v.toInt64) rfl ?_
    refine vpLastore X (hk1 ou hou).1 (((hk1 ou hou).2 hzo).trans fou) 5 rfl rfl (by decide) (by decide) (g' := vp_updL g0 0 (v.toInt64)) rfl dL_size_8 ?_
    refine vGoto X 15 dL_size_9 (by decide) ?_
    refine vIconst X dL_size_15 (v := nI 0) (by decide) ?_
    refine vWiden 1 6 (Nat.le_of_ble_eq_true rfl) (Nat.le_of_ble_eq_true rfl) ?_
    exact vRetIL X hret dL_size_16 ⟨L1, _, _, rfl, rfl, (fun a ha => ⟨(hk1 a ha).1, fun hz hn => (va_up_nq _ hn).trans ((hk1 a ha).2 hz)⟩), va_up_eq _ _ _, fun _ => rfl, hi1.foreign (fun t ht => ⟨ht, fun hz => va_up_nq _ (fun e => hz (by rw [e]; exact hzo))⟩)⟩
  · obtain rfl : kk = 1 := by omega
    have hcx9 : vCtX l yX3_size cX3_size 2 (some .int) 9 131 1 6 D vCl (vTy k) sb [.ref x, .int p0] (va_pl L f) "java/lang/IndexOutOfBoundsException" := hcx
    refine vCatch X hE [.int (nI 0), .ref ou] hcx9 (vGV q_497 q_498 q_499 q_24 q_500) ⟨by decide, by decide, (show _ = some 1 from by decide +kernel)⟩ ⟨(Nat.le_of_ble_eq_true rfl), (Nat.le_of_ble_eq_true rfl)⟩ ix 3 rfl rfl (hix.trans (by rw [fx])) rfl (Nat.le_of_ble_eq_true rfl) dL_size_4 ⟨(Nat.le_of_ble_eq_true rfl), (Nat.le_of_ble_eq_true rfl)⟩ [] (⟨0, 9, 12, 13⟩ : ExceptionTableEntry) [] (htab.trans rfl) (fun _ hz => absurd hz List.not_mem_nil) (by decide) (by decide) (name := "java/lang/IndexOutOfBoundsException") (List.mem_cons_of_mem _ q_257) t_351 (fun a9 => ?_)
    refine vPc (pc' := 12) rfl ?_
    refine vAstoreN X _ dL_size_12 (by decide) rfl ?_
    refine vIconst X dL_size_13 (v := nI 1) (by decide) ?_
    refine vWiden 1 6 (Nat.le_of_ble_eq_true rfl) (Nat.le_of_ble_eq_true rfl) ?_
    exact vRetIL X hret dL_size_14 ⟨L, f, g0, rfl, rfl, (fun a ha => ⟨ha, fun _ _ => rfl⟩), fou, fun e => absurd e (by decide), hinv⟩
set_option maxHeartbeats 4000000 in
theorem lc_empty (l : Launch) (D : va_G) (k : Nat → ClassId) (sb : Nat) (L : List Nat) (f : Nat → va_E) (Z : Nat → Prop) (x : Nat) (B : Nat → Nat → Int32) (Ln Rm : Nat → Nat) (Rd : Nat → Option Nat) (Pl Mk : Nat → Nat) (G : Nat → Nat → Int32) (Sz : Nat → Nat) (hl : l.stackTraces = false) (h : cInv k L f Z x B Ln Rm Rd Pl Mk G Sz) (hZ : ∀ a, Z a → a ∈ L) (ou : Nat) (g0 : Nat → Int64) (hou : ou ∈ L) (hzo : Z ou) (fou : f ou = .inl (k 5, 1, .inr (.inl g0))) (p0 : Int32) : ∃ (kk : Nat) (v : Int32) (B' : Nat → Nat → Int32) (Ln' Rm' : Nat → Nat) (Rd' : Nat → Option Nat) (Pl' Mk' : Nat → Nat) (G' : Nat → Nat → Int32) (Sz' : Nat → Nat), kk ≤ 1 ∧ vCtL l yL_empty cL_empty 4 [(0, 9, 12, 13)] 10 154 1 6 D vCl (vTy k) sb [.ref x, .int p0, .ref ou] (va_pl L f) (wPost k L f Z x ou kk (v.toInt64) B' Ln' Rm' Rd' Pl' Mk' G' Sz') ∧ (∀ (o : Nat → Nat) (Kp : Nat → Int32) (th : Int32), ∃ Kp' : Nat → Int32, ∀ pl : va_W, vCt l yX4_empty cX4_empty 3 (some .int) 1 21 0 0 D vCl (vTy k) sb [.ref (o 0), .int p0] (mW k o pl B Ln Rm Rd Pl Mk G Sz Kp th) (vDet (some (.int v)) (mW k o pl B' Ln' Rm' Rd' Pl' Mk' G' Sz' Kp' (nI kk)))) := by
  obtain ⟨kk, v, B', Ln', Rm', Rd', Pl', Mk', G', Sz', hkk, hc, hm⟩ := cl_empty l D k sb L f Z x B Ln Rm Rd Pl Mk G Sz hl h hZ p0
  refine ⟨kk, v, B', Ln', Rm', Rd', Pl', Mk', G', Sz', hkk, ?_, hm⟩
  obtain ⟨hxL, fs, fx⟩ := h.obj
  obtain ⟨ix, hix⟩ := vp_ix (f := f) hxL
  refine vOfL (by decide +kernel) (Nat.le_of_ble_eq_true rfl) (fun p9 e9 s9 m9 below9 meth9 c9 X hret htab hE => ?_)
  refine vAloadN X dL_empty_0 2 rfl ?_
  refine vIconst X dL_empty_1 (v := nI 0) (by decide) ?_
  refine vAloadN X dL_empty_2 0 rfl ?_
  refine vIloadN X dL_empty_3 1 rfl ?_
  rcases hc with ⟨rfl, hc⟩ | ⟨hpos, hcx, hinv⟩
  · refine vCallV X [.int (nI 0), .ref ou] hc (vGV q_504 q_505 q_506 q_24 q_507) ⟨by decide, by decide, (show _ = some 1 from by decide +kernel)⟩ ⟨(Nat.le_of_ble_eq_true rfl), (Nat.le_of_ble_eq_true rfl)⟩ ix 3 rfl rfl (hix.trans (by rw [fx])) rfl (Nat.le_of_ble_eq_true rfl) dL_empty_4 ⟨(Nat.le_of_ble_eq_true rfl), (Nat.le_of_ble_eq_true rfl)⟩ (fun v9 w9 hp9 => ?_)
    obtain ⟨L1, f1, rfl, rfl, hk1, hi1⟩ := hp9
    refine vI2l X dL_empty_7 (v := v.toInt64) rfl ?_
    refine vpLastore X (hk1 ou hou).1 (((hk1 ou hou).2 hzo).trans fou) 5 rfl rfl (by decide) (by decide) (g' := vp_updL g0 0 (v.toInt64)) rfl dL_empty_8 ?_
    refine vGoto X 15 dL_empty_9 (by decide) ?_
    refine vIconst X dL_empty_15 (v := nI 0) (by decide) ?_
    refine vWiden 1 6 (Nat.le_of_ble_eq_true rfl) (Nat.le_of_ble_eq_true rfl) ?_
    exact vRetIL X hret dL_empty_16 ⟨L1, _, _, rfl, rfl, (fun a ha => ⟨(hk1 a ha).1, fun hz hn => (va_up_nq _ hn).trans ((hk1 a ha).2 hz)⟩), va_up_eq _ _ _, fun _ => rfl, hi1.foreign (fun t ht => ⟨ht, fun hz => va_up_nq _ (fun e => hz (by rw [e]; exact hzo))⟩)⟩
  · obtain rfl : kk = 1 := by omega
    have hcx9 : vCtX l yX3_empty cX3_empty 4 (some .int) 9 131 1 6 D vCl (vTy k) sb [.ref x, .int p0] (va_pl L f) "java/lang/IndexOutOfBoundsException" := hcx
    refine vCatch X hE [.int (nI 0), .ref ou] hcx9 (vGV q_504 q_505 q_506 q_24 q_507) ⟨by decide, by decide, (show _ = some 1 from by decide +kernel)⟩ ⟨(Nat.le_of_ble_eq_true rfl), (Nat.le_of_ble_eq_true rfl)⟩ ix 3 rfl rfl (hix.trans (by rw [fx])) rfl (Nat.le_of_ble_eq_true rfl) dL_empty_4 ⟨(Nat.le_of_ble_eq_true rfl), (Nat.le_of_ble_eq_true rfl)⟩ [] (⟨0, 9, 12, 13⟩ : ExceptionTableEntry) [] (htab.trans rfl) (fun _ hz => absurd hz List.not_mem_nil) (by decide) (by decide) (name := "java/lang/IndexOutOfBoundsException") (List.mem_cons_of_mem _ q_257) t_351 (fun a9 => ?_)
    refine vPc (pc' := 12) rfl ?_
    refine vAstoreN X _ dL_empty_12 (by decide) rfl ?_
    refine vIconst X dL_empty_13 (v := nI 1) (by decide) ?_
    refine vWiden 1 6 (Nat.le_of_ble_eq_true rfl) (Nat.le_of_ble_eq_true rfl) ?_
    exact vRetIL X hret dL_empty_14 ⟨L, f, g0, rfl, rfl, (fun a ha => ⟨ha, fun _ _ => rfl⟩), fou, fun e => absurd e (by decide), hinv⟩
set_option maxHeartbeats 4000000 in
theorem lc_take (l : Launch) (D : va_G) (k : Nat → ClassId) (sb : Nat) (L : List Nat) (f : Nat → va_E) (Z : Nat → Prop) (x : Nat) (B : Nat → Nat → Int32) (Ln Rm : Nat → Nat) (Rd : Nat → Option Nat) (Pl Mk : Nat → Nat) (G : Nat → Nat → Int32) (Sz : Nat → Nat) (hl : l.stackTraces = false) (h : cInv k L f Z x B Ln Rm Rd Pl Mk G Sz) (hZ : ∀ a, Z a → a ∈ L) (ou : Nat) (g0 : Nat → Int64) (hou : ou ∈ L) (hzo : Z ou) (fou : f ou = .inl (k 5, 1, .inr (.inl g0))) (p0 : Int32) (p1 : Int32) : ∃ (kk : Nat) (v : Int32) (B' : Nat → Nat → Int32) (Ln' Rm' : Nat → Nat) (Rd' : Nat → Option Nat) (Pl' Mk' : Nat → Nat) (G' : Nat → Nat → Int32) (Sz' : Nat → Nat), kk ≤ 1 ∧ vCtL l yL_take cL_take 5 [(0, 10, 13, 13)] 10 155 2 257 D vCl (vTy k) sb [.ref x, .int p0, .int p1, .ref ou] (va_pl L f) (wPost k L f Z x ou kk (v.toInt64) B' Ln' Rm' Rd' Pl' Mk' G' Sz') ∧ (∀ (o : Nat → Nat) (Kp : Nat → Int32) (th : Int32), ∃ Kp' : Nat → Int32, ∀ pl : va_W, vCt l yX4_take cX4_take 4 (some .int) 2 47 0 0 D vCl (vTy k) sb [.ref (o 0), .int p0, .int p1] (mW k o pl B Ln Rm Rd Pl Mk G Sz Kp th) (vDet (some (.int v)) (mW k o pl B' Ln' Rm' Rd' Pl' Mk' G' Sz' Kp' (nI kk)))) := by
  obtain ⟨kk, v, B', Ln', Rm', Rd', Pl', Mk', G', Sz', hkk, hc, hm⟩ := cl_take l D k sb L f Z x B Ln Rm Rd Pl Mk G Sz hl h hZ p0 p1
  refine ⟨kk, v, B', Ln', Rm', Rd', Pl', Mk', G', Sz', hkk, ?_, hm⟩
  obtain ⟨hxL, fs, fx⟩ := h.obj
  obtain ⟨ix, hix⟩ := vp_ix (f := f) hxL
  refine vOfL (by decide +kernel) (Nat.le_of_ble_eq_true rfl) (fun p9 e9 s9 m9 below9 meth9 c9 X hret htab hE => ?_)
  refine vAloadN X dL_take_0 3 rfl ?_
  refine vIconst X dL_take_1 (v := nI 0) (by decide) ?_
  refine vAloadN X dL_take_2 0 rfl ?_
  refine vIloadN X dL_take_3 1 rfl ?_
  refine vIloadN X dL_take_4 2 rfl ?_
  rcases hc with ⟨rfl, hc⟩ | ⟨hpos, hcx, hinv⟩
  · refine vCallV X [.int (nI 0), .ref ou] hc (vGV q_511 q_512 q_513 q_24 q_514) ⟨by decide, by decide, (show _ = some 2 from by decide +kernel)⟩ ⟨(Nat.le_of_ble_eq_true rfl), (Nat.le_of_ble_eq_true rfl)⟩ ix 3 rfl rfl (hix.trans (by rw [fx])) rfl (Nat.le_of_ble_eq_true rfl) dL_take_5 ⟨(Nat.le_of_ble_eq_true rfl), (Nat.le_of_ble_eq_true rfl)⟩ (fun v9 w9 hp9 => ?_)
    obtain ⟨L1, f1, rfl, rfl, hk1, hi1⟩ := hp9
    refine vI2l X dL_take_8 (v := v.toInt64) rfl ?_
    refine vpLastore X (hk1 ou hou).1 (((hk1 ou hou).2 hzo).trans fou) 5 rfl rfl (by decide) (by decide) (g' := vp_updL g0 0 (v.toInt64)) rfl dL_take_9 ?_
    refine vGoto X 17 dL_take_10 (by decide) ?_
    refine vIconst X dL_take_17 (v := nI 0) (by decide) ?_
    refine vWiden 2 257 (Nat.le_of_ble_eq_true rfl) (Nat.le_of_ble_eq_true rfl) ?_
    exact vRetIL X hret dL_take_18 ⟨L1, _, _, rfl, rfl, (fun a ha => ⟨(hk1 a ha).1, fun hz hn => (va_up_nq _ hn).trans ((hk1 a ha).2 hz)⟩), va_up_eq _ _ _, fun _ => rfl, hi1.foreign (fun t ht => ⟨ht, fun hz => va_up_nq _ (fun e => hz (by rw [e]; exact hzo))⟩)⟩
  · obtain rfl : kk = 1 := by omega
    have hcx9 : vCtX l yX3_take cX3_take 5 (some .int) 9 131 1 6 D vCl (vTy k) sb [.ref x, .int p0, .int p1] (va_pl L f) "java/lang/IndexOutOfBoundsException" := hcx
    refine vCatch X hE [.int (nI 0), .ref ou] hcx9 (vGV q_511 q_512 q_513 q_24 q_514) ⟨by decide, by decide, (show _ = some 2 from by decide +kernel)⟩ ⟨(Nat.le_of_ble_eq_true rfl), (Nat.le_of_ble_eq_true rfl)⟩ ix 3 rfl rfl (hix.trans (by rw [fx])) rfl (Nat.le_of_ble_eq_true rfl) dL_take_5 ⟨(Nat.le_of_ble_eq_true rfl), (Nat.le_of_ble_eq_true rfl)⟩ [] (⟨0, 10, 13, 13⟩ : ExceptionTableEntry) [] (htab.trans rfl) (fun _ hz => absurd hz List.not_mem_nil) (by decide) (by decide) (name := "java/lang/IndexOutOfBoundsException") (List.mem_cons_of_mem _ q_257) t_351 (fun a9 => ?_)
    refine vPc (pc' := 13) rfl ?_
    refine vAstore X _ dL_take_13 (by decide) rfl ?_
    refine vIconst X dL_take_15 (v := nI 1) (by decide) ?_
    refine vWiden 2 257 (Nat.le_of_ble_eq_true rfl) (Nat.le_of_ble_eq_true rfl) ?_
    exact vRetIL X hret dL_take_16 ⟨L, f, g0, rfl, rfl, (fun a ha => ⟨ha, fun _ _ => rfl⟩), fou, fun e => absurd e (by decide), hinv⟩
set_option maxHeartbeats 4000000 in
theorem lc_open (l : Launch) (D : va_G) (k : Nat → ClassId) (sb : Nat) (L : List Nat) (f : Nat → va_E) (Z : Nat → Prop) (x : Nat) (B : Nat → Nat → Int32) (Ln Rm : Nat → Nat) (Rd : Nat → Option Nat) (Pl Mk : Nat → Nat) (G : Nat → Nat → Int32) (Sz : Nat → Nat) (hl : l.stackTraces = false) (h : cInv k L f Z x B Ln Rm Rd Pl Mk G Sz) (hZ : ∀ a, Z a → a ∈ L) (ou : Nat) (g0 : Nat → Int64) (hou : ou ∈ L) (hzo : Z ou) (fou : f ou = .inl (k 5, 1, .inr (.inl g0))) (p0 : Int32) (p1 : Int32) : ∃ (kk : Nat) (v : Int32) (B' : Nat → Nat → Int32) (Ln' Rm' : Nat → Nat) (Rd' : Nat → Option Nat) (Pl' Mk' : Nat → Nat) (G' : Nat → Nat → Int32) (Sz' : Nat → Nat), kk ≤ 1 ∧ vCtL l yL_open cL_open 5 [(0, 10, 13, 13)] 11 175 1 6 D vCl (vTy k) sb [.ref x, .int p0, .int p1, .ref ou] (va_pl L f) (wPost k L f Z x ou kk (v.toInt64) B' Ln' Rm' Rd' Pl' Mk' G' Sz') ∧ (∀ (o : Nat → Nat) (Kp : Nat → Int32) (th : Int32), ∃ Kp' : Nat → Int32, ∀ pl : va_W, vCt l yX4_open cX4_open 3 (some .int) 1 21 0 0 D vCl (vTy k) sb [.ref (o 0), .int p0, .int p1] (mW k o pl B Ln Rm Rd Pl Mk G Sz Kp th) (vDet (some (.int v)) (mW k o pl B' Ln' Rm' Rd' Pl' Mk' G' Sz' Kp' (nI kk)))) := by
  obtain ⟨kk, v, B', Ln', Rm', Rd', Pl', Mk', G', Sz', hkk, hc, hm⟩ := cl_open l D k sb L f Z x B Ln Rm Rd Pl Mk G Sz hl h hZ p0 p1
  refine ⟨kk, v, B', Ln', Rm', Rd', Pl', Mk', G', Sz', hkk, ?_, hm⟩
  obtain ⟨hxL, fs, fx⟩ := h.obj
  obtain ⟨ix, hix⟩ := vp_ix (f := f) hxL
  refine vOfL (by decide +kernel) (Nat.le_of_ble_eq_true rfl) (fun p9 e9 s9 m9 below9 meth9 c9 X hret htab hE => ?_)
  refine vAloadN X dL_open_0 3 rfl ?_
  refine vIconst X dL_open_1 (v := nI 0) (by decide) ?_
  refine vAloadN X dL_open_2 0 rfl ?_
  refine vIloadN X dL_open_3 1 rfl ?_
  refine vIloadN X dL_open_4 2 rfl ?_
  rcases hc with ⟨rfl, hc⟩ | ⟨hpos, hcx, hinv⟩
  · refine vCallV X [.int (nI 0), .ref ou] hc (vGV q_518 q_519 q_520 q_24 q_521) ⟨by decide, by decide, (show _ = some 2 from by decide +kernel)⟩ ⟨(Nat.le_of_ble_eq_true rfl), (Nat.le_of_ble_eq_true rfl)⟩ ix 3 rfl rfl (hix.trans (by rw [fx])) rfl (Nat.le_of_ble_eq_true rfl) dL_open_5 ⟨(Nat.le_of_ble_eq_true rfl), (Nat.le_of_ble_eq_true rfl)⟩ (fun v9 w9 hp9 => ?_)
    obtain ⟨L1, f1, rfl, rfl, hk1, hi1⟩ := hp9
    refine vI2l X dL_open_8 (v := v.toInt64) rfl ?_
    refine vpLastore X (hk1 ou hou).1 (((hk1 ou hou).2 hzo).trans fou) 5 rfl rfl (by decide) (by decide) (g' := vp_updL g0 0 (v.toInt64)) rfl dL_open_9 ?_
    refine vGoto X 17 dL_open_10 (by decide) ?_
    refine vIconst X dL_open_17 (v := nI 0) (by decide) ?_
    refine vWiden 1 6 (Nat.le_of_ble_eq_true rfl) (Nat.le_of_ble_eq_true rfl) ?_
    exact vRetIL X hret dL_open_18 ⟨L1, _, _, rfl, rfl, (fun a ha => ⟨(hk1 a ha).1, fun hz hn => (va_up_nq _ hn).trans ((hk1 a ha).2 hz)⟩), va_up_eq _ _ _, fun _ => rfl, hi1.foreign (fun t ht => ⟨ht, fun hz => va_up_nq _ (fun e => hz (by rw [e]; exact hzo))⟩)⟩
  · obtain rfl : kk = 1 := by omega
    have hcx9 : vCtX l yX3_open cX3_open 4 (some .int) 10 152 1 6 D vCl (vTy k) sb [.ref x, .int p0, .int p1] (va_pl L f) "java/lang/IndexOutOfBoundsException" := hcx
    refine vCatch X hE [.int (nI 0), .ref ou] hcx9 (vGV q_518 q_519 q_520 q_24 q_521) ⟨by decide, by decide, (show _ = some 2 from by decide +kernel)⟩ ⟨(Nat.le_of_ble_eq_true rfl), (Nat.le_of_ble_eq_true rfl)⟩ ix 3 rfl rfl (hix.trans (by rw [fx])) rfl (Nat.le_of_ble_eq_true rfl) dL_open_5 ⟨(Nat.le_of_ble_eq_true rfl), (Nat.le_of_ble_eq_true rfl)⟩ [] (⟨0, 10, 13, 13⟩ : ExceptionTableEntry) [] (htab.trans rfl) (fun _ hz => absurd hz List.not_mem_nil) (by decide) (by decide) (name := "java/lang/IndexOutOfBoundsException") (List.mem_cons_of_mem _ q_257) t_351 (fun a9 => ?_)
    refine vPc (pc' := 13) rfl ?_
    refine vAstore X _ dL_open_13 (by decide) rfl ?_
    refine vIconst X dL_open_15 (v := nI 1) (by decide) ?_
    refine vWiden 1 6 (Nat.le_of_ble_eq_true rfl) (Nat.le_of_ble_eq_true rfl) ?_
    exact vRetIL X hret dL_open_16 ⟨L, f, g0, rfl, rfl, (fun a ha => ⟨ha, fun _ _ => rfl⟩), fou, fun e => absurd e (by decide), hinv⟩
set_option maxHeartbeats 4000000 in
theorem lc_isOpen (l : Launch) (D : va_G) (k : Nat → ClassId) (sb : Nat) (L : List Nat) (f : Nat → va_E) (Z : Nat → Prop) (x : Nat) (B : Nat → Nat → Int32) (Ln Rm : Nat → Nat) (Rd : Nat → Option Nat) (Pl Mk : Nat → Nat) (G : Nat → Nat → Int32) (Sz : Nat → Nat) (hl : l.stackTraces = false) (h : cInv k L f Z x B Ln Rm Rd Pl Mk G Sz) (hZ : ∀ a, Z a → a ∈ L) (ou : Nat) (g0 : Nat → Int64) (hou : ou ∈ L) (hzo : Z ou) (fou : f ou = .inl (k 5, 1, .inr (.inl g0))) (p0 : Int32) : ∃ (kk : Nat) (v : Int32) (B' : Nat → Nat → Int32) (Ln' Rm' : Nat → Nat) (Rd' : Nat → Option Nat) (Pl' Mk' : Nat → Nat) (G' : Nat → Nat → Int32) (Sz' : Nat → Nat), kk ≤ 1 ∧ vCtL l yL_isOpen cL_isOpen 4 [(0, 16, 19, 13)] 10 152 1 6 D vCl (vTy k) sb [.ref x, .int p0, .ref ou] (va_pl L f) (wPost k L f Z x ou kk (bL v) B' Ln' Rm' Rd' Pl' Mk' G' Sz') ∧ (∀ (o : Nat → Nat) (Kp : Nat → Int32) (th : Int32), ∃ Kp' : Nat → Int32, ∀ pl : va_W, vCt l yX4_isOpen cX4_isOpen 2 (some .boolean) 1 21 0 0 D vCl (vTy k) sb [.ref (o 0), .int p0] (mW k o pl B Ln Rm Rd Pl Mk G Sz Kp th) (vDet (some (.int v)) (mW k o pl B' Ln' Rm' Rd' Pl' Mk' G' Sz' Kp' (nI kk)))) := by
  obtain ⟨kk, v, B', Ln', Rm', Rd', Pl', Mk', G', Sz', hkk, hc, hm⟩ := cl_isOpen l D k sb L f Z x B Ln Rm Rd Pl Mk G Sz hl h hZ p0
  refine ⟨kk, v, B', Ln', Rm', Rd', Pl', Mk', G', Sz', hkk, ?_, hm⟩
  obtain ⟨hxL, fs, fx⟩ := h.obj
  obtain ⟨ix, hix⟩ := vp_ix (f := f) hxL
  refine vOfL (by decide +kernel) (Nat.le_of_ble_eq_true rfl) (fun p9 e9 s9 m9 below9 meth9 c9 X hret htab hE => ?_)
  refine vAloadN X dL_isOpen_0 2 rfl ?_
  refine vIconst X dL_isOpen_1 (v := nI 0) (by decide) ?_
  refine vAloadN X dL_isOpen_2 0 rfl ?_
  refine vIloadN X dL_isOpen_3 1 rfl ?_
  rcases hc with ⟨rfl, hc⟩ | ⟨hpos, hcx, hinv⟩
  · refine vCallV X [.int (nI 0), .ref ou] hc (vGV q_530 q_531 q_532 q_24 q_533) ⟨by decide, by decide, (show _ = some 1 from by decide +kernel)⟩ ⟨(Nat.le_of_ble_eq_true rfl), (Nat.le_of_ble_eq_true rfl)⟩ ix 3 rfl rfl (hix.trans (by rw [fx])) rfl (Nat.le_of_ble_eq_true rfl) dL_isOpen_4 ⟨(Nat.le_of_ble_eq_true rfl), (Nat.le_of_ble_eq_true rfl)⟩ (fun v9 w9 hp9 => ?_)
    obtain ⟨L1, f1, rfl, rfl, hk1, hi1⟩ := hp9
    by_cases hv : v = 0
    · refine vIf_eqT X 14 dL_isOpen_7 (by decide) hv ?_
      refine vLconst X dL_isOpen_14 (v := 0) (by decide) ?_
      refine vpLastore X (hk1 ou hou).1 (((hk1 ou hou).2 hzo).trans fou) 5 rfl rfl (by decide) (by decide) (g' := vp_updL g0 0 (0)) rfl dL_isOpen_15 ?_
      refine vGoto X 22 dL_isOpen_16 (by decide) ?_
      refine vIconst X dL_isOpen_22 (v := nI 0) (by decide) ?_
      refine vWiden 1 6 (Nat.le_of_ble_eq_true rfl) (Nat.le_of_ble_eq_true rfl) ?_
      exact vRetIL X hret dL_isOpen_23 ⟨L1, _, _, rfl, rfl, (fun a ha => ⟨(hk1 a ha).1, fun hz hn => (va_up_nq _ hn).trans ((hk1 a ha).2 hz)⟩), va_up_eq _ _ _, fun _ => (by simp [vp_updL, bL, hv]), hi1.foreign (fun t ht => ⟨ht, fun hz => va_up_nq _ (fun e => hz (by rw [e]; exact hzo))⟩)⟩
    · refine vIf_eqF X 14 dL_isOpen_7 (by decide) hv ?_
      refine vLconst X dL_isOpen_10 (v := 1) (by decide) ?_
      refine vGoto X 15 dL_isOpen_11 (by decide) ?_
      refine vpLastore X (hk1 ou hou).1 (((hk1 ou hou).2 hzo).trans fou) 5 rfl rfl (by decide) (by decide) (g' := vp_updL g0 0 (1)) rfl dL_isOpen_15 ?_
      refine vGoto X 22 dL_isOpen_16 (by decide) ?_
      refine vIconst X dL_isOpen_22 (v := nI 0) (by decide) ?_
      refine vWiden 1 6 (Nat.le_of_ble_eq_true rfl) (Nat.le_of_ble_eq_true rfl) ?_
      exact vRetIL X hret dL_isOpen_23 ⟨L1, _, _, rfl, rfl, (fun a ha => ⟨(hk1 a ha).1, fun hz hn => (va_up_nq _ hn).trans ((hk1 a ha).2 hz)⟩), va_up_eq _ _ _, fun _ => (by simp [vp_updL, bL, hv]), hi1.foreign (fun t ht => ⟨ht, fun hz => va_up_nq _ (fun e => hz (by rw [e]; exact hzo))⟩)⟩
  · obtain rfl : kk = 1 := by omega
    have hcx9 : vCtX l yX3_isOpen cX3_isOpen 2 (some .boolean) 9 131 1 6 D vCl (vTy k) sb [.ref x, .int p0] (va_pl L f) "java/lang/IndexOutOfBoundsException" := hcx
    refine vCatch X hE [.int (nI 0), .ref ou] hcx9 (vGV q_530 q_531 q_532 q_24 q_533) ⟨by decide, by decide, (show _ = some 1 from by decide +kernel)⟩ ⟨(Nat.le_of_ble_eq_true rfl), (Nat.le_of_ble_eq_true rfl)⟩ ix 3 rfl rfl (hix.trans (by rw [fx])) rfl (Nat.le_of_ble_eq_true rfl) dL_isOpen_4 ⟨(Nat.le_of_ble_eq_true rfl), (Nat.le_of_ble_eq_true rfl)⟩ [] (⟨0, 16, 19, 13⟩ : ExceptionTableEntry) [] (htab.trans rfl) (fun _ hz => absurd hz List.not_mem_nil) (by decide) (by decide) (name := "java/lang/IndexOutOfBoundsException") (List.mem_cons_of_mem _ q_257) t_351 (fun a9 => ?_)
    refine vPc (pc' := 19) rfl ?_
    refine vAstoreN X _ dL_isOpen_19 (by decide) rfl ?_
    refine vIconst X dL_isOpen_20 (v := nI 1) (by decide) ?_
    refine vWiden 1 6 (Nat.le_of_ble_eq_true rfl) (Nat.le_of_ble_eq_true rfl) ?_
    exact vRetIL X hret dL_isOpen_21 ⟨L, f, g0, rfl, rfl, (fun a ha => ⟨ha, fun _ _ => rfl⟩), fou, fun e => absurd e (by decide), hinv⟩
set_option maxHeartbeats 4000000 in
theorem lc_read (l : Launch) (D : va_G) (k : Nat → ClassId) (sb : Nat) (L : List Nat) (f : Nat → va_E) (Z : Nat → Prop) (x : Nat) (B : Nat → Nat → Int32) (Ln Rm : Nat → Nat) (Rd : Nat → Option Nat) (Pl Mk : Nat → Nat) (G : Nat → Nat → Int32) (Sz : Nat → Nat) (hl : l.stackTraces = false) (h : cInv k L f Z x B Ln Rm Rd Pl Mk G Sz) (hZ : ∀ a, Z a → a ∈ L) (ou : Nat) (g0 : Nat → Int64) (hou : ou ∈ L) (hzo : Z ou) (fou : f ou = .inl (k 5, 1, .inr (.inl g0))) (p0 : Int32) : ∃ (kk : Nat) (v : Int32) (B' : Nat → Nat → Int32) (Ln' Rm' : Nat → Nat) (Rd' : Nat → Option Nat) (Pl' Mk' : Nat → Nat) (G' : Nat → Nat → Int32) (Sz' : Nat → Nat), kk ≤ 2 ∧ vCtL l yL_read cL_read 4 [(0, 9, 12, 13), (0, 9, 15, 73)] 10 153 1 6 D vCl (vTy k) sb [.ref x, .int p0, .ref ou] (va_pl L f) (wPost k L f Z x ou kk (v.toInt64) B' Ln' Rm' Rd' Pl' Mk' G' Sz') ∧ (∀ (o : Nat → Nat) (Kp : Nat → Int32) (th : Int32), ∃ Kp' : Nat → Int32, ∀ pl : va_W, vCt l yX4_read cX4_read 2 (some .int) 2 42 0 0 D vCl (vTy k) sb [.ref (o 0), .int p0] (mW k o pl B Ln Rm Rd Pl Mk G Sz Kp th) (vDet (some (.int v)) (mW k o pl B' Ln' Rm' Rd' Pl' Mk' G' Sz' Kp' (nI kk)))) := by
  obtain ⟨kk, v, B', Ln', Rm', Rd', Pl', Mk', G', Sz', hkk, hc, hm⟩ := cl_read l D k sb L f Z x B Ln Rm Rd Pl Mk G Sz hl h hZ p0
  refine ⟨kk, v, B', Ln', Rm', Rd', Pl', Mk', G', Sz', hkk, ?_, hm⟩
  obtain ⟨hxL, fs, fx⟩ := h.obj
  obtain ⟨ix, hix⟩ := vp_ix (f := f) hxL
  refine vOfL (by decide +kernel) (Nat.le_of_ble_eq_true rfl) (fun p9 e9 s9 m9 below9 meth9 c9 X hret htab hE => ?_)
  refine vAloadN X dL_read_0 2 rfl ?_
  refine vIconst X dL_read_1 (v := nI 0) (by decide) ?_
  refine vAloadN X dL_read_2 0 rfl ?_
  refine vIloadN X dL_read_3 1 rfl ?_
  rcases hc with ⟨rfl, hc⟩ | ⟨hpos, hcx, hinv⟩
  · refine vCallV X [.int (nI 0), .ref ou] hc (vGV q_538 q_539 q_540 q_24 q_541) ⟨by decide, by decide, (show _ = some 1 from by decide +kernel)⟩ ⟨(Nat.le_of_ble_eq_true rfl), (Nat.le_of_ble_eq_true rfl)⟩ ix 3 rfl rfl (hix.trans (by rw [fx])) rfl (Nat.le_of_ble_eq_true rfl) dL_read_4 ⟨(Nat.le_of_ble_eq_true rfl), (Nat.le_of_ble_eq_true rfl)⟩ (fun v9 w9 hp9 => ?_)
    obtain ⟨L1, f1, rfl, rfl, hk1, hi1⟩ := hp9
    refine vI2l X dL_read_7 (v := v.toInt64) rfl ?_
    refine vpLastore X (hk1 ou hou).1 (((hk1 ou hou).2 hzo).trans fou) 5 rfl rfl (by decide) (by decide) (g' := vp_updL g0 0 (v.toInt64)) rfl dL_read_8 ?_
    refine vGoto X 18 dL_read_9 (by decide) ?_
    refine vIconst X dL_read_18 (v := nI 0) (by decide) ?_
    refine vWiden 1 6 (Nat.le_of_ble_eq_true rfl) (Nat.le_of_ble_eq_true rfl) ?_
    exact vRetIL X hret dL_read_19 ⟨L1, _, _, rfl, rfl, (fun a ha => ⟨(hk1 a ha).1, fun hz hn => (va_up_nq _ hn).trans ((hk1 a ha).2 hz)⟩), va_up_eq _ _ _, fun _ => rfl, hi1.foreign (fun t ht => ⟨ht, fun hz => va_up_nq _ (fun e => hz (by rw [e]; exact hzo))⟩)⟩
  · rcases (show kk = 1 ∨ kk = 2 by omega) with rfl | rfl
    · have hcx9 : vCtX l yX3_read cX3_read 3 (some .int) 9 131 1 6 D vCl (vTy k) sb [.ref x, .int p0] (va_pl L f) "java/lang/IndexOutOfBoundsException" := hcx
      refine vCatch X hE [.int (nI 0), .ref ou] hcx9 (vGV q_538 q_539 q_540 q_24 q_541) ⟨by decide, by decide, (show _ = some 1 from by decide +kernel)⟩ ⟨(Nat.le_of_ble_eq_true rfl), (Nat.le_of_ble_eq_true rfl)⟩ ix 3 rfl rfl (hix.trans (by rw [fx])) rfl (Nat.le_of_ble_eq_true rfl) dL_read_4 ⟨(Nat.le_of_ble_eq_true rfl), (Nat.le_of_ble_eq_true rfl)⟩ [] (⟨0, 9, 12, 13⟩ : ExceptionTableEntry) [(⟨0, 9, 15, 73⟩ : ExceptionTableEntry)] (htab.trans rfl) (fun _ hz => absurd hz List.not_mem_nil) (by decide) (by decide) (name := "java/lang/IndexOutOfBoundsException") (List.mem_cons_of_mem _ q_257) t_351 (fun a9 => ?_)
      refine vPc (pc' := 12) rfl ?_
      refine vAstoreN X _ dL_read_12 (by decide) rfl ?_
      refine vIconst X dL_read_13 (v := nI 1) (by decide) ?_
      refine vWiden 1 6 (Nat.le_of_ble_eq_true rfl) (Nat.le_of_ble_eq_true rfl) ?_
      exact vRetIL X hret dL_read_14 ⟨L, f, g0, rfl, rfl, (fun a ha => ⟨ha, fun _ _ => rfl⟩), fou, fun e => absurd e (by decide), hinv⟩
    · have hcx9 : vCtX l yX3_read cX3_read 3 (some .int) 9 131 1 6 D vCl (vTy k) sb [.ref x, .int p0] (va_pl L f) "java/lang/UnsupportedOperationException" := hcx
      refine vCatch X hE [.int (nI 0), .ref ou] hcx9 (vGV q_538 q_539 q_540 q_24 q_541) ⟨by decide, by decide, (show _ = some 1 from by decide +kernel)⟩ ⟨(Nat.le_of_ble_eq_true rfl), (Nat.le_of_ble_eq_true rfl)⟩ ix 3 rfl rfl (hix.trans (by rw [fx])) rfl (Nat.le_of_ble_eq_true rfl) dL_read_4 ⟨(Nat.le_of_ble_eq_true rfl), (Nat.le_of_ble_eq_true rfl)⟩ [(⟨0, 9, 12, 13⟩ : ExceptionTableEntry)] (⟨0, 9, 15, 73⟩ : ExceptionTableEntry) [] (htab.trans rfl) (List.forall_mem_cons.mpr ⟨⟨by decide, _, List.mem_cons_of_mem _ q_257, by decide⟩, (fun _ hz => absurd hz List.not_mem_nil)⟩) (by decide) (by decide) (name := "java/lang/UnsupportedOperationException") (List.mem_cons_of_mem _ q_537) t_547 (fun a9 => ?_)
      refine vPc (pc' := 15) rfl ?_
      refine vAstoreN X _ dL_read_15 (by decide) rfl ?_
      refine vIconst X dL_read_16 (v := nI 2) (by decide) ?_
      refine vWiden 1 6 (Nat.le_of_ble_eq_true rfl) (Nat.le_of_ble_eq_true rfl) ?_
      exact vRetIL X hret dL_read_17 ⟨L, f, g0, rfl, rfl, (fun a ha => ⟨ha, fun _ _ => rfl⟩), fou, fun e => absurd e (by decide), hinv⟩
set_option maxHeartbeats 4000000 in
theorem lc_readPart (l : Launch) (D : va_G) (k : Nat → ClassId) (sb : Nat) (L : List Nat) (f : Nat → va_E) (Z : Nat → Prop) (x : Nat) (B : Nat → Nat → Int32) (Ln Rm : Nat → Nat) (Rd : Nat → Option Nat) (Pl Mk : Nat → Nat) (G : Nat → Nat → Int32) (Sz : Nat → Nat) (hl : l.stackTraces = false) (h : cInv k L f Z x B Ln Rm Rd Pl Mk G Sz) (hZ : ∀ a, Z a → a ∈ L) (ou : Nat) (g0 : Nat → Int64) (hou : ou ∈ L) (hzo : Z ou) (fou : f ou = .inl (k 5, 1, .inr (.inl g0))) (p0 : Int32) (p1 : Int32) (p2 : Int32) (p3 : Int32) : ∃ (kk : Nat) (v : Int32) (B' : Nat → Nat → Int32) (Ln' Rm' : Nat → Nat) (Rd' : Nat → Option Nat) (Pl' Mk' : Nat → Nat) (G' : Nat → Nat → Int32) (Sz' : Nat → Nat), kk ≤ 2 ∧ vCtL l yL_readPart cL_readPart 7 [(0, 14, 17, 13), (0, 14, 21, 73)] 11 178 1 6 D vCl (vTy k) sb [.ref x, .int p0, .int p1, .int p2, .int p3, .ref ou] (va_pl L f) (wPost k L f Z x ou kk (v.toInt64) B' Ln' Rm' Rd' Pl' Mk' G' Sz') ∧ (∀ (o : Nat → Nat) (Kp : Nat → Int32) (th : Int32), ∃ Kp' : Nat → Int32, ∀ pl : va_W, vCt l yX4_readPart cX4_readPart 5 (some .int) 3 72 0 0 D vCl (vTy k) sb [.ref (o 0), .int p0, .int p1, .int p2, .int p3] (mW k o pl B Ln Rm Rd Pl Mk G Sz Kp th) (vDet (some (.int v)) (mW k o pl B' Ln' Rm' Rd' Pl' Mk' G' Sz' Kp' (nI kk)))) := by
  obtain ⟨kk, v, B', Ln', Rm', Rd', Pl', Mk', G', Sz', hkk, hc, hm⟩ := cl_readPart l D k sb L f Z x B Ln Rm Rd Pl Mk G Sz hl h hZ p0 p1 p2 p3
  refine ⟨kk, v, B', Ln', Rm', Rd', Pl', Mk', G', Sz', hkk, ?_, hm⟩
  obtain ⟨hxL, fs, fx⟩ := h.obj
  obtain ⟨ix, hix⟩ := vp_ix (f := f) hxL
  refine vOfL (by decide +kernel) (Nat.le_of_ble_eq_true rfl) (fun p9 e9 s9 m9 below9 meth9 c9 X hret htab hE => ?_)
  refine vAload X dL_readPart_0 5 rfl ?_
  refine vIconst X dL_readPart_2 (v := nI 0) (by decide) ?_
  refine vAloadN X dL_readPart_3 0 rfl ?_
  refine vIloadN X dL_readPart_4 1 rfl ?_
  refine vIloadN X dL_readPart_5 2 rfl ?_
  refine vIloadN X dL_readPart_6 3 rfl ?_
  refine vIload X dL_readPart_7 4 rfl ?_
  rcases hc with ⟨rfl, hc⟩ | ⟨hpos, hcx, hinv⟩
  · refine vCallV X [.int (nI 0), .ref ou] hc (vGV q_564 q_565 q_566 q_24 q_567) ⟨by decide, by decide, (show _ = some 4 from by decide +kernel)⟩ ⟨(Nat.le_of_ble_eq_true rfl), (Nat.le_of_ble_eq_true rfl)⟩ ix 3 rfl rfl (hix.trans (by rw [fx])) rfl (Nat.le_of_ble_eq_true rfl) dL_readPart_9 ⟨(Nat.le_of_ble_eq_true rfl), (Nat.le_of_ble_eq_true rfl)⟩ (fun v9 w9 hp9 => ?_)
    obtain ⟨L1, f1, rfl, rfl, hk1, hi1⟩ := hp9
    refine vI2l X dL_readPart_12 (v := v.toInt64) rfl ?_
    refine vpLastore X (hk1 ou hou).1 (((hk1 ou hou).2 hzo).trans fou) 5 rfl rfl (by decide) (by decide) (g' := vp_updL g0 0 (v.toInt64)) rfl dL_readPart_13 ?_
    refine vGoto X 25 dL_readPart_14 (by decide) ?_
    refine vIconst X dL_readPart_25 (v := nI 0) (by decide) ?_
    refine vWiden 1 6 (Nat.le_of_ble_eq_true rfl) (Nat.le_of_ble_eq_true rfl) ?_
    exact vRetIL X hret dL_readPart_26 ⟨L1, _, _, rfl, rfl, (fun a ha => ⟨(hk1 a ha).1, fun hz hn => (va_up_nq _ hn).trans ((hk1 a ha).2 hz)⟩), va_up_eq _ _ _, fun _ => rfl, hi1.foreign (fun t ht => ⟨ht, fun hz => va_up_nq _ (fun e => hz (by rw [e]; exact hzo))⟩)⟩
  · rcases (show kk = 1 ∨ kk = 2 by omega) with rfl | rfl
    · have hcx9 : vCtX l yX3_readPart cX3_readPart 7 (some .int) 10 152 1 6 D vCl (vTy k) sb [.ref x, .int p0, .int p1, .int p2, .int p3] (va_pl L f) "java/lang/IndexOutOfBoundsException" := hcx
      refine vCatch X hE [.int (nI 0), .ref ou] hcx9 (vGV q_564 q_565 q_566 q_24 q_567) ⟨by decide, by decide, (show _ = some 4 from by decide +kernel)⟩ ⟨(Nat.le_of_ble_eq_true rfl), (Nat.le_of_ble_eq_true rfl)⟩ ix 3 rfl rfl (hix.trans (by rw [fx])) rfl (Nat.le_of_ble_eq_true rfl) dL_readPart_9 ⟨(Nat.le_of_ble_eq_true rfl), (Nat.le_of_ble_eq_true rfl)⟩ [] (⟨0, 14, 17, 13⟩ : ExceptionTableEntry) [(⟨0, 14, 21, 73⟩ : ExceptionTableEntry)] (htab.trans rfl) (fun _ hz => absurd hz List.not_mem_nil) (by decide) (by decide) (name := "java/lang/IndexOutOfBoundsException") (List.mem_cons_of_mem _ q_257) t_351 (fun a9 => ?_)
      refine vPc (pc' := 17) rfl ?_
      refine vAstore X _ dL_readPart_17 (by decide) rfl ?_
      refine vIconst X dL_readPart_19 (v := nI 1) (by decide) ?_
      refine vWiden 1 6 (Nat.le_of_ble_eq_true rfl) (Nat.le_of_ble_eq_true rfl) ?_
      exact vRetIL X hret dL_readPart_20 ⟨L, f, g0, rfl, rfl, (fun a ha => ⟨ha, fun _ _ => rfl⟩), fou, fun e => absurd e (by decide), hinv⟩
    · have hcx9 : vCtX l yX3_readPart cX3_readPart 7 (some .int) 10 152 1 6 D vCl (vTy k) sb [.ref x, .int p0, .int p1, .int p2, .int p3] (va_pl L f) "java/lang/UnsupportedOperationException" := hcx
      refine vCatch X hE [.int (nI 0), .ref ou] hcx9 (vGV q_564 q_565 q_566 q_24 q_567) ⟨by decide, by decide, (show _ = some 4 from by decide +kernel)⟩ ⟨(Nat.le_of_ble_eq_true rfl), (Nat.le_of_ble_eq_true rfl)⟩ ix 3 rfl rfl (hix.trans (by rw [fx])) rfl (Nat.le_of_ble_eq_true rfl) dL_readPart_9 ⟨(Nat.le_of_ble_eq_true rfl), (Nat.le_of_ble_eq_true rfl)⟩ [(⟨0, 14, 17, 13⟩ : ExceptionTableEntry)] (⟨0, 14, 21, 73⟩ : ExceptionTableEntry) [] (htab.trans rfl) (List.forall_mem_cons.mpr ⟨⟨by decide, _, List.mem_cons_of_mem _ q_257, by decide⟩, (fun _ hz => absurd hz List.not_mem_nil)⟩) (by decide) (by decide) (name := "java/lang/UnsupportedOperationException") (List.mem_cons_of_mem _ q_537) t_547 (fun a9 => ?_)
      refine vPc (pc' := 21) rfl ?_
      refine vAstore X _ dL_readPart_21 (by decide) rfl ?_
      refine vIconst X dL_readPart_23 (v := nI 2) (by decide) ?_
      refine vWiden 1 6 (Nat.le_of_ble_eq_true rfl) (Nat.le_of_ble_eq_true rfl) ?_
      exact vRetIL X hret dL_readPart_24 ⟨L, f, g0, rfl, rfl, (fun a ha => ⟨ha, fun _ _ => rfl⟩), fou, fun e => absurd e (by decide), hinv⟩
set_option maxHeartbeats 4000000 in
theorem lc_readFull (l : Launch) (D : va_G) (k : Nat → ClassId) (sb : Nat) (L : List Nat) (f : Nat → va_E) (Z : Nat → Prop) (x : Nat) (B : Nat → Nat → Int32) (Ln Rm : Nat → Nat) (Rd : Nat → Option Nat) (Pl Mk : Nat → Nat) (G : Nat → Nat → Int32) (Sz : Nat → Nat) (hl : l.stackTraces = false) (h : cInv k L f Z x B Ln Rm Rd Pl Mk G Sz) (hZ : ∀ a, Z a → a ∈ L) (ou : Nat) (g0 : Nat → Int64) (hou : ou ∈ L) (hzo : Z ou) (fou : f ou = .inl (k 5, 1, .inr (.inl g0))) (p0 : Int32) (p1 : Int32) (p2 : Int32) (p3 : Int32) : ∃ (kk : Nat) (v : Int32) (B' : Nat → Nat → Int32) (Ln' Rm' : Nat → Nat) (Rd' : Nat → Option Nat) (Pl' Mk' : Nat → Nat) (G' : Nat → Nat → Int32) (Sz' : Nat → Nat), kk ≤ 3 ∧ vCtL l yL_readFull cL_readFull 7 [(0, 14, 17, 13), (0, 14, 21, 73), (0, 14, 25, 15)] 11 178 1 6 D vCl (vTy k) sb [.ref x, .int p0, .int p1, .int p2, .int p3, .ref ou] (va_pl L f) (wPost k L f Z x ou kk (v.toInt64) B' Ln' Rm' Rd' Pl' Mk' G' Sz') ∧ (∀ (o : Nat → Nat) (Kp : Nat → Int32) (th : Int32), ∃ Kp' : Nat → Int32, ∀ pl : va_W, vCt l yX4_readFull cX4_readFull 5 (some .int) 3 72 0 0 D vCl (vTy k) sb [.ref (o 0), .int p0, .int p1, .int p2, .int p3] (mW k o pl B Ln Rm Rd Pl Mk G Sz Kp th) (vDet (some (.int v)) (mW k o pl B' Ln' Rm' Rd' Pl' Mk' G' Sz' Kp' (nI kk)))) := by
  obtain ⟨kk, v, B', Ln', Rm', Rd', Pl', Mk', G', Sz', hkk, hc, hm⟩ := cl_readFull l D k sb L f Z x B Ln Rm Rd Pl Mk G Sz hl h hZ p0 p1 p2 p3
  refine ⟨kk, v, B', Ln', Rm', Rd', Pl', Mk', G', Sz', hkk, ?_, hm⟩
  obtain ⟨hxL, fs, fx⟩ := h.obj
  obtain ⟨ix, hix⟩ := vp_ix (f := f) hxL
  refine vOfL (by decide +kernel) (Nat.le_of_ble_eq_true rfl) (fun p9 e9 s9 m9 below9 meth9 c9 X hret htab hE => ?_)
  refine vAload X dL_readFull_0 5 rfl ?_
  refine vIconst X dL_readFull_2 (v := nI 0) (by decide) ?_
  refine vAloadN X dL_readFull_3 0 rfl ?_
  refine vIloadN X dL_readFull_4 1 rfl ?_
  refine vIloadN X dL_readFull_5 2 rfl ?_
  refine vIloadN X dL_readFull_6 3 rfl ?_
  refine vIload X dL_readFull_7 4 rfl ?_
  rcases hc with ⟨rfl, hc⟩ | ⟨hpos, hcx, hinv⟩
  · refine vCallV X [.int (nI 0), .ref ou] hc (vGV q_576 q_577 q_578 q_24 q_579) ⟨by decide, by decide, (show _ = some 4 from by decide +kernel)⟩ ⟨(Nat.le_of_ble_eq_true rfl), (Nat.le_of_ble_eq_true rfl)⟩ ix 3 rfl rfl (hix.trans (by rw [fx])) rfl (Nat.le_of_ble_eq_true rfl) dL_readFull_9 ⟨(Nat.le_of_ble_eq_true rfl), (Nat.le_of_ble_eq_true rfl)⟩ (fun v9 w9 hp9 => ?_)
    obtain ⟨L1, f1, rfl, rfl, hk1, hi1⟩ := hp9
    refine vI2l X dL_readFull_12 (v := v.toInt64) rfl ?_
    refine vpLastore X (hk1 ou hou).1 (((hk1 ou hou).2 hzo).trans fou) 5 rfl rfl (by decide) (by decide) (g' := vp_updL g0 0 (v.toInt64)) rfl dL_readFull_13 ?_
    refine vGoto X 29 dL_readFull_14 (by decide) ?_
    refine vIconst X dL_readFull_29 (v := nI 0) (by decide) ?_
    refine vWiden 1 6 (Nat.le_of_ble_eq_true rfl) (Nat.le_of_ble_eq_true rfl) ?_
    exact vRetIL X hret dL_readFull_30 ⟨L1, _, _, rfl, rfl, (fun a ha => ⟨(hk1 a ha).1, fun hz hn => (va_up_nq _ hn).trans ((hk1 a ha).2 hz)⟩), va_up_eq _ _ _, fun _ => rfl, hi1.foreign (fun t ht => ⟨ht, fun hz => va_up_nq _ (fun e => hz (by rw [e]; exact hzo))⟩)⟩
  · rcases (show kk = 1 ∨ kk = 2 ∨ kk = 3 by omega) with rfl | rfl | rfl
    · have hcx9 : vCtX l yX3_readFull cX3_readFull 7 (some .int) 10 152 1 6 D vCl (vTy k) sb [.ref x, .int p0, .int p1, .int p2, .int p3] (va_pl L f) "java/lang/IndexOutOfBoundsException" := hcx
      refine vCatch X hE [.int (nI 0), .ref ou] hcx9 (vGV q_576 q_577 q_578 q_24 q_579) ⟨by decide, by decide, (show _ = some 4 from by decide +kernel)⟩ ⟨(Nat.le_of_ble_eq_true rfl), (Nat.le_of_ble_eq_true rfl)⟩ ix 3 rfl rfl (hix.trans (by rw [fx])) rfl (Nat.le_of_ble_eq_true rfl) dL_readFull_9 ⟨(Nat.le_of_ble_eq_true rfl), (Nat.le_of_ble_eq_true rfl)⟩ [] (⟨0, 14, 17, 13⟩ : ExceptionTableEntry) [(⟨0, 14, 21, 73⟩ : ExceptionTableEntry), (⟨0, 14, 25, 15⟩ : ExceptionTableEntry)] (htab.trans rfl) (fun _ hz => absurd hz List.not_mem_nil) (by decide) (by decide) (name := "java/lang/IndexOutOfBoundsException") (List.mem_cons_of_mem _ q_257) t_351 (fun a9 => ?_)
      refine vPc (pc' := 17) rfl ?_
      refine vAstore X _ dL_readFull_17 (by decide) rfl ?_
      refine vIconst X dL_readFull_19 (v := nI 1) (by decide) ?_
      refine vWiden 1 6 (Nat.le_of_ble_eq_true rfl) (Nat.le_of_ble_eq_true rfl) ?_
      exact vRetIL X hret dL_readFull_20 ⟨L, f, g0, rfl, rfl, (fun a ha => ⟨ha, fun _ _ => rfl⟩), fou, fun e => absurd e (by decide), hinv⟩
    · have hcx9 : vCtX l yX3_readFull cX3_readFull 7 (some .int) 10 152 1 6 D vCl (vTy k) sb [.ref x, .int p0, .int p1, .int p2, .int p3] (va_pl L f) "java/lang/UnsupportedOperationException" := hcx
      refine vCatch X hE [.int (nI 0), .ref ou] hcx9 (vGV q_576 q_577 q_578 q_24 q_579) ⟨by decide, by decide, (show _ = some 4 from by decide +kernel)⟩ ⟨(Nat.le_of_ble_eq_true rfl), (Nat.le_of_ble_eq_true rfl)⟩ ix 3 rfl rfl (hix.trans (by rw [fx])) rfl (Nat.le_of_ble_eq_true rfl) dL_readFull_9 ⟨(Nat.le_of_ble_eq_true rfl), (Nat.le_of_ble_eq_true rfl)⟩ [(⟨0, 14, 17, 13⟩ : ExceptionTableEntry)] (⟨0, 14, 21, 73⟩ : ExceptionTableEntry) [(⟨0, 14, 25, 15⟩ : ExceptionTableEntry)] (htab.trans rfl) (List.forall_mem_cons.mpr ⟨⟨by decide, _, List.mem_cons_of_mem _ q_257, by decide⟩, (fun _ hz => absurd hz List.not_mem_nil)⟩) (by decide) (by decide) (name := "java/lang/UnsupportedOperationException") (List.mem_cons_of_mem _ q_537) t_547 (fun a9 => ?_)
      refine vPc (pc' := 21) rfl ?_
      refine vAstore X _ dL_readFull_21 (by decide) rfl ?_
      refine vIconst X dL_readFull_23 (v := nI 2) (by decide) ?_
      refine vWiden 1 6 (Nat.le_of_ble_eq_true rfl) (Nat.le_of_ble_eq_true rfl) ?_
      exact vRetIL X hret dL_readFull_24 ⟨L, f, g0, rfl, rfl, (fun a ha => ⟨ha, fun _ _ => rfl⟩), fou, fun e => absurd e (by decide), hinv⟩
    · have hcx9 : vCtX l yX3_readFull cX3_readFull 7 (some .int) 10 152 1 6 D vCl (vTy k) sb [.ref x, .int p0, .int p1, .int p2, .int p3] (va_pl L f) "java/lang/IllegalArgumentException" := hcx
      refine vCatch X hE [.int (nI 0), .ref ou] hcx9 (vGV q_576 q_577 q_578 q_24 q_579) ⟨by decide, by decide, (show _ = some 4 from by decide +kernel)⟩ ⟨(Nat.le_of_ble_eq_true rfl), (Nat.le_of_ble_eq_true rfl)⟩ ix 3 rfl rfl (hix.trans (by rw [fx])) rfl (Nat.le_of_ble_eq_true rfl) dL_readFull_9 ⟨(Nat.le_of_ble_eq_true rfl), (Nat.le_of_ble_eq_true rfl)⟩ [(⟨0, 14, 17, 13⟩ : ExceptionTableEntry), (⟨0, 14, 21, 73⟩ : ExceptionTableEntry)] (⟨0, 14, 25, 15⟩ : ExceptionTableEntry) [] (htab.trans rfl) (List.forall_mem_cons.mpr ⟨⟨by decide, _, List.mem_cons_of_mem _ q_257, by decide⟩, (List.forall_mem_cons.mpr ⟨⟨by decide, _, List.mem_cons_of_mem _ q_537, by decide⟩, (fun _ hz => absurd hz List.not_mem_nil)⟩)⟩) (by decide) (by decide) (name := "java/lang/IllegalArgumentException") (List.mem_cons_of_mem _ q_336) t_364 (fun a9 => ?_)
      refine vPc (pc' := 25) rfl ?_
      refine vAstore X _ dL_readFull_25 (by decide) rfl ?_
      refine vIconst X dL_readFull_27 (v := nI 3) (by decide) ?_
      refine vWiden 1 6 (Nat.le_of_ble_eq_true rfl) (Nat.le_of_ble_eq_true rfl) ?_
      exact vRetIL X hret dL_readFull_28 ⟨L, f, g0, rfl, rfl, (fun a ha => ⟨ha, fun _ _ => rfl⟩), fou, fun e => absurd e (by decide), hinv⟩
set_option maxHeartbeats 4000000 in
theorem lc_readSome (l : Launch) (D : va_G) (k : Nat → ClassId) (sb : Nat) (L : List Nat) (f : Nat → va_E) (Z : Nat → Prop) (x : Nat) (B : Nat → Nat → Int32) (Ln Rm : Nat → Nat) (Rd : Nat → Option Nat) (Pl Mk : Nat → Nat) (G : Nat → Nat → Int32) (Sz : Nat → Nat) (hl : l.stackTraces = false) (h : cInv k L f Z x B Ln Rm Rd Pl Mk G Sz) (hZ : ∀ a, Z a → a ∈ L) (ou : Nat) (g0 : Nat → Int64) (hou : ou ∈ L) (hzo : Z ou) (fou : f ou = .inl (k 5, 1, .inr (.inl g0))) (p0 : Int32) (p1 : Int32) (p2 : Int32) : ∃ (kk : Nat) (v : Int32) (B' : Nat → Nat → Int32) (Ln' Rm' : Nat → Nat) (Rd' : Nat → Option Nat) (Pl' Mk' : Nat → Nat) (G' : Nat → Nat → Int32) (Sz' : Nat → Nat), kk ≤ 3 ∧ vCtL l yL_readSome cL_readSome 6 [(0, 12, 15, 13), (0, 12, 19, 15), (0, 12, 23, 73)] 10 175 2 257 D vCl (vTy k) sb [.ref x, .int p0, .int p1, .int p2, .ref ou] (va_pl L f) (wPost k L f Z x ou kk (v.toInt64) B' Ln' Rm' Rd' Pl' Mk' G' Sz') ∧ (∀ (o : Nat → Nat) (Kp : Nat → Int32) (th : Int32), ∃ Kp' : Nat → Int32, ∀ pl : va_W, vCt l yX4_readSome cX4_readSome 5 (some .int) 2 47 0 0 D vCl (vTy k) sb [.ref (o 0), .int p0, .int p1, .int p2] (mW k o pl B Ln Rm Rd Pl Mk G Sz Kp th) (vDet (some (.int v)) (mW k o pl B' Ln' Rm' Rd' Pl' Mk' G' Sz' Kp' (nI kk)))) := by
  obtain ⟨kk, v, B', Ln', Rm', Rd', Pl', Mk', G', Sz', hkk, hc, hm⟩ := cl_readSome l D k sb L f Z x B Ln Rm Rd Pl Mk G Sz hl h hZ p0 p1 p2
  refine ⟨kk, v, B', Ln', Rm', Rd', Pl', Mk', G', Sz', hkk, ?_, hm⟩
  obtain ⟨hxL, fs, fx⟩ := h.obj
  obtain ⟨ix, hix⟩ := vp_ix (f := f) hxL
  refine vOfL (by decide +kernel) (Nat.le_of_ble_eq_true rfl) (fun p9 e9 s9 m9 below9 meth9 c9 X hret htab hE => ?_)
  refine vAload X dL_readSome_0 4 rfl ?_
  refine vIconst X dL_readSome_2 (v := nI 0) (by decide) ?_
  refine vAloadN X dL_readSome_3 0 rfl ?_
  refine vIloadN X dL_readSome_4 1 rfl ?_
  refine vIloadN X dL_readSome_5 2 rfl ?_
  refine vIloadN X dL_readSome_6 3 rfl ?_
  rcases hc with ⟨rfl, hc⟩ | ⟨hpos, hcx, hinv⟩
  · refine vCallV X [.int (nI 0), .ref ou] hc (vGV q_588 q_589 q_590 q_24 q_591) ⟨by decide, by decide, (show _ = some 3 from by decide +kernel)⟩ ⟨(Nat.le_of_ble_eq_true rfl), (Nat.le_of_ble_eq_true rfl)⟩ ix 3 rfl rfl (hix.trans (by rw [fx])) rfl (Nat.le_of_ble_eq_true rfl) dL_readSome_7 ⟨(Nat.le_of_ble_eq_true rfl), (Nat.le_of_ble_eq_true rfl)⟩ (fun v9 w9 hp9 => ?_)
    obtain ⟨L1, f1, rfl, rfl, hk1, hi1⟩ := hp9
    refine vI2l X dL_readSome_10 (v := v.toInt64) rfl ?_
    refine vpLastore X (hk1 ou hou).1 (((hk1 ou hou).2 hzo).trans fou) 5 rfl rfl (by decide) (by decide) (g' := vp_updL g0 0 (v.toInt64)) rfl dL_readSome_11 ?_
    refine vGoto X 27 dL_readSome_12 (by decide) ?_
    refine vIconst X dL_readSome_27 (v := nI 0) (by decide) ?_
    refine vWiden 2 257 (Nat.le_of_ble_eq_true rfl) (Nat.le_of_ble_eq_true rfl) ?_
    exact vRetIL X hret dL_readSome_28 ⟨L1, _, _, rfl, rfl, (fun a ha => ⟨(hk1 a ha).1, fun hz hn => (va_up_nq _ hn).trans ((hk1 a ha).2 hz)⟩), va_up_eq _ _ _, fun _ => rfl, hi1.foreign (fun t ht => ⟨ht, fun hz => va_up_nq _ (fun e => hz (by rw [e]; exact hzo))⟩)⟩
  · rcases (show kk = 1 ∨ kk = 2 ∨ kk = 3 by omega) with rfl | rfl | rfl
    · have hcx9 : vCtX l yX3_readSome cX3_readSome 5 (some .int) 9 151 1 6 D vCl (vTy k) sb [.ref x, .int p0, .int p1, .int p2] (va_pl L f) "java/lang/IndexOutOfBoundsException" := hcx
      refine vCatch X hE [.int (nI 0), .ref ou] hcx9 (vGV q_588 q_589 q_590 q_24 q_591) ⟨by decide, by decide, (show _ = some 3 from by decide +kernel)⟩ ⟨(Nat.le_of_ble_eq_true rfl), (Nat.le_of_ble_eq_true rfl)⟩ ix 3 rfl rfl (hix.trans (by rw [fx])) rfl (Nat.le_of_ble_eq_true rfl) dL_readSome_7 ⟨(Nat.le_of_ble_eq_true rfl), (Nat.le_of_ble_eq_true rfl)⟩ [] (⟨0, 12, 15, 13⟩ : ExceptionTableEntry) [(⟨0, 12, 19, 15⟩ : ExceptionTableEntry), (⟨0, 12, 23, 73⟩ : ExceptionTableEntry)] (htab.trans rfl) (fun _ hz => absurd hz List.not_mem_nil) (by decide) (by decide) (name := "java/lang/IndexOutOfBoundsException") (List.mem_cons_of_mem _ q_257) t_351 (fun a9 => ?_)
      refine vPc (pc' := 15) rfl ?_
      refine vAstore X _ dL_readSome_15 (by decide) rfl ?_
      refine vIconst X dL_readSome_17 (v := nI 1) (by decide) ?_
      refine vWiden 2 257 (Nat.le_of_ble_eq_true rfl) (Nat.le_of_ble_eq_true rfl) ?_
      exact vRetIL X hret dL_readSome_18 ⟨L, f, g0, rfl, rfl, (fun a ha => ⟨ha, fun _ _ => rfl⟩), fou, fun e => absurd e (by decide), hinv⟩
    · have hcx9 : vCtX l yX3_readSome cX3_readSome 5 (some .int) 9 151 1 6 D vCl (vTy k) sb [.ref x, .int p0, .int p1, .int p2] (va_pl L f) "java/lang/IllegalArgumentException" := hcx
      refine vCatch X hE [.int (nI 0), .ref ou] hcx9 (vGV q_588 q_589 q_590 q_24 q_591) ⟨by decide, by decide, (show _ = some 3 from by decide +kernel)⟩ ⟨(Nat.le_of_ble_eq_true rfl), (Nat.le_of_ble_eq_true rfl)⟩ ix 3 rfl rfl (hix.trans (by rw [fx])) rfl (Nat.le_of_ble_eq_true rfl) dL_readSome_7 ⟨(Nat.le_of_ble_eq_true rfl), (Nat.le_of_ble_eq_true rfl)⟩ [(⟨0, 12, 15, 13⟩ : ExceptionTableEntry)] (⟨0, 12, 19, 15⟩ : ExceptionTableEntry) [(⟨0, 12, 23, 73⟩ : ExceptionTableEntry)] (htab.trans rfl) (List.forall_mem_cons.mpr ⟨⟨by decide, _, List.mem_cons_of_mem _ q_257, by decide⟩, (fun _ hz => absurd hz List.not_mem_nil)⟩) (by decide) (by decide) (name := "java/lang/IllegalArgumentException") (List.mem_cons_of_mem _ q_336) t_364 (fun a9 => ?_)
      refine vPc (pc' := 19) rfl ?_
      refine vAstore X _ dL_readSome_19 (by decide) rfl ?_
      refine vIconst X dL_readSome_21 (v := nI 2) (by decide) ?_
      refine vWiden 2 257 (Nat.le_of_ble_eq_true rfl) (Nat.le_of_ble_eq_true rfl) ?_
      exact vRetIL X hret dL_readSome_22 ⟨L, f, g0, rfl, rfl, (fun a ha => ⟨ha, fun _ _ => rfl⟩), fou, fun e => absurd e (by decide), hinv⟩
    · have hcx9 : vCtX l yX3_readSome cX3_readSome 5 (some .int) 9 151 1 6 D vCl (vTy k) sb [.ref x, .int p0, .int p1, .int p2] (va_pl L f) "java/lang/UnsupportedOperationException" := hcx
      refine vCatch X hE [.int (nI 0), .ref ou] hcx9 (vGV q_588 q_589 q_590 q_24 q_591) ⟨by decide, by decide, (show _ = some 3 from by decide +kernel)⟩ ⟨(Nat.le_of_ble_eq_true rfl), (Nat.le_of_ble_eq_true rfl)⟩ ix 3 rfl rfl (hix.trans (by rw [fx])) rfl (Nat.le_of_ble_eq_true rfl) dL_readSome_7 ⟨(Nat.le_of_ble_eq_true rfl), (Nat.le_of_ble_eq_true rfl)⟩ [(⟨0, 12, 15, 13⟩ : ExceptionTableEntry), (⟨0, 12, 19, 15⟩ : ExceptionTableEntry)] (⟨0, 12, 23, 73⟩ : ExceptionTableEntry) [] (htab.trans rfl) (List.forall_mem_cons.mpr ⟨⟨by decide, _, List.mem_cons_of_mem _ q_257, by decide⟩, (List.forall_mem_cons.mpr ⟨⟨by decide, _, List.mem_cons_of_mem _ q_336, by decide⟩, (fun _ hz => absurd hz List.not_mem_nil)⟩)⟩) (by decide) (by decide) (name := "java/lang/UnsupportedOperationException") (List.mem_cons_of_mem _ q_537) t_547 (fun a9 => ?_)
      refine vPc (pc' := 23) rfl ?_
      refine vAstore X _ dL_readSome_23 (by decide) rfl ?_
      refine vIconst X dL_readSome_25 (v := nI 3) (by decide) ?_
      refine vWiden 2 257 (Nat.le_of_ble_eq_true rfl) (Nat.le_of_ble_eq_true rfl) ?_
      exact vRetIL X hret dL_readSome_26 ⟨L, f, g0, rfl, rfl, (fun a ha => ⟨ha, fun _ _ => rfl⟩), fou, fun e => absurd e (by decide), hinv⟩
set_option maxHeartbeats 4000000 in
theorem lc_readLine (l : Launch) (D : va_G) (k : Nat → ClassId) (sb : Nat) (L : List Nat) (f : Nat → va_E) (Z : Nat → Prop) (x : Nat) (B : Nat → Nat → Int32) (Ln Rm : Nat → Nat) (Rd : Nat → Option Nat) (Pl Mk : Nat → Nat) (G : Nat → Nat → Int32) (Sz : Nat → Nat) (hl : l.stackTraces = false) (h : cInv k L f Z x B Ln Rm Rd Pl Mk G Sz) (hZ : ∀ a, Z a → a ∈ L) (ou : Nat) (g0 : Nat → Int64) (hou : ou ∈ L) (hzo : Z ou) (fou : f ou = .inl (k 5, 1, .inr (.inl g0))) (p0 : Int32) (p1 : Int32) : ∃ (kk : Nat) (v : Int32) (B' : Nat → Nat → Int32) (Ln' Rm' : Nat → Nat) (Rd' : Nat → Option Nat) (Pl' Mk' : Nat → Nat) (G' : Nat → Nat → Int32) (Sz' : Nat → Nat), kk ≤ 2 ∧ vCtL l yL_readLine cL_readLine 5 [(0, 10, 13, 13), (0, 10, 17, 73)] 10 175 2 257 D vCl (vTy k) sb [.ref x, .int p0, .int p1, .ref ou] (va_pl L f) (wPost k L f Z x ou kk (v.toInt64) B' Ln' Rm' Rd' Pl' Mk' G' Sz') ∧ (∀ (o : Nat → Nat) (Kp : Nat → Int32) (th : Int32), ∃ Kp' : Nat → Int32, ∀ pl : va_W, vCt l yX4_readLine cX4_readLine 4 (some .int) 2 47 0 0 D vCl (vTy k) sb [.ref (o 0), .int p0, .int p1] (mW k o pl B Ln Rm Rd Pl Mk G Sz Kp th) (vDet (some (.int v)) (mW k o pl B' Ln' Rm' Rd' Pl' Mk' G' Sz' Kp' (nI kk)))) := by
  obtain ⟨kk, v, B', Ln', Rm', Rd', Pl', Mk', G', Sz', hkk, hc, hm⟩ := cl_readLine l D k sb L f Z x B Ln Rm Rd Pl Mk G Sz hl h hZ p0 p1
  refine ⟨kk, v, B', Ln', Rm', Rd', Pl', Mk', G', Sz', hkk, ?_, hm⟩
  obtain ⟨hxL, fs, fx⟩ := h.obj
  obtain ⟨ix, hix⟩ := vp_ix (f := f) hxL
  refine vOfL (by decide +kernel) (Nat.le_of_ble_eq_true rfl) (fun p9 e9 s9 m9 below9 meth9 c9 X hret htab hE => ?_)
  refine vAloadN X dL_readLine_0 3 rfl ?_
  refine vIconst X dL_readLine_1 (v := nI 0) (by decide) ?_
  refine vAloadN X dL_readLine_2 0 rfl ?_
  refine vIloadN X dL_readLine_3 1 rfl ?_
  refine vIloadN X dL_readLine_4 2 rfl ?_
  rcases hc with ⟨rfl, hc⟩ | ⟨hpos, hcx, hinv⟩
  · refine vCallV X [.int (nI 0), .ref ou] hc (vGV q_628 q_629 q_630 q_24 q_631) ⟨by decide, by decide, (show _ = some 2 from by decide +kernel)⟩ ⟨(Nat.le_of_ble_eq_true rfl), (Nat.le_of_ble_eq_true rfl)⟩ ix 3 rfl rfl (hix.trans (by rw [fx])) rfl (Nat.le_of_ble_eq_true rfl) dL_readLine_5 ⟨(Nat.le_of_ble_eq_true rfl), (Nat.le_of_ble_eq_true rfl)⟩ (fun v9 w9 hp9 => ?_)
    obtain ⟨L1, f1, rfl, rfl, hk1, hi1⟩ := hp9
    refine vI2l X dL_readLine_8 (v := v.toInt64) rfl ?_
    refine vpLastore X (hk1 ou hou).1 (((hk1 ou hou).2 hzo).trans fou) 5 rfl rfl (by decide) (by decide) (g' := vp_updL g0 0 (v.toInt64)) rfl dL_readLine_9 ?_
    refine vGoto X 21 dL_readLine_10 (by decide) ?_
    refine vIconst X dL_readLine_21 (v := nI 0) (by decide) ?_
    refine vWiden 2 257 (Nat.le_of_ble_eq_true rfl) (Nat.le_of_ble_eq_true rfl) ?_
    exact vRetIL X hret dL_readLine_22 ⟨L1, _, _, rfl, rfl, (fun a ha => ⟨(hk1 a ha).1, fun hz hn => (va_up_nq _ hn).trans ((hk1 a ha).2 hz)⟩), va_up_eq _ _ _, fun _ => rfl, hi1.foreign (fun t ht => ⟨ht, fun hz => va_up_nq _ (fun e => hz (by rw [e]; exact hzo))⟩)⟩
  · rcases (show kk = 1 ∨ kk = 2 by omega) with rfl | rfl
    · have hcx9 : vCtX l yX3_readLine cX3_readLine 5 (some .int) 9 151 1 6 D vCl (vTy k) sb [.ref x, .int p0, .int p1] (va_pl L f) "java/lang/IndexOutOfBoundsException" := hcx
      refine vCatch X hE [.int (nI 0), .ref ou] hcx9 (vGV q_628 q_629 q_630 q_24 q_631) ⟨by decide, by decide, (show _ = some 2 from by decide +kernel)⟩ ⟨(Nat.le_of_ble_eq_true rfl), (Nat.le_of_ble_eq_true rfl)⟩ ix 3 rfl rfl (hix.trans (by rw [fx])) rfl (Nat.le_of_ble_eq_true rfl) dL_readLine_5 ⟨(Nat.le_of_ble_eq_true rfl), (Nat.le_of_ble_eq_true rfl)⟩ [] (⟨0, 10, 13, 13⟩ : ExceptionTableEntry) [(⟨0, 10, 17, 73⟩ : ExceptionTableEntry)] (htab.trans rfl) (fun _ hz => absurd hz List.not_mem_nil) (by decide) (by decide) (name := "java/lang/IndexOutOfBoundsException") (List.mem_cons_of_mem _ q_257) t_351 (fun a9 => ?_)
      refine vPc (pc' := 13) rfl ?_
      refine vAstore X _ dL_readLine_13 (by decide) rfl ?_
      refine vIconst X dL_readLine_15 (v := nI 1) (by decide) ?_
      refine vWiden 2 257 (Nat.le_of_ble_eq_true rfl) (Nat.le_of_ble_eq_true rfl) ?_
      exact vRetIL X hret dL_readLine_16 ⟨L, f, g0, rfl, rfl, (fun a ha => ⟨ha, fun _ _ => rfl⟩), fou, fun e => absurd e (by decide), hinv⟩
    · have hcx9 : vCtX l yX3_readLine cX3_readLine 5 (some .int) 9 151 1 6 D vCl (vTy k) sb [.ref x, .int p0, .int p1] (va_pl L f) "java/lang/UnsupportedOperationException" := hcx
      refine vCatch X hE [.int (nI 0), .ref ou] hcx9 (vGV q_628 q_629 q_630 q_24 q_631) ⟨by decide, by decide, (show _ = some 2 from by decide +kernel)⟩ ⟨(Nat.le_of_ble_eq_true rfl), (Nat.le_of_ble_eq_true rfl)⟩ ix 3 rfl rfl (hix.trans (by rw [fx])) rfl (Nat.le_of_ble_eq_true rfl) dL_readLine_5 ⟨(Nat.le_of_ble_eq_true rfl), (Nat.le_of_ble_eq_true rfl)⟩ [(⟨0, 10, 13, 13⟩ : ExceptionTableEntry)] (⟨0, 10, 17, 73⟩ : ExceptionTableEntry) [] (htab.trans rfl) (List.forall_mem_cons.mpr ⟨⟨by decide, _, List.mem_cons_of_mem _ q_257, by decide⟩, (fun _ hz => absurd hz List.not_mem_nil)⟩) (by decide) (by decide) (name := "java/lang/UnsupportedOperationException") (List.mem_cons_of_mem _ q_537) t_547 (fun a9 => ?_)
      refine vPc (pc' := 17) rfl ?_
      refine vAstore X _ dL_readLine_17 (by decide) rfl ?_
      refine vIconst X dL_readLine_19 (v := nI 2) (by decide) ?_
      refine vWiden 2 257 (Nat.le_of_ble_eq_true rfl) (Nat.le_of_ble_eq_true rfl) ?_
      exact vRetIL X hret dL_readLine_20 ⟨L, f, g0, rfl, rfl, (fun a ha => ⟨ha, fun _ _ => rfl⟩), fou, fun e => absurd e (by decide), hinv⟩
set_option maxHeartbeats 4000000 in
theorem lc_readNumber (l : Launch) (D : va_G) (k : Nat → ClassId) (sb : Nat) (L : List Nat) (f : Nat → va_E) (Z : Nat → Prop) (x : Nat) (B : Nat → Nat → Int32) (Ln Rm : Nat → Nat) (Rd : Nat → Option Nat) (Pl Mk : Nat → Nat) (G : Nat → Nat → Int32) (Sz : Nat → Nat) (hl : l.stackTraces = false) (h : cInv k L f Z x B Ln Rm Rd Pl Mk G Sz) (hZ : ∀ a, Z a → a ∈ L) (ou : Nat) (g0 : Nat → Int64) (hou : ou ∈ L) (hzo : Z ou) (fou : f ou = .inl (k 5, 1, .inr (.inl g0))) (p0 : Int32) : ∃ (kk : Nat) (v : Int32) (B' : Nat → Nat → Int32) (Ln' Rm' : Nat → Nat) (Rd' : Nat → Option Nat) (Pl' Mk' : Nat → Nat) (G' : Nat → Nat → Int32) (Sz' : Nat → Nat), kk ≤ 3 ∧ vCtL l yL_readNumber cL_readNumber 4 [(0, 9, 12, 13), (0, 9, 15, 73), (0, 9, 18, 87)] 10 155 1 6 D vCl (vTy k) sb [.ref x, .int p0, .ref ou] (va_pl L f) (wPost k L f Z x ou kk (v.toInt64) B' Ln' Rm' Rd' Pl' Mk' G' Sz') ∧ (∀ (o : Nat → Nat) (Kp : Nat → Int32) (th : Int32), ∃ Kp' : Nat → Int32, ∀ pl : va_W, vCt l yX4_readNumber cX4_readNumber 4 (some .int) 2 46 0 0 D vCl (vTy k) sb [.ref (o 0), .int p0] (mW k o pl B Ln Rm Rd Pl Mk G Sz Kp th) (vDet (some (.int v)) (mW k o pl B' Ln' Rm' Rd' Pl' Mk' G' Sz' Kp' (nI kk)))) := by
  obtain ⟨kk, v, B', Ln', Rm', Rd', Pl', Mk', G', Sz', hkk, hc, hm⟩ := cl_readNumber l D k sb L f Z x B Ln Rm Rd Pl Mk G Sz hl h hZ p0
  refine ⟨kk, v, B', Ln', Rm', Rd', Pl', Mk', G', Sz', hkk, ?_, hm⟩
  obtain ⟨hxL, fs, fx⟩ := h.obj
  obtain ⟨ix, hix⟩ := vp_ix (f := f) hxL
  refine vOfL (by decide +kernel) (Nat.le_of_ble_eq_true rfl) (fun p9 e9 s9 m9 below9 meth9 c9 X hret htab hE => ?_)
  refine vAloadN X dL_readNumber_0 2 rfl ?_
  refine vIconst X dL_readNumber_1 (v := nI 0) (by decide) ?_
  refine vAloadN X dL_readNumber_2 0 rfl ?_
  refine vIloadN X dL_readNumber_3 1 rfl ?_
  rcases hc with ⟨rfl, hc⟩ | ⟨hpos, hcx, hinv⟩
  · refine vCallV X [.int (nI 0), .ref ou] hc (vGV q_605 q_606 q_607 q_24 q_608) ⟨by decide, by decide, (show _ = some 1 from by decide +kernel)⟩ ⟨(Nat.le_of_ble_eq_true rfl), (Nat.le_of_ble_eq_true rfl)⟩ ix 3 rfl rfl (hix.trans (by rw [fx])) rfl (Nat.le_of_ble_eq_true rfl) dL_readNumber_4 ⟨(Nat.le_of_ble_eq_true rfl), (Nat.le_of_ble_eq_true rfl)⟩ (fun v9 w9 hp9 => ?_)
    obtain ⟨L1, f1, rfl, rfl, hk1, hi1⟩ := hp9
    refine vI2l X dL_readNumber_7 (v := v.toInt64) rfl ?_
    refine vpLastore X (hk1 ou hou).1 (((hk1 ou hou).2 hzo).trans fou) 5 rfl rfl (by decide) (by decide) (g' := vp_updL g0 0 (v.toInt64)) rfl dL_readNumber_8 ?_
    refine vGoto X 21 dL_readNumber_9 (by decide) ?_
    refine vIconst X dL_readNumber_21 (v := nI 0) (by decide) ?_
    refine vWiden 1 6 (Nat.le_of_ble_eq_true rfl) (Nat.le_of_ble_eq_true rfl) ?_
    exact vRetIL X hret dL_readNumber_22 ⟨L1, _, _, rfl, rfl, (fun a ha => ⟨(hk1 a ha).1, fun hz hn => (va_up_nq _ hn).trans ((hk1 a ha).2 hz)⟩), va_up_eq _ _ _, fun _ => rfl, hi1.foreign (fun t ht => ⟨ht, fun hz => va_up_nq _ (fun e => hz (by rw [e]; exact hzo))⟩)⟩
  · rcases (show kk = 1 ∨ kk = 2 ∨ kk = 3 by omega) with rfl | rfl | rfl
    · have hcx9 : vCtX l yX3_readNumber cX3_readNumber 5 (some .int) 9 131 1 6 D vCl (vTy k) sb [.ref x, .int p0] (va_pl L f) "java/lang/IndexOutOfBoundsException" := hcx
      refine vCatch X hE [.int (nI 0), .ref ou] hcx9 (vGV q_605 q_606 q_607 q_24 q_608) ⟨by decide, by decide, (show _ = some 1 from by decide +kernel)⟩ ⟨(Nat.le_of_ble_eq_true rfl), (Nat.le_of_ble_eq_true rfl)⟩ ix 3 rfl rfl (hix.trans (by rw [fx])) rfl (Nat.le_of_ble_eq_true rfl) dL_readNumber_4 ⟨(Nat.le_of_ble_eq_true rfl), (Nat.le_of_ble_eq_true rfl)⟩ [] (⟨0, 9, 12, 13⟩ : ExceptionTableEntry) [(⟨0, 9, 15, 73⟩ : ExceptionTableEntry), (⟨0, 9, 18, 87⟩ : ExceptionTableEntry)] (htab.trans rfl) (fun _ hz => absurd hz List.not_mem_nil) (by decide) (by decide) (name := "java/lang/IndexOutOfBoundsException") (List.mem_cons_of_mem _ q_257) t_351 (fun a9 => ?_)
      refine vPc (pc' := 12) rfl ?_
      refine vAstoreN X _ dL_readNumber_12 (by decide) rfl ?_
      refine vIconst X dL_readNumber_13 (v := nI 1) (by decide) ?_
      refine vWiden 1 6 (Nat.le_of_ble_eq_true rfl) (Nat.le_of_ble_eq_true rfl) ?_
      exact vRetIL X hret dL_readNumber_14 ⟨L, f, g0, rfl, rfl, (fun a ha => ⟨ha, fun _ _ => rfl⟩), fou, fun e => absurd e (by decide), hinv⟩
    · have hcx9 : vCtX l yX3_readNumber cX3_readNumber 5 (some .int) 9 131 1 6 D vCl (vTy k) sb [.ref x, .int p0] (va_pl L f) "java/lang/UnsupportedOperationException" := hcx
      refine vCatch X hE [.int (nI 0), .ref ou] hcx9 (vGV q_605 q_606 q_607 q_24 q_608) ⟨by decide, by decide, (show _ = some 1 from by decide +kernel)⟩ ⟨(Nat.le_of_ble_eq_true rfl), (Nat.le_of_ble_eq_true rfl)⟩ ix 3 rfl rfl (hix.trans (by rw [fx])) rfl (Nat.le_of_ble_eq_true rfl) dL_readNumber_4 ⟨(Nat.le_of_ble_eq_true rfl), (Nat.le_of_ble_eq_true rfl)⟩ [(⟨0, 9, 12, 13⟩ : ExceptionTableEntry)] (⟨0, 9, 15, 73⟩ : ExceptionTableEntry) [(⟨0, 9, 18, 87⟩ : ExceptionTableEntry)] (htab.trans rfl) (List.forall_mem_cons.mpr ⟨⟨by decide, _, List.mem_cons_of_mem _ q_257, by decide⟩, (fun _ hz => absurd hz List.not_mem_nil)⟩) (by decide) (by decide) (name := "java/lang/UnsupportedOperationException") (List.mem_cons_of_mem _ q_537) t_547 (fun a9 => ?_)
      refine vPc (pc' := 15) rfl ?_
      refine vAstoreN X _ dL_readNumber_15 (by decide) rfl ?_
      refine vIconst X dL_readNumber_16 (v := nI 2) (by decide) ?_
      refine vWiden 1 6 (Nat.le_of_ble_eq_true rfl) (Nat.le_of_ble_eq_true rfl) ?_
      exact vRetIL X hret dL_readNumber_17 ⟨L, f, g0, rfl, rfl, (fun a ha => ⟨ha, fun _ _ => rfl⟩), fou, fun e => absurd e (by decide), hinv⟩
    · have hcx9 : vCtX l yX3_readNumber cX3_readNumber 5 (some .int) 9 131 1 6 D vCl (vTy k) sb [.ref x, .int p0] (va_pl L f) "java/util/NoSuchElementException" := hcx
      refine vCatch X hE [.int (nI 0), .ref ou] hcx9 (vGV q_605 q_606 q_607 q_24 q_608) ⟨by decide, by decide, (show _ = some 1 from by decide +kernel)⟩ ⟨(Nat.le_of_ble_eq_true rfl), (Nat.le_of_ble_eq_true rfl)⟩ ix 3 rfl rfl (hix.trans (by rw [fx])) rfl (Nat.le_of_ble_eq_true rfl) dL_readNumber_4 ⟨(Nat.le_of_ble_eq_true rfl), (Nat.le_of_ble_eq_true rfl)⟩ [(⟨0, 9, 12, 13⟩ : ExceptionTableEntry), (⟨0, 9, 15, 73⟩ : ExceptionTableEntry)] (⟨0, 9, 18, 87⟩ : ExceptionTableEntry) [] (htab.trans rfl) (List.forall_mem_cons.mpr ⟨⟨by decide, _, List.mem_cons_of_mem _ q_257, by decide⟩, (List.forall_mem_cons.mpr ⟨⟨by decide, _, List.mem_cons_of_mem _ q_537, by decide⟩, (fun _ hz => absurd hz List.not_mem_nil)⟩)⟩) (by decide) (by decide) (name := "java/util/NoSuchElementException") (List.mem_cons_of_mem _ q_604) t_611 (fun a9 => ?_)
      refine vPc (pc' := 18) rfl ?_
      refine vAstoreN X _ dL_readNumber_18 (by decide) rfl ?_
      refine vIconst X dL_readNumber_19 (v := nI 3) (by decide) ?_
      refine vWiden 1 6 (Nat.le_of_ble_eq_true rfl) (Nat.le_of_ble_eq_true rfl) ?_
      exact vRetIL X hret dL_readNumber_20 ⟨L, f, g0, rfl, rfl, (fun a ha => ⟨ha, fun _ _ => rfl⟩), fou, fun e => absurd e (by decide), hinv⟩
set_option maxHeartbeats 4000000 in
theorem lc_find (l : Launch) (D : va_G) (k : Nat → ClassId) (sb : Nat) (L : List Nat) (f : Nat → va_E) (Z : Nat → Prop) (x : Nat) (B : Nat → Nat → Int32) (Ln Rm : Nat → Nat) (Rd : Nat → Option Nat) (Pl Mk : Nat → Nat) (G : Nat → Nat → Int32) (Sz : Nat → Nat) (hl : l.stackTraces = false) (h : cInv k L f Z x B Ln Rm Rd Pl Mk G Sz) (hZ : ∀ a, Z a → a ∈ L) (ou : Nat) (g0 : Nat → Int64) (hou : ou ∈ L) (hzo : Z ou) (fou : f ou = .inl (k 5, 1, .inr (.inl g0))) (p0 : Int32) (p1 : Int32) : ∃ (kk : Nat) (v : Int32) (B' : Nat → Nat → Int32) (Ln' Rm' : Nat → Nat) (Rd' : Nat → Option Nat) (Pl' Mk' : Nat → Nat) (G' : Nat → Nat → Int32) (Sz' : Nat → Nat), kk ≤ 2 ∧ vCtL l yL_find cL_find 5 [(0, 10, 13, 13), (0, 10, 17, 73)] 10 155 1 6 D vCl (vTy k) sb [.ref x, .int p0, .int p1, .ref ou] (va_pl L f) (wPost k L f Z x ou kk (v.toInt64) B' Ln' Rm' Rd' Pl' Mk' G' Sz') ∧ (∀ (o : Nat → Nat) (Kp : Nat → Int32) (th : Int32), ∃ Kp' : Nat → Int32, ∀ pl : va_W, vCt l yX4_find cX4_find 5 (some .int) 2 42 0 0 D vCl (vTy k) sb [.ref (o 0), .int p0, .int p1] (mW k o pl B Ln Rm Rd Pl Mk G Sz Kp th) (vDet (some (.int v)) (mW k o pl B' Ln' Rm' Rd' Pl' Mk' G' Sz' Kp' (nI kk)))) := by
  obtain ⟨kk, v, B', Ln', Rm', Rd', Pl', Mk', G', Sz', hkk, hc, hm⟩ := cl_find l D k sb L f Z x B Ln Rm Rd Pl Mk G Sz hl h hZ p0 p1
  refine ⟨kk, v, B', Ln', Rm', Rd', Pl', Mk', G', Sz', hkk, ?_, hm⟩
  obtain ⟨hxL, fs, fx⟩ := h.obj
  obtain ⟨ix, hix⟩ := vp_ix (f := f) hxL
  refine vOfL (by decide +kernel) (Nat.le_of_ble_eq_true rfl) (fun p9 e9 s9 m9 below9 meth9 c9 X hret htab hE => ?_)
  refine vAloadN X dL_find_0 3 rfl ?_
  refine vIconst X dL_find_1 (v := nI 0) (by decide) ?_
  refine vAloadN X dL_find_2 0 rfl ?_
  refine vIloadN X dL_find_3 1 rfl ?_
  refine vIloadN X dL_find_4 2 rfl ?_
  rcases hc with ⟨rfl, hc⟩ | ⟨hpos, hcx, hinv⟩
  · refine vCallV X [.int (nI 0), .ref ou] hc (vGV q_640 q_641 q_642 q_24 q_643) ⟨by decide, by decide, (show _ = some 2 from by decide +kernel)⟩ ⟨(Nat.le_of_ble_eq_true rfl), (Nat.le_of_ble_eq_true rfl)⟩ ix 3 rfl rfl (hix.trans (by rw [fx])) rfl (Nat.le_of_ble_eq_true rfl) dL_find_5 ⟨(Nat.le_of_ble_eq_true rfl), (Nat.le_of_ble_eq_true rfl)⟩ (fun v9 w9 hp9 => ?_)
    obtain ⟨L1, f1, rfl, rfl, hk1, hi1⟩ := hp9
    refine vI2l X dL_find_8 (v := v.toInt64) rfl ?_
    refine vpLastore X (hk1 ou hou).1 (((hk1 ou hou).2 hzo).trans fou) 5 rfl rfl (by decide) (by decide) (g' := vp_updL g0 0 (v.toInt64)) rfl dL_find_9 ?_
    refine vGoto X 21 dL_find_10 (by decide) ?_
    refine vIconst X dL_find_21 (v := nI 0) (by decide) ?_
    refine vWiden 1 6 (Nat.le_of_ble_eq_true rfl) (Nat.le_of_ble_eq_true rfl) ?_
    exact vRetIL X hret dL_find_22 ⟨L1, _, _, rfl, rfl, (fun a ha => ⟨(hk1 a ha).1, fun hz hn => (va_up_nq _ hn).trans ((hk1 a ha).2 hz)⟩), va_up_eq _ _ _, fun _ => rfl, hi1.foreign (fun t ht => ⟨ht, fun hz => va_up_nq _ (fun e => hz (by rw [e]; exact hzo))⟩)⟩
  · rcases (show kk = 1 ∨ kk = 2 by omega) with rfl | rfl
    · have hcx9 : vCtX l yX3_find cX3_find 5 (some .int) 9 131 1 6 D vCl (vTy k) sb [.ref x, .int p0, .int p1] (va_pl L f) "java/lang/IndexOutOfBoundsException" := hcx
      refine vCatch X hE [.int (nI 0), .ref ou] hcx9 (vGV q_640 q_641 q_642 q_24 q_643) ⟨by decide, by decide, (show _ = some 2 from by decide +kernel)⟩ ⟨(Nat.le_of_ble_eq_true rfl), (Nat.le_of_ble_eq_true rfl)⟩ ix 3 rfl rfl (hix.trans (by rw [fx])) rfl (Nat.le_of_ble_eq_true rfl) dL_find_5 ⟨(Nat.le_of_ble_eq_true rfl), (Nat.le_of_ble_eq_true rfl)⟩ [] (⟨0, 10, 13, 13⟩ : ExceptionTableEntry) [(⟨0, 10, 17, 73⟩ : ExceptionTableEntry)] (htab.trans rfl) (fun _ hz => absurd hz List.not_mem_nil) (by decide) (by decide) (name := "java/lang/IndexOutOfBoundsException") (List.mem_cons_of_mem _ q_257) t_351 (fun a9 => ?_)
      refine vPc (pc' := 13) rfl ?_
      refine vAstore X _ dL_find_13 (by decide) rfl ?_
      refine vIconst X dL_find_15 (v := nI 1) (by decide) ?_
      refine vWiden 1 6 (Nat.le_of_ble_eq_true rfl) (Nat.le_of_ble_eq_true rfl) ?_
      exact vRetIL X hret dL_find_16 ⟨L, f, g0, rfl, rfl, (fun a ha => ⟨ha, fun _ _ => rfl⟩), fou, fun e => absurd e (by decide), hinv⟩
    · have hcx9 : vCtX l yX3_find cX3_find 5 (some .int) 9 131 1 6 D vCl (vTy k) sb [.ref x, .int p0, .int p1] (va_pl L f) "java/lang/UnsupportedOperationException" := hcx
      refine vCatch X hE [.int (nI 0), .ref ou] hcx9 (vGV q_640 q_641 q_642 q_24 q_643) ⟨by decide, by decide, (show _ = some 2 from by decide +kernel)⟩ ⟨(Nat.le_of_ble_eq_true rfl), (Nat.le_of_ble_eq_true rfl)⟩ ix 3 rfl rfl (hix.trans (by rw [fx])) rfl (Nat.le_of_ble_eq_true rfl) dL_find_5 ⟨(Nat.le_of_ble_eq_true rfl), (Nat.le_of_ble_eq_true rfl)⟩ [(⟨0, 10, 13, 13⟩ : ExceptionTableEntry)] (⟨0, 10, 17, 73⟩ : ExceptionTableEntry) [] (htab.trans rfl) (List.forall_mem_cons.mpr ⟨⟨by decide, _, List.mem_cons_of_mem _ q_257, by decide⟩, (fun _ hz => absurd hz List.not_mem_nil)⟩) (by decide) (by decide) (name := "java/lang/UnsupportedOperationException") (List.mem_cons_of_mem _ q_537) t_547 (fun a9 => ?_)
      refine vPc (pc' := 17) rfl ?_
      refine vAstore X _ dL_find_17 (by decide) rfl ?_
      refine vIconst X dL_find_19 (v := nI 2) (by decide) ?_
      refine vWiden 1 6 (Nat.le_of_ble_eq_true rfl) (Nat.le_of_ble_eq_true rfl) ?_
      exact vRetIL X hret dL_find_20 ⟨L, f, g0, rfl, rfl, (fun a ha => ⟨ha, fun _ _ => rfl⟩), fou, fun e => absurd e (by decide), hinv⟩
set_option maxHeartbeats 4000000 in
theorem lc_skip (l : Launch) (D : va_G) (k : Nat → ClassId) (sb : Nat) (L : List Nat) (f : Nat → va_E) (Z : Nat → Prop) (x : Nat) (B : Nat → Nat → Int32) (Ln Rm : Nat → Nat) (Rd : Nat → Option Nat) (Pl Mk : Nat → Nat) (G : Nat → Nat → Int32) (Sz : Nat → Nat) (hl : l.stackTraces = false) (h : cInv k L f Z x B Ln Rm Rd Pl Mk G Sz) (hZ : ∀ a, Z a → a ∈ L) (ou : Nat) (g0 : Nat → Int64) (hou : ou ∈ L) (hzo : Z ou) (fou : f ou = .inl (k 5, 1, .inr (.inl g0))) (p0 : Int32) (p1 : Int64) : ∃ (kk : Nat) (v : Int64) (B' : Nat → Nat → Int32) (Ln' Rm' : Nat → Nat) (Rd' : Nat → Option Nat) (Pl' Mk' : Nat → Nat) (G' : Nat → Nat → Int32) (Sz' : Nat → Nat), kk ≤ 3 ∧ vCtL l yL_skip cL_skip 6 [(0, 10, 13, 13), (0, 10, 17, 15), (0, 10, 21, 73)] 10 155 1 6 D vCl (vTy k) sb [.ref x, .int p0, .long p1, .ref ou] (va_pl L f) (wPost k L f Z x ou kk (v) B' Ln' Rm' Rd' Pl' Mk' G' Sz') ∧ (∀ (o : Nat → Nat) (Kp : Nat → Int32) (th : Int32), ∃ Kp' : Nat → Int32, ∀ pl : va_W, vCt l yX4_skip cX4_skip 5 (some .long) 1 21 0 0 D vCl (vTy k) sb [.ref (o 0), .int p0, .long p1] (mW k o pl B Ln Rm Rd Pl Mk G Sz Kp th) (vDet (some (.long v)) (mW k o pl B' Ln' Rm' Rd' Pl' Mk' G' Sz' Kp' (nI kk)))) := by
  obtain ⟨kk, v, B', Ln', Rm', Rd', Pl', Mk', G', Sz', hkk, hc, hm⟩ := cl_skip l D k sb L f Z x B Ln Rm Rd Pl Mk G Sz hl h hZ p0 p1
  refine ⟨kk, v, B', Ln', Rm', Rd', Pl', Mk', G', Sz', hkk, ?_, hm⟩
  obtain ⟨hxL, fs, fx⟩ := h.obj
  obtain ⟨ix, hix⟩ := vp_ix (f := f) hxL
  refine vOfL (by decide +kernel) (Nat.le_of_ble_eq_true rfl) (fun p9 e9 s9 m9 below9 meth9 c9 X hret htab hE => ?_)
  refine vAload X dL_skip_0 3 rfl ?_
  refine vIconst X dL_skip_2 (v := nI 0) (by decide) ?_
  refine vAloadN X dL_skip_3 0 rfl ?_
  refine vIloadN X dL_skip_4 1 rfl ?_
  refine vLloadN X dL_skip_5 2 rfl ?_
  rcases hc with ⟨rfl, hc⟩ | ⟨hpos, hcx, hinv⟩
  · refine vCallV X [.int (nI 0), .ref ou] hc (vGV q_647 q_648 q_649 q_24 q_650) ⟨by decide, by decide, (show _ = some 2 from by decide +kernel)⟩ ⟨(Nat.le_of_ble_eq_true rfl), (Nat.le_of_ble_eq_true rfl)⟩ ix 3 rfl rfl (hix.trans (by rw [fx])) rfl (Nat.le_of_ble_eq_true rfl) dL_skip_6 ⟨(Nat.le_of_ble_eq_true rfl), (Nat.le_of_ble_eq_true rfl)⟩ (fun v9 w9 hp9 => ?_)
    obtain ⟨L1, f1, rfl, rfl, hk1, hi1⟩ := hp9
    refine vpLastore X (hk1 ou hou).1 (((hk1 ou hou).2 hzo).trans fou) 5 rfl rfl (by decide) (by decide) (g' := vp_updL g0 0 (v)) rfl dL_skip_9 ?_
    refine vGoto X 25 dL_skip_10 (by decide) ?_
    refine vIconst X dL_skip_25 (v := nI 0) (by decide) ?_
    refine vWiden 1 6 (Nat.le_of_ble_eq_true rfl) (Nat.le_of_ble_eq_true rfl) ?_
    exact vRetIL X hret dL_skip_26 ⟨L1, _, _, rfl, rfl, (fun a ha => ⟨(hk1 a ha).1, fun hz hn => (va_up_nq _ hn).trans ((hk1 a ha).2 hz)⟩), va_up_eq _ _ _, fun _ => rfl, hi1.foreign (fun t ht => ⟨ht, fun hz => va_up_nq _ (fun e => hz (by rw [e]; exact hzo))⟩)⟩
  · rcases (show kk = 1 ∨ kk = 2 ∨ kk = 3 by omega) with rfl | rfl | rfl
    · have hcx9 : vCtX l yX3_skip cX3_skip 5 (some .long) 9 131 1 6 D vCl (vTy k) sb [.ref x, .int p0, .long p1] (va_pl L f) "java/lang/IndexOutOfBoundsException" := hcx
      refine vCatch X hE [.int (nI 0), .ref ou] hcx9 (vGV q_647 q_648 q_649 q_24 q_650) ⟨by decide, by decide, (show _ = some 2 from by decide +kernel)⟩ ⟨(Nat.le_of_ble_eq_true rfl), (Nat.le_of_ble_eq_true rfl)⟩ ix 3 rfl rfl (hix.trans (by rw [fx])) rfl (Nat.le_of_ble_eq_true rfl) dL_skip_6 ⟨(Nat.le_of_ble_eq_true rfl), (Nat.le_of_ble_eq_true rfl)⟩ [] (⟨0, 10, 13, 13⟩ : ExceptionTableEntry) [(⟨0, 10, 17, 15⟩ : ExceptionTableEntry), (⟨0, 10, 21, 73⟩ : ExceptionTableEntry)] (htab.trans rfl) (fun _ hz => absurd hz List.not_mem_nil) (by decide) (by decide) (name := "java/lang/IndexOutOfBoundsException") (List.mem_cons_of_mem _ q_257) t_351 (fun a9 => ?_)
      refine vPc (pc' := 13) rfl ?_
      refine vAstore X _ dL_skip_13 (by decide) rfl ?_
      refine vIconst X dL_skip_15 (v := nI 1) (by decide) ?_
      refine vWiden 1 6 (Nat.le_of_ble_eq_true rfl) (Nat.le_of_ble_eq_true rfl) ?_
      exact vRetIL X hret dL_skip_16 ⟨L, f, g0, rfl, rfl, (fun a ha => ⟨ha, fun _ _ => rfl⟩), fou, fun e => absurd e (by decide), hinv⟩
    · have hcx9 : vCtX l yX3_skip cX3_skip 5 (some .long) 9 131 1 6 D vCl (vTy k) sb [.ref x, .int p0, .long p1] (va_pl L f) "java/lang/IllegalArgumentException" := hcx
      refine vCatch X hE [.int (nI 0), .ref ou] hcx9 (vGV q_647 q_648 q_649 q_24 q_650) ⟨by decide, by decide, (show _ = some 2 from by decide +kernel)⟩ ⟨(Nat.le_of_ble_eq_true rfl), (Nat.le_of_ble_eq_true rfl)⟩ ix 3 rfl rfl (hix.trans (by rw [fx])) rfl (Nat.le_of_ble_eq_true rfl) dL_skip_6 ⟨(Nat.le_of_ble_eq_true rfl), (Nat.le_of_ble_eq_true rfl)⟩ [(⟨0, 10, 13, 13⟩ : ExceptionTableEntry)] (⟨0, 10, 17, 15⟩ : ExceptionTableEntry) [(⟨0, 10, 21, 73⟩ : ExceptionTableEntry)] (htab.trans rfl) (List.forall_mem_cons.mpr ⟨⟨by decide, _, List.mem_cons_of_mem _ q_257, by decide⟩, (fun _ hz => absurd hz List.not_mem_nil)⟩) (by decide) (by decide) (name := "java/lang/IllegalArgumentException") (List.mem_cons_of_mem _ q_336) t_364 (fun a9 => ?_)
      refine vPc (pc' := 17) rfl ?_
      refine vAstore X _ dL_skip_17 (by decide) rfl ?_
      refine vIconst X dL_skip_19 (v := nI 2) (by decide) ?_
      refine vWiden 1 6 (Nat.le_of_ble_eq_true rfl) (Nat.le_of_ble_eq_true rfl) ?_
      exact vRetIL X hret dL_skip_20 ⟨L, f, g0, rfl, rfl, (fun a ha => ⟨ha, fun _ _ => rfl⟩), fou, fun e => absurd e (by decide), hinv⟩
    · have hcx9 : vCtX l yX3_skip cX3_skip 5 (some .long) 9 131 1 6 D vCl (vTy k) sb [.ref x, .int p0, .long p1] (va_pl L f) "java/lang/UnsupportedOperationException" := hcx
      refine vCatch X hE [.int (nI 0), .ref ou] hcx9 (vGV q_647 q_648 q_649 q_24 q_650) ⟨by decide, by decide, (show _ = some 2 from by decide +kernel)⟩ ⟨(Nat.le_of_ble_eq_true rfl), (Nat.le_of_ble_eq_true rfl)⟩ ix 3 rfl rfl (hix.trans (by rw [fx])) rfl (Nat.le_of_ble_eq_true rfl) dL_skip_6 ⟨(Nat.le_of_ble_eq_true rfl), (Nat.le_of_ble_eq_true rfl)⟩ [(⟨0, 10, 13, 13⟩ : ExceptionTableEntry), (⟨0, 10, 17, 15⟩ : ExceptionTableEntry)] (⟨0, 10, 21, 73⟩ : ExceptionTableEntry) [] (htab.trans rfl) (List.forall_mem_cons.mpr ⟨⟨by decide, _, List.mem_cons_of_mem _ q_257, by decide⟩, (List.forall_mem_cons.mpr ⟨⟨by decide, _, List.mem_cons_of_mem _ q_336, by decide⟩, (fun _ hz => absurd hz List.not_mem_nil)⟩)⟩) (by decide) (by decide) (name := "java/lang/UnsupportedOperationException") (List.mem_cons_of_mem _ q_537) t_547 (fun a9 => ?_)
      refine vPc (pc' := 21) rfl ?_
      refine vAstore X _ dL_skip_21 (by decide) rfl ?_
      refine vIconst X dL_skip_23 (v := nI 3) (by decide) ?_
      refine vWiden 1 6 (Nat.le_of_ble_eq_true rfl) (Nat.le_of_ble_eq_true rfl) ?_
      exact vRetIL X hret dL_skip_24 ⟨L, f, g0, rfl, rfl, (fun a ha => ⟨ha, fun _ _ => rfl⟩), fou, fun e => absurd e (by decide), hinv⟩
set_option maxHeartbeats 4000000 in
theorem lc_left (l : Launch) (D : va_G) (k : Nat → ClassId) (sb : Nat) (L : List Nat) (f : Nat → va_E) (Z : Nat → Prop) (x : Nat) (B : Nat → Nat → Int32) (Ln Rm : Nat → Nat) (Rd : Nat → Option Nat) (Pl Mk : Nat → Nat) (G : Nat → Nat → Int32) (Sz : Nat → Nat) (hl : l.stackTraces = false) (h : cInv k L f Z x B Ln Rm Rd Pl Mk G Sz) (hZ : ∀ a, Z a → a ∈ L) (ou : Nat) (g0 : Nat → Int64) (hou : ou ∈ L) (hzo : Z ou) (fou : f ou = .inl (k 5, 1, .inr (.inl g0))) (p0 : Int32) : ∃ (kk : Nat) (v : Int32) (B' : Nat → Nat → Int32) (Ln' Rm' : Nat → Nat) (Rd' : Nat → Option Nat) (Pl' Mk' : Nat → Nat) (G' : Nat → Nat → Int32) (Sz' : Nat → Nat), kk ≤ 2 ∧ vCtL l yL_left cL_left 4 [(0, 9, 12, 13), (0, 9, 15, 73)] 10 153 1 6 D vCl (vTy k) sb [.ref x, .int p0, .ref ou] (va_pl L f) (wPost k L f Z x ou kk (v.toInt64) B' Ln' Rm' Rd' Pl' Mk' G' Sz') ∧ (∀ (o : Nat → Nat) (Kp : Nat → Int32) (th : Int32), ∃ Kp' : Nat → Int32, ∀ pl : va_W, vCt l yX4_left cX4_left 2 (some .int) 2 42 0 0 D vCl (vTy k) sb [.ref (o 0), .int p0] (mW k o pl B Ln Rm Rd Pl Mk G Sz Kp th) (vDet (some (.int v)) (mW k o pl B' Ln' Rm' Rd' Pl' Mk' G' Sz' Kp' (nI kk)))) := by
  obtain ⟨kk, v, B', Ln', Rm', Rd', Pl', Mk', G', Sz', hkk, hc, hm⟩ := cl_left l D k sb L f Z x B Ln Rm Rd Pl Mk G Sz hl h hZ p0
  refine ⟨kk, v, B', Ln', Rm', Rd', Pl', Mk', G', Sz', hkk, ?_, hm⟩
  obtain ⟨hxL, fs, fx⟩ := h.obj
  obtain ⟨ix, hix⟩ := vp_ix (f := f) hxL
  refine vOfL (by decide +kernel) (Nat.le_of_ble_eq_true rfl) (fun p9 e9 s9 m9 below9 meth9 c9 X hret htab hE => ?_)
  refine vAloadN X dL_left_0 2 rfl ?_
  refine vIconst X dL_left_1 (v := nI 0) (by decide) ?_
  refine vAloadN X dL_left_2 0 rfl ?_
  refine vIloadN X dL_left_3 1 rfl ?_
  rcases hc with ⟨rfl, hc⟩ | ⟨hpos, hcx, hinv⟩
  · refine vCallV X [.int (nI 0), .ref ou] hc (vGV q_654 q_655 q_656 q_24 q_657) ⟨by decide, by decide, (show _ = some 1 from by decide +kernel)⟩ ⟨(Nat.le_of_ble_eq_true rfl), (Nat.le_of_ble_eq_true rfl)⟩ ix 3 rfl rfl (hix.trans (by rw [fx])) rfl (Nat.le_of_ble_eq_true rfl) dL_left_4 ⟨(Nat.le_of_ble_eq_true rfl), (Nat.le_of_ble_eq_true rfl)⟩ (fun v9 w9 hp9 => ?_)
    obtain ⟨L1, f1, rfl, rfl, hk1, hi1⟩ := hp9
    refine vI2l X dL_left_7 (v := v.toInt64) rfl ?_
    refine vpLastore X (hk1 ou hou).1 (((hk1 ou hou).2 hzo).trans fou) 5 rfl rfl (by decide) (by decide) (g' := vp_updL g0 0 (v.toInt64)) rfl dL_left_8 ?_
    refine vGoto X 18 dL_left_9 (by decide) ?_
    refine vIconst X dL_left_18 (v := nI 0) (by decide) ?_
    refine vWiden 1 6 (Nat.le_of_ble_eq_true rfl) (Nat.le_of_ble_eq_true rfl) ?_
    exact vRetIL X hret dL_left_19 ⟨L1, _, _, rfl, rfl, (fun a ha => ⟨(hk1 a ha).1, fun hz hn => (va_up_nq _ hn).trans ((hk1 a ha).2 hz)⟩), va_up_eq _ _ _, fun _ => rfl, hi1.foreign (fun t ht => ⟨ht, fun hz => va_up_nq _ (fun e => hz (by rw [e]; exact hzo))⟩)⟩
  · rcases (show kk = 1 ∨ kk = 2 by omega) with rfl | rfl
    · have hcx9 : vCtX l yX3_left cX3_left 3 (some .int) 9 131 1 6 D vCl (vTy k) sb [.ref x, .int p0] (va_pl L f) "java/lang/IndexOutOfBoundsException" := hcx
      refine vCatch X hE [.int (nI 0), .ref ou] hcx9 (vGV q_654 q_655 q_656 q_24 q_657) ⟨by decide, by decide, (show _ = some 1 from by decide +kernel)⟩ ⟨(Nat.le_of_ble_eq_true rfl), (Nat.le_of_ble_eq_true rfl)⟩ ix 3 rfl rfl (hix.trans (by rw [fx])) rfl (Nat.le_of_ble_eq_true rfl) dL_left_4 ⟨(Nat.le_of_ble_eq_true rfl), (Nat.le_of_ble_eq_true rfl)⟩ [] (⟨0, 9, 12, 13⟩ : ExceptionTableEntry) [(⟨0, 9, 15, 73⟩ : ExceptionTableEntry)] (htab.trans rfl) (fun _ hz => absurd hz List.not_mem_nil) (by decide) (by decide) (name := "java/lang/IndexOutOfBoundsException") (List.mem_cons_of_mem _ q_257) t_351 (fun a9 => ?_)
      refine vPc (pc' := 12) rfl ?_
      refine vAstoreN X _ dL_left_12 (by decide) rfl ?_
      refine vIconst X dL_left_13 (v := nI 1) (by decide) ?_
      refine vWiden 1 6 (Nat.le_of_ble_eq_true rfl) (Nat.le_of_ble_eq_true rfl) ?_
      exact vRetIL X hret dL_left_14 ⟨L, f, g0, rfl, rfl, (fun a ha => ⟨ha, fun _ _ => rfl⟩), fou, fun e => absurd e (by decide), hinv⟩
    · have hcx9 : vCtX l yX3_left cX3_left 3 (some .int) 9 131 1 6 D vCl (vTy k) sb [.ref x, .int p0] (va_pl L f) "java/lang/UnsupportedOperationException" := hcx
      refine vCatch X hE [.int (nI 0), .ref ou] hcx9 (vGV q_654 q_655 q_656 q_24 q_657) ⟨by decide, by decide, (show _ = some 1 from by decide +kernel)⟩ ⟨(Nat.le_of_ble_eq_true rfl), (Nat.le_of_ble_eq_true rfl)⟩ ix 3 rfl rfl (hix.trans (by rw [fx])) rfl (Nat.le_of_ble_eq_true rfl) dL_left_4 ⟨(Nat.le_of_ble_eq_true rfl), (Nat.le_of_ble_eq_true rfl)⟩ [(⟨0, 9, 12, 13⟩ : ExceptionTableEntry)] (⟨0, 9, 15, 73⟩ : ExceptionTableEntry) [] (htab.trans rfl) (List.forall_mem_cons.mpr ⟨⟨by decide, _, List.mem_cons_of_mem _ q_257, by decide⟩, (fun _ hz => absurd hz List.not_mem_nil)⟩) (by decide) (by decide) (name := "java/lang/UnsupportedOperationException") (List.mem_cons_of_mem _ q_537) t_547 (fun a9 => ?_)
      refine vPc (pc' := 15) rfl ?_
      refine vAstoreN X _ dL_left_15 (by decide) rfl ?_
      refine vIconst X dL_left_16 (v := nI 2) (by decide) ?_
      refine vWiden 1 6 (Nat.le_of_ble_eq_true rfl) (Nat.le_of_ble_eq_true rfl) ?_
      exact vRetIL X hret dL_left_17 ⟨L, f, g0, rfl, rfl, (fun a ha => ⟨ha, fun _ _ => rfl⟩), fou, fun e => absurd e (by decide), hinv⟩
set_option maxHeartbeats 4000000 in
theorem lc_mark (l : Launch) (D : va_G) (k : Nat → ClassId) (sb : Nat) (L : List Nat) (f : Nat → va_E) (Z : Nat → Prop) (x : Nat) (B : Nat → Nat → Int32) (Ln Rm : Nat → Nat) (Rd : Nat → Option Nat) (Pl Mk : Nat → Nat) (G : Nat → Nat → Int32) (Sz : Nat → Nat) (hl : l.stackTraces = false) (h : cInv k L f Z x B Ln Rm Rd Pl Mk G Sz) (hZ : ∀ a, Z a → a ∈ L) (ou : Nat) (g0 : Nat → Int64) (hou : ou ∈ L) (hzo : Z ou) (fou : f ou = .inl (k 5, 1, .inr (.inl g0))) (p0 : Int32) (p1 : Int32) : ∃ (kk : Nat) (v : Int32) (B' : Nat → Nat → Int32) (Ln' Rm' : Nat → Nat) (Rd' : Nat → Option Nat) (Pl' Mk' : Nat → Nat) (G' : Nat → Nat → Int32) (Sz' : Nat → Nat), kk ≤ 2 ∧ vCtL l yL_mark cL_mark 5 [(0, 10, 13, 13), (0, 10, 17, 73)] 10 154 1 6 D vCl (vTy k) sb [.ref x, .int p0, .int p1, .ref ou] (va_pl L f) (wPost k L f Z x ou kk (v.toInt64) B' Ln' Rm' Rd' Pl' Mk' G' Sz') ∧ (∀ (o : Nat → Nat) (Kp : Nat → Int32) (th : Int32), ∃ Kp' : Nat → Int32, ∀ pl : va_W, vCt l yX4_mark cX4_mark 3 (some .int) 2 42 0 0 D vCl (vTy k) sb [.ref (o 0), .int p0, .int p1] (mW k o pl B Ln Rm Rd Pl Mk G Sz Kp th) (vDet (some (.int v)) (mW k o pl B' Ln' Rm' Rd' Pl' Mk' G' Sz' Kp' (nI kk)))) := by
  obtain ⟨kk, v, B', Ln', Rm', Rd', Pl', Mk', G', Sz', hkk, hc, hm⟩ := cl_mark l D k sb L f Z x B Ln Rm Rd Pl Mk G Sz hl h hZ p0 p1
  refine ⟨kk, v, B', Ln', Rm', Rd', Pl', Mk', G', Sz', hkk, ?_, hm⟩
  obtain ⟨hxL, fs, fx⟩ := h.obj
  obtain ⟨ix, hix⟩ := vp_ix (f := f) hxL
  refine vOfL (by decide +kernel) (Nat.le_of_ble_eq_true rfl) (fun p9 e9 s9 m9 below9 meth9 c9 X hret htab hE => ?_)
  refine vAloadN X dL_mark_0 3 rfl ?_
  refine vIconst X dL_mark_1 (v := nI 0) (by decide) ?_
  refine vAloadN X dL_mark_2 0 rfl ?_
  refine vIloadN X dL_mark_3 1 rfl ?_
  refine vIloadN X dL_mark_4 2 rfl ?_
  rcases hc with ⟨rfl, hc⟩ | ⟨hpos, hcx, hinv⟩
  · refine vCallV X [.int (nI 0), .ref ou] hc (vGV q_661 q_662 q_663 q_24 q_664) ⟨by decide, by decide, (show _ = some 2 from by decide +kernel)⟩ ⟨(Nat.le_of_ble_eq_true rfl), (Nat.le_of_ble_eq_true rfl)⟩ ix 3 rfl rfl (hix.trans (by rw [fx])) rfl (Nat.le_of_ble_eq_true rfl) dL_mark_5 ⟨(Nat.le_of_ble_eq_true rfl), (Nat.le_of_ble_eq_true rfl)⟩ (fun v9 w9 hp9 => ?_)
    obtain ⟨L1, f1, rfl, rfl, hk1, hi1⟩ := hp9
    refine vI2l X dL_mark_8 (v := v.toInt64) rfl ?_
    refine vpLastore X (hk1 ou hou).1 (((hk1 ou hou).2 hzo).trans fou) 5 rfl rfl (by decide) (by decide) (g' := vp_updL g0 0 (v.toInt64)) rfl dL_mark_9 ?_
    refine vGoto X 21 dL_mark_10 (by decide) ?_
    refine vIconst X dL_mark_21 (v := nI 0) (by decide) ?_
    refine vWiden 1 6 (Nat.le_of_ble_eq_true rfl) (Nat.le_of_ble_eq_true rfl) ?_
    exact vRetIL X hret dL_mark_22 ⟨L1, _, _, rfl, rfl, (fun a ha => ⟨(hk1 a ha).1, fun hz hn => (va_up_nq _ hn).trans ((hk1 a ha).2 hz)⟩), va_up_eq _ _ _, fun _ => rfl, hi1.foreign (fun t ht => ⟨ht, fun hz => va_up_nq _ (fun e => hz (by rw [e]; exact hzo))⟩)⟩
  · rcases (show kk = 1 ∨ kk = 2 by omega) with rfl | rfl
    · have hcx9 : vCtX l yX3_mark cX3_mark 4 (some .int) 9 131 1 6 D vCl (vTy k) sb [.ref x, .int p0, .int p1] (va_pl L f) "java/lang/IndexOutOfBoundsException" := hcx
      refine vCatch X hE [.int (nI 0), .ref ou] hcx9 (vGV q_661 q_662 q_663 q_24 q_664) ⟨by decide, by decide, (show _ = some 2 from by decide +kernel)⟩ ⟨(Nat.le_of_ble_eq_true rfl), (Nat.le_of_ble_eq_true rfl)⟩ ix 3 rfl rfl (hix.trans (by rw [fx])) rfl (Nat.le_of_ble_eq_true rfl) dL_mark_5 ⟨(Nat.le_of_ble_eq_true rfl), (Nat.le_of_ble_eq_true rfl)⟩ [] (⟨0, 10, 13, 13⟩ : ExceptionTableEntry) [(⟨0, 10, 17, 73⟩ : ExceptionTableEntry)] (htab.trans rfl) (fun _ hz => absurd hz List.not_mem_nil) (by decide) (by decide) (name := "java/lang/IndexOutOfBoundsException") (List.mem_cons_of_mem _ q_257) t_351 (fun a9 => ?_)
      refine vPc (pc' := 13) rfl ?_
      refine vAstore X _ dL_mark_13 (by decide) rfl ?_
      refine vIconst X dL_mark_15 (v := nI 1) (by decide) ?_
      refine vWiden 1 6 (Nat.le_of_ble_eq_true rfl) (Nat.le_of_ble_eq_true rfl) ?_
      exact vRetIL X hret dL_mark_16 ⟨L, f, g0, rfl, rfl, (fun a ha => ⟨ha, fun _ _ => rfl⟩), fou, fun e => absurd e (by decide), hinv⟩
    · have hcx9 : vCtX l yX3_mark cX3_mark 4 (some .int) 9 131 1 6 D vCl (vTy k) sb [.ref x, .int p0, .int p1] (va_pl L f) "java/lang/UnsupportedOperationException" := hcx
      refine vCatch X hE [.int (nI 0), .ref ou] hcx9 (vGV q_661 q_662 q_663 q_24 q_664) ⟨by decide, by decide, (show _ = some 2 from by decide +kernel)⟩ ⟨(Nat.le_of_ble_eq_true rfl), (Nat.le_of_ble_eq_true rfl)⟩ ix 3 rfl rfl (hix.trans (by rw [fx])) rfl (Nat.le_of_ble_eq_true rfl) dL_mark_5 ⟨(Nat.le_of_ble_eq_true rfl), (Nat.le_of_ble_eq_true rfl)⟩ [(⟨0, 10, 13, 13⟩ : ExceptionTableEntry)] (⟨0, 10, 17, 73⟩ : ExceptionTableEntry) [] (htab.trans rfl) (List.forall_mem_cons.mpr ⟨⟨by decide, _, List.mem_cons_of_mem _ q_257, by decide⟩, (fun _ hz => absurd hz List.not_mem_nil)⟩) (by decide) (by decide) (name := "java/lang/UnsupportedOperationException") (List.mem_cons_of_mem _ q_537) t_547 (fun a9 => ?_)
      refine vPc (pc' := 17) rfl ?_
      refine vAstore X _ dL_mark_17 (by decide) rfl ?_
      refine vIconst X dL_mark_19 (v := nI 2) (by decide) ?_
      refine vWiden 1 6 (Nat.le_of_ble_eq_true rfl) (Nat.le_of_ble_eq_true rfl) ?_
      exact vRetIL X hret dL_mark_20 ⟨L, f, g0, rfl, rfl, (fun a ha => ⟨ha, fun _ _ => rfl⟩), fou, fun e => absurd e (by decide), hinv⟩
set_option maxHeartbeats 4000000 in
theorem lc_back (l : Launch) (D : va_G) (k : Nat → ClassId) (sb : Nat) (L : List Nat) (f : Nat → va_E) (Z : Nat → Prop) (x : Nat) (B : Nat → Nat → Int32) (Ln Rm : Nat → Nat) (Rd : Nat → Option Nat) (Pl Mk : Nat → Nat) (G : Nat → Nat → Int32) (Sz : Nat → Nat) (hl : l.stackTraces = false) (h : cInv k L f Z x B Ln Rm Rd Pl Mk G Sz) (hZ : ∀ a, Z a → a ∈ L) (ou : Nat) (g0 : Nat → Int64) (hou : ou ∈ L) (hzo : Z ou) (fou : f ou = .inl (k 5, 1, .inr (.inl g0))) (p0 : Int32) : ∃ (kk : Nat) (v : Int32) (B' : Nat → Nat → Int32) (Ln' Rm' : Nat → Nat) (Rd' : Nat → Option Nat) (Pl' Mk' : Nat → Nat) (G' : Nat → Nat → Int32) (Sz' : Nat → Nat), kk ≤ 2 ∧ vCtL l yL_back cL_back 4 [(0, 9, 12, 13), (0, 9, 15, 73)] 10 153 1 6 D vCl (vTy k) sb [.ref x, .int p0, .ref ou] (va_pl L f) (wPost k L f Z x ou kk (v.toInt64) B' Ln' Rm' Rd' Pl' Mk' G' Sz') ∧ (∀ (o : Nat → Nat) (Kp : Nat → Int32) (th : Int32), ∃ Kp' : Nat → Int32, ∀ pl : va_W, vCt l yX4_back cX4_back 2 (some .int) 2 42 0 0 D vCl (vTy k) sb [.ref (o 0), .int p0] (mW k o pl B Ln Rm Rd Pl Mk G Sz Kp th) (vDet (some (.int v)) (mW k o pl B' Ln' Rm' Rd' Pl' Mk' G' Sz' Kp' (nI kk)))) := by
  obtain ⟨kk, v, B', Ln', Rm', Rd', Pl', Mk', G', Sz', hkk, hc, hm⟩ := cl_back l D k sb L f Z x B Ln Rm Rd Pl Mk G Sz hl h hZ p0
  refine ⟨kk, v, B', Ln', Rm', Rd', Pl', Mk', G', Sz', hkk, ?_, hm⟩
  obtain ⟨hxL, fs, fx⟩ := h.obj
  obtain ⟨ix, hix⟩ := vp_ix (f := f) hxL
  refine vOfL (by decide +kernel) (Nat.le_of_ble_eq_true rfl) (fun p9 e9 s9 m9 below9 meth9 c9 X hret htab hE => ?_)
  refine vAloadN X dL_back_0 2 rfl ?_
  refine vIconst X dL_back_1 (v := nI 0) (by decide) ?_
  refine vAloadN X dL_back_2 0 rfl ?_
  refine vIloadN X dL_back_3 1 rfl ?_
  rcases hc with ⟨rfl, hc⟩ | ⟨hpos, hcx, hinv⟩
  · refine vCallV X [.int (nI 0), .ref ou] hc (vGV q_669 q_670 q_671 q_24 q_672) ⟨by decide, by decide, (show _ = some 1 from by decide +kernel)⟩ ⟨(Nat.le_of_ble_eq_true rfl), (Nat.le_of_ble_eq_true rfl)⟩ ix 3 rfl rfl (hix.trans (by rw [fx])) rfl (Nat.le_of_ble_eq_true rfl) dL_back_4 ⟨(Nat.le_of_ble_eq_true rfl), (Nat.le_of_ble_eq_true rfl)⟩ (fun v9 w9 hp9 => ?_)
    obtain ⟨L1, f1, rfl, rfl, hk1, hi1⟩ := hp9
    refine vI2l X dL_back_7 (v := v.toInt64) rfl ?_
    refine vpLastore X (hk1 ou hou).1 (((hk1 ou hou).2 hzo).trans fou) 5 rfl rfl (by decide) (by decide) (g' := vp_updL g0 0 (v.toInt64)) rfl dL_back_8 ?_
    refine vGoto X 18 dL_back_9 (by decide) ?_
    refine vIconst X dL_back_18 (v := nI 0) (by decide) ?_
    refine vWiden 1 6 (Nat.le_of_ble_eq_true rfl) (Nat.le_of_ble_eq_true rfl) ?_
    exact vRetIL X hret dL_back_19 ⟨L1, _, _, rfl, rfl, (fun a ha => ⟨(hk1 a ha).1, fun hz hn => (va_up_nq _ hn).trans ((hk1 a ha).2 hz)⟩), va_up_eq _ _ _, fun _ => rfl, hi1.foreign (fun t ht => ⟨ht, fun hz => va_up_nq _ (fun e => hz (by rw [e]; exact hzo))⟩)⟩
  · rcases (show kk = 1 ∨ kk = 2 by omega) with rfl | rfl
    · have hcx9 : vCtX l yX3_back cX3_back 3 (some .int) 9 131 1 6 D vCl (vTy k) sb [.ref x, .int p0] (va_pl L f) "java/lang/IndexOutOfBoundsException" := hcx
      refine vCatch X hE [.int (nI 0), .ref ou] hcx9 (vGV q_669 q_670 q_671 q_24 q_672) ⟨by decide, by decide, (show _ = some 1 from by decide +kernel)⟩ ⟨(Nat.le_of_ble_eq_true rfl), (Nat.le_of_ble_eq_true rfl)⟩ ix 3 rfl rfl (hix.trans (by rw [fx])) rfl (Nat.le_of_ble_eq_true rfl) dL_back_4 ⟨(Nat.le_of_ble_eq_true rfl), (Nat.le_of_ble_eq_true rfl)⟩ [] (⟨0, 9, 12, 13⟩ : ExceptionTableEntry) [(⟨0, 9, 15, 73⟩ : ExceptionTableEntry)] (htab.trans rfl) (fun _ hz => absurd hz List.not_mem_nil) (by decide) (by decide) (name := "java/lang/IndexOutOfBoundsException") (List.mem_cons_of_mem _ q_257) t_351 (fun a9 => ?_)
      refine vPc (pc' := 12) rfl ?_
      refine vAstoreN X _ dL_back_12 (by decide) rfl ?_
      refine vIconst X dL_back_13 (v := nI 1) (by decide) ?_
      refine vWiden 1 6 (Nat.le_of_ble_eq_true rfl) (Nat.le_of_ble_eq_true rfl) ?_
      exact vRetIL X hret dL_back_14 ⟨L, f, g0, rfl, rfl, (fun a ha => ⟨ha, fun _ _ => rfl⟩), fou, fun e => absurd e (by decide), hinv⟩
    · have hcx9 : vCtX l yX3_back cX3_back 3 (some .int) 9 131 1 6 D vCl (vTy k) sb [.ref x, .int p0] (va_pl L f) "java/lang/UnsupportedOperationException" := hcx
      refine vCatch X hE [.int (nI 0), .ref ou] hcx9 (vGV q_669 q_670 q_671 q_24 q_672) ⟨by decide, by decide, (show _ = some 1 from by decide +kernel)⟩ ⟨(Nat.le_of_ble_eq_true rfl), (Nat.le_of_ble_eq_true rfl)⟩ ix 3 rfl rfl (hix.trans (by rw [fx])) rfl (Nat.le_of_ble_eq_true rfl) dL_back_4 ⟨(Nat.le_of_ble_eq_true rfl), (Nat.le_of_ble_eq_true rfl)⟩ [(⟨0, 9, 12, 13⟩ : ExceptionTableEntry)] (⟨0, 9, 15, 73⟩ : ExceptionTableEntry) [] (htab.trans rfl) (List.forall_mem_cons.mpr ⟨⟨by decide, _, List.mem_cons_of_mem _ q_257, by decide⟩, (fun _ hz => absurd hz List.not_mem_nil)⟩) (by decide) (by decide) (name := "java/lang/UnsupportedOperationException") (List.mem_cons_of_mem _ q_537) t_547 (fun a9 => ?_)
      refine vPc (pc' := 15) rfl ?_
      refine vAstoreN X _ dL_back_15 (by decide) rfl ?_
      refine vIconst X dL_back_16 (v := nI 2) (by decide) ?_
      refine vWiden 1 6 (Nat.le_of_ble_eq_true rfl) (Nat.le_of_ble_eq_true rfl) ?_
      exact vRetIL X hret dL_back_17 ⟨L, f, g0, rfl, rfl, (fun a ha => ⟨ha, fun _ _ => rfl⟩), fou, fun e => absurd e (by decide), hinv⟩
set_option maxHeartbeats 4000000 in
theorem lc_pour (l : Launch) (D : va_G) (k : Nat → ClassId) (sb : Nat) (L : List Nat) (f : Nat → va_E) (Z : Nat → Prop) (x : Nat) (B : Nat → Nat → Int32) (Ln Rm : Nat → Nat) (Rd : Nat → Option Nat) (Pl Mk : Nat → Nat) (G : Nat → Nat → Int32) (Sz : Nat → Nat) (hl : l.stackTraces = false) (h : cInv k L f Z x B Ln Rm Rd Pl Mk G Sz) (hZ : ∀ a, Z a → a ∈ L) (ou : Nat) (g0 : Nat → Int64) (hou : ou ∈ L) (hzo : Z ou) (fou : f ou = .inl (k 5, 1, .inr (.inl g0))) (p0 : Int32) (p1 : Int32) : ∃ (kk : Nat) (v : Int32) (B' : Nat → Nat → Int32) (Ln' Rm' : Nat → Nat) (Rd' : Nat → Option Nat) (Pl' Mk' : Nat → Nat) (G' : Nat → Nat → Int32) (Sz' : Nat → Nat), kk ≤ 3 ∧ vCtL l yL_pour cL_pour 5 [(0, 10, 13, 13), (0, 10, 17, 73), (0, 10, 21, 42)] 10 155 1 6 D vCl (vTy k) sb [.ref x, .int p0, .int p1, .ref ou] (va_pl L f) (wPost k L f Z x ou kk (v.toInt64) B' Ln' Rm' Rd' Pl' Mk' G' Sz') ∧ (∀ (o : Nat → Nat) (Kp : Nat → Int32) (th : Int32), ∃ Kp' : Nat → Int32, ∀ pl : va_W, vCt l yX4_pour cX4_pour 5 (some .int) 2 46 0 0 D vCl (vTy k) sb [.ref (o 0), .int p0, .int p1] (mW k o pl B Ln Rm Rd Pl Mk G Sz Kp th) (vDet (some (.int v)) (mW k o pl B' Ln' Rm' Rd' Pl' Mk' G' Sz' Kp' (nI kk)))) := by
  obtain ⟨kk, v, B', Ln', Rm', Rd', Pl', Mk', G', Sz', hkk, hc, hm⟩ := cl_pour l D k sb L f Z x B Ln Rm Rd Pl Mk G Sz hl h hZ p0 p1
  refine ⟨kk, v, B', Ln', Rm', Rd', Pl', Mk', G', Sz', hkk, ?_, hm⟩
  obtain ⟨hxL, fs, fx⟩ := h.obj
  obtain ⟨ix, hix⟩ := vp_ix (f := f) hxL
  refine vOfL (by decide +kernel) (Nat.le_of_ble_eq_true rfl) (fun p9 e9 s9 m9 below9 meth9 c9 X hret htab hE => ?_)
  refine vAloadN X dL_pour_0 3 rfl ?_
  refine vIconst X dL_pour_1 (v := nI 0) (by decide) ?_
  refine vAloadN X dL_pour_2 0 rfl ?_
  refine vIloadN X dL_pour_3 1 rfl ?_
  refine vIloadN X dL_pour_4 2 rfl ?_
  rcases hc with ⟨rfl, hc⟩ | ⟨hpos, hcx, hinv⟩
  · refine vCallV X [.int (nI 0), .ref ou] hc (vGV q_676 q_677 q_678 q_24 q_679) ⟨by decide, by decide, (show _ = some 2 from by decide +kernel)⟩ ⟨(Nat.le_of_ble_eq_true rfl), (Nat.le_of_ble_eq_true rfl)⟩ ix 3 rfl rfl (hix.trans (by rw [fx])) rfl (Nat.le_of_ble_eq_true rfl) dL_pour_5 ⟨(Nat.le_of_ble_eq_true rfl), (Nat.le_of_ble_eq_true rfl)⟩ (fun v9 w9 hp9 => ?_)
    obtain ⟨L1, f1, rfl, rfl, hk1, hi1⟩ := hp9
    refine vI2l X dL_pour_8 (v := v.toInt64) rfl ?_
    refine vpLastore X (hk1 ou hou).1 (((hk1 ou hou).2 hzo).trans fou) 5 rfl rfl (by decide) (by decide) (g' := vp_updL g0 0 (v.toInt64)) rfl dL_pour_9 ?_
    refine vGoto X 25 dL_pour_10 (by decide) ?_
    refine vIconst X dL_pour_25 (v := nI 0) (by decide) ?_
    refine vWiden 1 6 (Nat.le_of_ble_eq_true rfl) (Nat.le_of_ble_eq_true rfl) ?_
    exact vRetIL X hret dL_pour_26 ⟨L1, _, _, rfl, rfl, (fun a ha => ⟨(hk1 a ha).1, fun hz hn => (va_up_nq _ hn).trans ((hk1 a ha).2 hz)⟩), va_up_eq _ _ _, fun _ => rfl, hi1.foreign (fun t ht => ⟨ht, fun hz => va_up_nq _ (fun e => hz (by rw [e]; exact hzo))⟩)⟩
  · rcases (show kk = 1 ∨ kk = 2 ∨ kk = 3 by omega) with rfl | rfl | rfl
    · have hcx9 : vCtX l yX3_pour cX3_pour 5 (some .int) 9 131 1 6 D vCl (vTy k) sb [.ref x, .int p0, .int p1] (va_pl L f) "java/lang/IndexOutOfBoundsException" := hcx
      refine vCatch X hE [.int (nI 0), .ref ou] hcx9 (vGV q_676 q_677 q_678 q_24 q_679) ⟨by decide, by decide, (show _ = some 2 from by decide +kernel)⟩ ⟨(Nat.le_of_ble_eq_true rfl), (Nat.le_of_ble_eq_true rfl)⟩ ix 3 rfl rfl (hix.trans (by rw [fx])) rfl (Nat.le_of_ble_eq_true rfl) dL_pour_5 ⟨(Nat.le_of_ble_eq_true rfl), (Nat.le_of_ble_eq_true rfl)⟩ [] (⟨0, 10, 13, 13⟩ : ExceptionTableEntry) [(⟨0, 10, 17, 73⟩ : ExceptionTableEntry), (⟨0, 10, 21, 42⟩ : ExceptionTableEntry)] (htab.trans rfl) (fun _ hz => absurd hz List.not_mem_nil) (by decide) (by decide) (name := "java/lang/IndexOutOfBoundsException") (List.mem_cons_of_mem _ q_257) t_351 (fun a9 => ?_)
      refine vPc (pc' := 13) rfl ?_
      refine vAstore X _ dL_pour_13 (by decide) rfl ?_
      refine vIconst X dL_pour_15 (v := nI 1) (by decide) ?_
      refine vWiden 1 6 (Nat.le_of_ble_eq_true rfl) (Nat.le_of_ble_eq_true rfl) ?_
      exact vRetIL X hret dL_pour_16 ⟨L, f, g0, rfl, rfl, (fun a ha => ⟨ha, fun _ _ => rfl⟩), fou, fun e => absurd e (by decide), hinv⟩
    · have hcx9 : vCtX l yX3_pour cX3_pour 5 (some .int) 9 131 1 6 D vCl (vTy k) sb [.ref x, .int p0, .int p1] (va_pl L f) "java/lang/UnsupportedOperationException" := hcx
      refine vCatch X hE [.int (nI 0), .ref ou] hcx9 (vGV q_676 q_677 q_678 q_24 q_679) ⟨by decide, by decide, (show _ = some 2 from by decide +kernel)⟩ ⟨(Nat.le_of_ble_eq_true rfl), (Nat.le_of_ble_eq_true rfl)⟩ ix 3 rfl rfl (hix.trans (by rw [fx])) rfl (Nat.le_of_ble_eq_true rfl) dL_pour_5 ⟨(Nat.le_of_ble_eq_true rfl), (Nat.le_of_ble_eq_true rfl)⟩ [(⟨0, 10, 13, 13⟩ : ExceptionTableEntry)] (⟨0, 10, 17, 73⟩ : ExceptionTableEntry) [(⟨0, 10, 21, 42⟩ : ExceptionTableEntry)] (htab.trans rfl) (List.forall_mem_cons.mpr ⟨⟨by decide, _, List.mem_cons_of_mem _ q_257, by decide⟩, (fun _ hz => absurd hz List.not_mem_nil)⟩) (by decide) (by decide) (name := "java/lang/UnsupportedOperationException") (List.mem_cons_of_mem _ q_537) t_547 (fun a9 => ?_)
      refine vPc (pc' := 17) rfl ?_
      refine vAstore X _ dL_pour_17 (by decide) rfl ?_
      refine vIconst X dL_pour_19 (v := nI 2) (by decide) ?_
      refine vWiden 1 6 (Nat.le_of_ble_eq_true rfl) (Nat.le_of_ble_eq_true rfl) ?_
      exact vRetIL X hret dL_pour_20 ⟨L, f, g0, rfl, rfl, (fun a ha => ⟨ha, fun _ _ => rfl⟩), fou, fun e => absurd e (by decide), hinv⟩
    · have hcx9 : vCtX l yX3_pour cX3_pour 5 (some .int) 9 131 1 6 D vCl (vTy k) sb [.ref x, .int p0, .int p1] (va_pl L f) "java/lang/IllegalStateException" := hcx
      refine vCatch X hE [.int (nI 0), .ref ou] hcx9 (vGV q_676 q_677 q_678 q_24 q_679) ⟨by decide, by decide, (show _ = some 2 from by decide +kernel)⟩ ⟨(Nat.le_of_ble_eq_true rfl), (Nat.le_of_ble_eq_true rfl)⟩ ix 3 rfl rfl (hix.trans (by rw [fx])) rfl (Nat.le_of_ble_eq_true rfl) dL_pour_5 ⟨(Nat.le_of_ble_eq_true rfl), (Nat.le_of_ble_eq_true rfl)⟩ [(⟨0, 10, 13, 13⟩ : ExceptionTableEntry), (⟨0, 10, 17, 73⟩ : ExceptionTableEntry)] (⟨0, 10, 21, 42⟩ : ExceptionTableEntry) [] (htab.trans rfl) (List.forall_mem_cons.mpr ⟨⟨by decide, _, List.mem_cons_of_mem _ q_257, by decide⟩, (List.forall_mem_cons.mpr ⟨⟨by decide, _, List.mem_cons_of_mem _ q_537, by decide⟩, (fun _ hz => absurd hz List.not_mem_nil)⟩)⟩) (by decide) (by decide) (name := "java/lang/IllegalStateException") (List.mem_cons_of_mem _ q_433) t_453 (fun a9 => ?_)
      refine vPc (pc' := 21) rfl ?_
      refine vAstore X _ dL_pour_21 (by decide) rfl ?_
      refine vIconst X dL_pour_23 (v := nI 3) (by decide) ?_
      refine vWiden 1 6 (Nat.le_of_ble_eq_true rfl) (Nat.le_of_ble_eq_true rfl) ?_
      exact vRetIL X hret dL_pour_24 ⟨L, f, g0, rfl, rfl, (fun a ha => ⟨ha, fun _ _ => rfl⟩), fou, fun e => absurd e (by decide), hinv⟩
set_option maxHeartbeats 4000000 in
theorem lc_pourParts (l : Launch) (D : va_G) (k : Nat → ClassId) (sb : Nat) (L : List Nat) (f : Nat → va_E) (Z : Nat → Prop) (x : Nat) (B : Nat → Nat → Int32) (Ln Rm : Nat → Nat) (Rd : Nat → Option Nat) (Pl Mk : Nat → Nat) (G : Nat → Nat → Int32) (Sz : Nat → Nat) (hl : l.stackTraces = false) (h : cInv k L f Z x B Ln Rm Rd Pl Mk G Sz) (hZ : ∀ a, Z a → a ∈ L) (ou : Nat) (g0 : Nat → Int64) (hou : ou ∈ L) (hzo : Z ou) (fou : f ou = .inl (k 5, 1, .inr (.inl g0))) (p0 : Int32) (p1 : Int32) (p2 : Int32) : ∃ (kk : Nat) (v : Int32) (B' : Nat → Nat → Int32) (Ln' Rm' : Nat → Nat) (Rd' : Nat → Option Nat) (Pl' Mk' : Nat → Nat) (G' : Nat → Nat → Int32) (Sz' : Nat → Nat), kk ≤ 4 ∧ vCtL l yL_pourParts cL_pourParts 6 [(0, 12, 15, 13), (0, 12, 19, 15), (0, 12, 23, 73), (0, 12, 27, 42)] 10 178 1 6 D vCl (vTy k) sb [.ref x, .int p0, .int p1, .int p2, .ref ou] (va_pl L f) (wPost k L f Z x ou kk (v.toInt64) B' Ln' Rm' Rd' Pl' Mk' G' Sz') ∧ (∀ (o : Nat → Nat) (Kp : Nat → Int32) (th : Int32), ∃ Kp' : Nat → Int32, ∀ pl : va_W, vCt l yX4_pourParts cX4_pourParts 4 (some .int) 3 70 0 0 D vCl (vTy k) sb [.ref (o 0), .int p0, .int p1, .int p2] (mW k o pl B Ln Rm Rd Pl Mk G Sz Kp th) (vDet (some (.int v)) (mW k o pl B' Ln' Rm' Rd' Pl' Mk' G' Sz' Kp' (nI kk)))) := by
  obtain ⟨kk, v, B', Ln', Rm', Rd', Pl', Mk', G', Sz', hkk, hc, hm⟩ := cl_pourParts l D k sb L f Z x B Ln Rm Rd Pl Mk G Sz hl h hZ p0 p1 p2
  refine ⟨kk, v, B', Ln', Rm', Rd', Pl', Mk', G', Sz', hkk, ?_, hm⟩
  obtain ⟨hxL, fs, fx⟩ := h.obj
  obtain ⟨ix, hix⟩ := vp_ix (f := f) hxL
  refine vOfL (by decide +kernel) (Nat.le_of_ble_eq_true rfl) (fun p9 e9 s9 m9 below9 meth9 c9 X hret htab hE => ?_)
  refine vAload X dL_pourParts_0 4 rfl ?_
  refine vIconst X dL_pourParts_2 (v := nI 0) (by decide) ?_
  refine vAloadN X dL_pourParts_3 0 rfl ?_
  refine vIloadN X dL_pourParts_4 1 rfl ?_
  refine vIloadN X dL_pourParts_5 2 rfl ?_
  refine vIloadN X dL_pourParts_6 3 rfl ?_
  rcases hc with ⟨rfl, hc⟩ | ⟨hpos, hcx, hinv⟩
  · refine vCallV X [.int (nI 0), .ref ou] hc (vGV q_683 q_684 q_685 q_24 q_686) ⟨by decide, by decide, (show _ = some 3 from by decide +kernel)⟩ ⟨(Nat.le_of_ble_eq_true rfl), (Nat.le_of_ble_eq_true rfl)⟩ ix 3 rfl rfl (hix.trans (by rw [fx])) rfl (Nat.le_of_ble_eq_true rfl) dL_pourParts_7 ⟨(Nat.le_of_ble_eq_true rfl), (Nat.le_of_ble_eq_true rfl)⟩ (fun v9 w9 hp9 => ?_)
    obtain ⟨L1, f1, rfl, rfl, hk1, hi1⟩ := hp9
    refine vI2l X dL_pourParts_10 (v := v.toInt64) rfl ?_
    refine vpLastore X (hk1 ou hou).1 (((hk1 ou hou).2 hzo).trans fou) 5 rfl rfl (by decide) (by decide) (g' := vp_updL g0 0 (v.toInt64)) rfl dL_pourParts_11 ?_
    refine vGoto X 31 dL_pourParts_12 (by decide) ?_
    refine vIconst X dL_pourParts_31 (v := nI 0) (by decide) ?_
    refine vWiden 1 6 (Nat.le_of_ble_eq_true rfl) (Nat.le_of_ble_eq_true rfl) ?_
    exact vRetIL X hret dL_pourParts_32 ⟨L1, _, _, rfl, rfl, (fun a ha => ⟨(hk1 a ha).1, fun hz hn => (va_up_nq _ hn).trans ((hk1 a ha).2 hz)⟩), va_up_eq _ _ _, fun _ => rfl, hi1.foreign (fun t ht => ⟨ht, fun hz => va_up_nq _ (fun e => hz (by rw [e]; exact hzo))⟩)⟩
  · rcases (show kk = 1 ∨ kk = 2 ∨ kk = 3 ∨ kk = 4 by omega) with rfl | rfl | rfl | rfl
    · have hcx9 : vCtX l yX3_pourParts cX3_pourParts 6 (some .int) 9 153 1 6 D vCl (vTy k) sb [.ref x, .int p0, .int p1, .int p2] (va_pl L f) "java/lang/IndexOutOfBoundsException" := hcx
      refine vCatch X hE [.int (nI 0), .ref ou] hcx9 (vGV q_683 q_684 q_685 q_24 q_686) ⟨by decide, by decide, (show _ = some 3 from by decide +kernel)⟩ ⟨(Nat.le_of_ble_eq_true rfl), (Nat.le_of_ble_eq_true rfl)⟩ ix 3 rfl rfl (hix.trans (by rw [fx])) rfl (Nat.le_of_ble_eq_true rfl) dL_pourParts_7 ⟨(Nat.le_of_ble_eq_true rfl), (Nat.le_of_ble_eq_true rfl)⟩ [] (⟨0, 12, 15, 13⟩ : ExceptionTableEntry) [(⟨0, 12, 19, 15⟩ : ExceptionTableEntry), (⟨0, 12, 23, 73⟩ : ExceptionTableEntry), (⟨0, 12, 27, 42⟩ : ExceptionTableEntry)] (htab.trans rfl) (fun _ hz => absurd hz List.not_mem_nil) (by decide) (by decide) (name := "java/lang/IndexOutOfBoundsException") (List.mem_cons_of_mem _ q_257) t_351 (fun a9 => ?_)
      refine vPc (pc' := 15) rfl ?_
      refine vAstore X _ dL_pourParts_15 (by decide) rfl ?_
      refine vIconst X dL_pourParts_17 (v := nI 1) (by decide) ?_
      refine vWiden 1 6 (Nat.le_of_ble_eq_true rfl) (Nat.le_of_ble_eq_true rfl) ?_
      exact vRetIL X hret dL_pourParts_18 ⟨L, f, g0, rfl, rfl, (fun a ha => ⟨ha, fun _ _ => rfl⟩), fou, fun e => absurd e (by decide), hinv⟩
    · have hcx9 : vCtX l yX3_pourParts cX3_pourParts 6 (some .int) 9 153 1 6 D vCl (vTy k) sb [.ref x, .int p0, .int p1, .int p2] (va_pl L f) "java/lang/IllegalArgumentException" := hcx
      refine vCatch X hE [.int (nI 0), .ref ou] hcx9 (vGV q_683 q_684 q_685 q_24 q_686) ⟨by decide, by decide, (show _ = some 3 from by decide +kernel)⟩ ⟨(Nat.le_of_ble_eq_true rfl), (Nat.le_of_ble_eq_true rfl)⟩ ix 3 rfl rfl (hix.trans (by rw [fx])) rfl (Nat.le_of_ble_eq_true rfl) dL_pourParts_7 ⟨(Nat.le_of_ble_eq_true rfl), (Nat.le_of_ble_eq_true rfl)⟩ [(⟨0, 12, 15, 13⟩ : ExceptionTableEntry)] (⟨0, 12, 19, 15⟩ : ExceptionTableEntry) [(⟨0, 12, 23, 73⟩ : ExceptionTableEntry), (⟨0, 12, 27, 42⟩ : ExceptionTableEntry)] (htab.trans rfl) (List.forall_mem_cons.mpr ⟨⟨by decide, _, List.mem_cons_of_mem _ q_257, by decide⟩, (fun _ hz => absurd hz List.not_mem_nil)⟩) (by decide) (by decide) (name := "java/lang/IllegalArgumentException") (List.mem_cons_of_mem _ q_336) t_364 (fun a9 => ?_)
      refine vPc (pc' := 19) rfl ?_
      refine vAstore X _ dL_pourParts_19 (by decide) rfl ?_
      refine vIconst X dL_pourParts_21 (v := nI 2) (by decide) ?_
      refine vWiden 1 6 (Nat.le_of_ble_eq_true rfl) (Nat.le_of_ble_eq_true rfl) ?_
      exact vRetIL X hret dL_pourParts_22 ⟨L, f, g0, rfl, rfl, (fun a ha => ⟨ha, fun _ _ => rfl⟩), fou, fun e => absurd e (by decide), hinv⟩
    · have hcx9 : vCtX l yX3_pourParts cX3_pourParts 6 (some .int) 9 153 1 6 D vCl (vTy k) sb [.ref x, .int p0, .int p1, .int p2] (va_pl L f) "java/lang/UnsupportedOperationException" := hcx
      refine vCatch X hE [.int (nI 0), .ref ou] hcx9 (vGV q_683 q_684 q_685 q_24 q_686) ⟨by decide, by decide, (show _ = some 3 from by decide +kernel)⟩ ⟨(Nat.le_of_ble_eq_true rfl), (Nat.le_of_ble_eq_true rfl)⟩ ix 3 rfl rfl (hix.trans (by rw [fx])) rfl (Nat.le_of_ble_eq_true rfl) dL_pourParts_7 ⟨(Nat.le_of_ble_eq_true rfl), (Nat.le_of_ble_eq_true rfl)⟩ [(⟨0, 12, 15, 13⟩ : ExceptionTableEntry), (⟨0, 12, 19, 15⟩ : ExceptionTableEntry)] (⟨0, 12, 23, 73⟩ : ExceptionTableEntry) [(⟨0, 12, 27, 42⟩ : ExceptionTableEntry)] (htab.trans rfl) (List.forall_mem_cons.mpr ⟨⟨by decide, _, List.mem_cons_of_mem _ q_257, by decide⟩, (List.forall_mem_cons.mpr ⟨⟨by decide, _, List.mem_cons_of_mem _ q_336, by decide⟩, (fun _ hz => absurd hz List.not_mem_nil)⟩)⟩) (by decide) (by decide) (name := "java/lang/UnsupportedOperationException") (List.mem_cons_of_mem _ q_537) t_547 (fun a9 => ?_)
      refine vPc (pc' := 23) rfl ?_
      refine vAstore X _ dL_pourParts_23 (by decide) rfl ?_
      refine vIconst X dL_pourParts_25 (v := nI 3) (by decide) ?_
      refine vWiden 1 6 (Nat.le_of_ble_eq_true rfl) (Nat.le_of_ble_eq_true rfl) ?_
      exact vRetIL X hret dL_pourParts_26 ⟨L, f, g0, rfl, rfl, (fun a ha => ⟨ha, fun _ _ => rfl⟩), fou, fun e => absurd e (by decide), hinv⟩
    · have hcx9 : vCtX l yX3_pourParts cX3_pourParts 6 (some .int) 9 153 1 6 D vCl (vTy k) sb [.ref x, .int p0, .int p1, .int p2] (va_pl L f) "java/lang/IllegalStateException" := hcx
      refine vCatch X hE [.int (nI 0), .ref ou] hcx9 (vGV q_683 q_684 q_685 q_24 q_686) ⟨by decide, by decide, (show _ = some 3 from by decide +kernel)⟩ ⟨(Nat.le_of_ble_eq_true rfl), (Nat.le_of_ble_eq_true rfl)⟩ ix 3 rfl rfl (hix.trans (by rw [fx])) rfl (Nat.le_of_ble_eq_true rfl) dL_pourParts_7 ⟨(Nat.le_of_ble_eq_true rfl), (Nat.le_of_ble_eq_true rfl)⟩ [(⟨0, 12, 15, 13⟩ : ExceptionTableEntry), (⟨0, 12, 19, 15⟩ : ExceptionTableEntry), (⟨0, 12, 23, 73⟩ : ExceptionTableEntry)] (⟨0, 12, 27, 42⟩ : ExceptionTableEntry) [] (htab.trans rfl) (List.forall_mem_cons.mpr ⟨⟨by decide, _, List.mem_cons_of_mem _ q_257, by decide⟩, (List.forall_mem_cons.mpr ⟨⟨by decide, _, List.mem_cons_of_mem _ q_336, by decide⟩, (List.forall_mem_cons.mpr ⟨⟨by decide, _, List.mem_cons_of_mem _ q_537, by decide⟩, (fun _ hz => absurd hz List.not_mem_nil)⟩)⟩)⟩) (by decide) (by decide) (name := "java/lang/IllegalStateException") (List.mem_cons_of_mem _ q_433) t_453 (fun a9 => ?_)
      refine vPc (pc' := 27) rfl ?_
      refine vAstore X _ dL_pourParts_27 (by decide) rfl ?_
      refine vIconst X dL_pourParts_29 (v := nI 4) (by decide) ?_
      refine vWiden 1 6 (Nat.le_of_ble_eq_true rfl) (Nat.le_of_ble_eq_true rfl) ?_
      exact vRetIL X hret dL_pourParts_30 ⟨L, f, g0, rfl, rfl, (fun a ha => ⟨ha, fun _ _ => rfl⟩), fou, fun e => absurd e (by decide), hinv⟩
set_option maxHeartbeats 4000000 in
theorem lc_alike (l : Launch) (D : va_G) (k : Nat → ClassId) (sb : Nat) (L : List Nat) (f : Nat → va_E) (Z : Nat → Prop) (x : Nat) (B : Nat → Nat → Int32) (Ln Rm : Nat → Nat) (Rd : Nat → Option Nat) (Pl Mk : Nat → Nat) (G : Nat → Nat → Int32) (Sz : Nat → Nat) (hl : l.stackTraces = false) (h : cInv k L f Z x B Ln Rm Rd Pl Mk G Sz) (hZ : ∀ a, Z a → a ∈ L) (ou : Nat) (g0 : Nat → Int64) (hou : ou ∈ L) (hzo : Z ou) (fou : f ou = .inl (k 5, 1, .inr (.inl g0))) (p0 : Int32) (p1 : Int32) : ∃ (kk : Nat) (v : Int32) (B' : Nat → Nat → Int32) (Ln' Rm' : Nat → Nat) (Rd' : Nat → Option Nat) (Pl' Mk' : Nat → Nat) (G' : Nat → Nat → Int32) (Sz' : Nat → Nat), kk ≤ 3 ∧ vCtL l yL_alike cL_alike 5 [(0, 10, 13, 13), (0, 10, 17, 15), (0, 10, 21, 73)] 10 157 1 6 D vCl (vTy k) sb [.ref x, .int p0, .int p1, .ref ou] (va_pl L f) (wPost k L f Z x ou kk (v.toInt64) B' Ln' Rm' Rd' Pl' Mk' G' Sz') ∧ (∀ (o : Nat → Nat) (Kp : Nat → Int32) (th : Int32), ∃ Kp' : Nat → Int32, ∀ pl : va_W, vCt l yX4_alike cX4_alike 4 (some .int) 1 21 0 0 D vCl (vTy k) sb [.ref (o 0), .int p0, .int p1] (mW k o pl B Ln Rm Rd Pl Mk G Sz Kp th) (vDet (some (.int v)) (mW k o pl B' Ln' Rm' Rd' Pl' Mk' G' Sz' Kp' (nI kk)))) := by
  obtain ⟨kk, v, B', Ln', Rm', Rd', Pl', Mk', G', Sz', hkk, hc, hm⟩ := cl_alike l D k sb L f Z x B Ln Rm Rd Pl Mk G Sz hl h hZ p0 p1
  refine ⟨kk, v, B', Ln', Rm', Rd', Pl', Mk', G', Sz', hkk, ?_, hm⟩
  obtain ⟨hxL, fs, fx⟩ := h.obj
  obtain ⟨ix, hix⟩ := vp_ix (f := f) hxL
  refine vOfL (by decide +kernel) (Nat.le_of_ble_eq_true rfl) (fun p9 e9 s9 m9 below9 meth9 c9 X hret htab hE => ?_)
  refine vAloadN X dL_alike_0 3 rfl ?_
  refine vIconst X dL_alike_1 (v := nI 0) (by decide) ?_
  refine vAloadN X dL_alike_2 0 rfl ?_
  refine vIloadN X dL_alike_3 1 rfl ?_
  refine vIloadN X dL_alike_4 2 rfl ?_
  rcases hc with ⟨rfl, hc⟩ | ⟨hpos, hcx, hinv⟩
  · refine vCallV X [.int (nI 0), .ref ou] hc (vGV q_691 q_692 q_693 q_24 q_694) ⟨by decide, by decide, (show _ = some 2 from by decide +kernel)⟩ ⟨(Nat.le_of_ble_eq_true rfl), (Nat.le_of_ble_eq_true rfl)⟩ ix 3 rfl rfl (hix.trans (by rw [fx])) rfl (Nat.le_of_ble_eq_true rfl) dL_alike_5 ⟨(Nat.le_of_ble_eq_true rfl), (Nat.le_of_ble_eq_true rfl)⟩ (fun v9 w9 hp9 => ?_)
    obtain ⟨L1, f1, rfl, rfl, hk1, hi1⟩ := hp9
    refine vI2l X dL_alike_8 (v := v.toInt64) rfl ?_
    refine vpLastore X (hk1 ou hou).1 (((hk1 ou hou).2 hzo).trans fou) 5 rfl rfl (by decide) (by decide) (g' := vp_updL g0 0 (v.toInt64)) rfl dL_alike_9 ?_
    refine vGoto X 25 dL_alike_10 (by decide) ?_
    refine vIconst X dL_alike_25 (v := nI 0) (by decide) ?_
    refine vWiden 1 6 (Nat.le_of_ble_eq_true rfl) (Nat.le_of_ble_eq_true rfl) ?_
    exact vRetIL X hret dL_alike_26 ⟨L1, _, _, rfl, rfl, (fun a ha => ⟨(hk1 a ha).1, fun hz hn => (va_up_nq _ hn).trans ((hk1 a ha).2 hz)⟩), va_up_eq _ _ _, fun _ => rfl, hi1.foreign (fun t ht => ⟨ht, fun hz => va_up_nq _ (fun e => hz (by rw [e]; exact hzo))⟩)⟩
  · rcases (show kk = 1 ∨ kk = 2 ∨ kk = 3 by omega) with rfl | rfl | rfl
    · have hcx9 : vCtX l yX3_alike cX3_alike 7 (some .int) 9 131 1 6 D vCl (vTy k) sb [.ref x, .int p0, .int p1] (va_pl L f) "java/lang/IndexOutOfBoundsException" := hcx
      refine vCatch X hE [.int (nI 0), .ref ou] hcx9 (vGV q_691 q_692 q_693 q_24 q_694) ⟨by decide, by decide, (show _ = some 2 from by decide +kernel)⟩ ⟨(Nat.le_of_ble_eq_true rfl), (Nat.le_of_ble_eq_true rfl)⟩ ix 3 rfl rfl (hix.trans (by rw [fx])) rfl (Nat.le_of_ble_eq_true rfl) dL_alike_5 ⟨(Nat.le_of_ble_eq_true rfl), (Nat.le_of_ble_eq_true rfl)⟩ [] (⟨0, 10, 13, 13⟩ : ExceptionTableEntry) [(⟨0, 10, 17, 15⟩ : ExceptionTableEntry), (⟨0, 10, 21, 73⟩ : ExceptionTableEntry)] (htab.trans rfl) (fun _ hz => absurd hz List.not_mem_nil) (by decide) (by decide) (name := "java/lang/IndexOutOfBoundsException") (List.mem_cons_of_mem _ q_257) t_351 (fun a9 => ?_)
      refine vPc (pc' := 13) rfl ?_
      refine vAstore X _ dL_alike_13 (by decide) rfl ?_
      refine vIconst X dL_alike_15 (v := nI 1) (by decide) ?_
      refine vWiden 1 6 (Nat.le_of_ble_eq_true rfl) (Nat.le_of_ble_eq_true rfl) ?_
      exact vRetIL X hret dL_alike_16 ⟨L, f, g0, rfl, rfl, (fun a ha => ⟨ha, fun _ _ => rfl⟩), fou, fun e => absurd e (by decide), hinv⟩
    · have hcx9 : vCtX l yX3_alike cX3_alike 7 (some .int) 9 131 1 6 D vCl (vTy k) sb [.ref x, .int p0, .int p1] (va_pl L f) "java/lang/IllegalArgumentException" := hcx
      refine vCatch X hE [.int (nI 0), .ref ou] hcx9 (vGV q_691 q_692 q_693 q_24 q_694) ⟨by decide, by decide, (show _ = some 2 from by decide +kernel)⟩ ⟨(Nat.le_of_ble_eq_true rfl), (Nat.le_of_ble_eq_true rfl)⟩ ix 3 rfl rfl (hix.trans (by rw [fx])) rfl (Nat.le_of_ble_eq_true rfl) dL_alike_5 ⟨(Nat.le_of_ble_eq_true rfl), (Nat.le_of_ble_eq_true rfl)⟩ [(⟨0, 10, 13, 13⟩ : ExceptionTableEntry)] (⟨0, 10, 17, 15⟩ : ExceptionTableEntry) [(⟨0, 10, 21, 73⟩ : ExceptionTableEntry)] (htab.trans rfl) (List.forall_mem_cons.mpr ⟨⟨by decide, _, List.mem_cons_of_mem _ q_257, by decide⟩, (fun _ hz => absurd hz List.not_mem_nil)⟩) (by decide) (by decide) (name := "java/lang/IllegalArgumentException") (List.mem_cons_of_mem _ q_336) t_364 (fun a9 => ?_)
      refine vPc (pc' := 17) rfl ?_
      refine vAstore X _ dL_alike_17 (by decide) rfl ?_
      refine vIconst X dL_alike_19 (v := nI 2) (by decide) ?_
      refine vWiden 1 6 (Nat.le_of_ble_eq_true rfl) (Nat.le_of_ble_eq_true rfl) ?_
      exact vRetIL X hret dL_alike_20 ⟨L, f, g0, rfl, rfl, (fun a ha => ⟨ha, fun _ _ => rfl⟩), fou, fun e => absurd e (by decide), hinv⟩
    · have hcx9 : vCtX l yX3_alike cX3_alike 7 (some .int) 9 131 1 6 D vCl (vTy k) sb [.ref x, .int p0, .int p1] (va_pl L f) "java/lang/UnsupportedOperationException" := hcx
      refine vCatch X hE [.int (nI 0), .ref ou] hcx9 (vGV q_691 q_692 q_693 q_24 q_694) ⟨by decide, by decide, (show _ = some 2 from by decide +kernel)⟩ ⟨(Nat.le_of_ble_eq_true rfl), (Nat.le_of_ble_eq_true rfl)⟩ ix 3 rfl rfl (hix.trans (by rw [fx])) rfl (Nat.le_of_ble_eq_true rfl) dL_alike_5 ⟨(Nat.le_of_ble_eq_true rfl), (Nat.le_of_ble_eq_true rfl)⟩ [(⟨0, 10, 13, 13⟩ : ExceptionTableEntry), (⟨0, 10, 17, 15⟩ : ExceptionTableEntry)] (⟨0, 10, 21, 73⟩ : ExceptionTableEntry) [] (htab.trans rfl) (List.forall_mem_cons.mpr ⟨⟨by decide, _, List.mem_cons_of_mem _ q_257, by decide⟩, (List.forall_mem_cons.mpr ⟨⟨by decide, _, List.mem_cons_of_mem _ q_336, by decide⟩, (fun _ hz => absurd hz List.not_mem_nil)⟩)⟩) (by decide) (by decide) (name := "java/lang/UnsupportedOperationException") (List.mem_cons_of_mem _ q_537) t_547 (fun a9 => ?_)
      refine vPc (pc' := 21) rfl ?_
      refine vAstore X _ dL_alike_21 (by decide) rfl ?_
      refine vIconst X dL_alike_23 (v := nI 3) (by decide) ?_
      refine vWiden 1 6 (Nat.le_of_ble_eq_true rfl) (Nat.le_of_ble_eq_true rfl) ?_
      exact vRetIL X hret dL_alike_24 ⟨L, f, g0, rfl, rfl, (fun a ha => ⟨ha, fun _ _ => rfl⟩), fou, fun e => absurd e (by decide), hinv⟩
set_option maxHeartbeats 4000000 in
theorem lc_leftShare (l : Launch) (D : va_G) (k : Nat → ClassId) (sb : Nat) (L : List Nat) (f : Nat → va_E) (Z : Nat → Prop) (x : Nat) (B : Nat → Nat → Int32) (Ln Rm : Nat → Nat) (Rd : Nat → Option Nat) (Pl Mk : Nat → Nat) (G : Nat → Nat → Int32) (Sz : Nat → Nat) (hl : l.stackTraces = false) (h : cInv k L f Z x B Ln Rm Rd Pl Mk G Sz) (hZ : ∀ a, Z a → a ∈ L) (ou : Nat) (g0 : Nat → UInt64) (hou : ou ∈ L) (hzo : Z ou) (fou : f ou = .inl (k 6, 1, .inr (.inr (.inr (.inl g0))))) (p0 : Int32) : ∃ (kk : Nat) (v : UInt32) (B' : Nat → Nat → Int32) (Ln' Rm' : Nat → Nat) (Rd' : Nat → Option Nat) (Pl' Mk' : Nat → Nat) (G' : Nat → Nat → Int32) (Sz' : Nat → Nat), kk ≤ 3 ∧ vCtL l yL_leftShare cL_leftShare 4 [(0, 9, 12, 13), (0, 9, 15, 73), (0, 9, 18, 121)] 10 154 1 6 D vCl (vTy k) sb [.ref x, .int p0, .ref ou] (va_pl L f) (wPostD k L f Z x ou kk (FP.f2d v) B' Ln' Rm' Rd' Pl' Mk' G' Sz') ∧ (∀ (o : Nat → Nat) (Kp : Nat → Int32) (th : Int32), ∃ Kp' : Nat → Int32, ∀ pl : va_W, vCt l yX4_leftShare cX4_leftShare 2 (some .float) 1 21 0 0 D vCl (vTy k) sb [.ref (o 0), .int p0] (mW k o pl B Ln Rm Rd Pl Mk G Sz Kp th) (vDet (some (.float v)) (mW k o pl B' Ln' Rm' Rd' Pl' Mk' G' Sz' Kp' (nI kk)))) ∧ (kk = 0 → vf_n64 (FP.f2d v)) := by
  obtain ⟨kk, v, B', Ln', Rm', Rd', Pl', Mk', G', Sz', hkk, hc, hm, hx9⟩ := cl_leftShare l D k sb L f Z x B Ln Rm Rd Pl Mk G Sz hl h hZ p0
  refine ⟨kk, v, B', Ln', Rm', Rd', Pl', Mk', G', Sz', hkk, ?_, hm, hx9⟩
  obtain ⟨hxL, fs, fx⟩ := h.obj
  obtain ⟨ix, hix⟩ := vp_ix (f := f) hxL
  refine vOfL (by decide +kernel) (Nat.le_of_ble_eq_true rfl) (fun p9 e9 s9 m9 below9 meth9 c9 X hret htab hE => ?_)
  refine vAloadN X dL_leftShare_0 2 rfl ?_
  refine vIconst X dL_leftShare_1 (v := nI 0) (by decide) ?_
  refine vAloadN X dL_leftShare_2 0 rfl ?_
  refine vIloadN X dL_leftShare_3 1 rfl ?_
  rcases hc with ⟨rfl, hc⟩ | ⟨hpos, hcx, hinv⟩
  · refine vCallV X [.int (nI 0), .ref ou] hc (vGV q_717 q_718 q_719 q_24 q_720) ⟨by decide, by decide, (show _ = some 1 from by decide +kernel)⟩ ⟨(Nat.le_of_ble_eq_true rfl), (Nat.le_of_ble_eq_true rfl)⟩ ix 3 rfl rfl (hix.trans (by rw [fx])) rfl (Nat.le_of_ble_eq_true rfl) dL_leftShare_4 ⟨(Nat.le_of_ble_eq_true rfl), (Nat.le_of_ble_eq_true rfl)⟩ (fun v9 w9 hp9 => ?_)
    obtain ⟨L1, f1, rfl, rfl, hk1, hi1⟩ := hp9
    refine vF2d X dL_leftShare_7 (hx9 rfl) ?_
    refine vpDastore X (hk1 ou hou).1 (((hk1 ou hou).2 hzo).trans fou) 6 rfl rfl (by decide) (by decide) (g' := vf_upd g0 0 (FP.f2d v)) rfl dL_leftShare_8 ?_
    refine vGoto X 21 dL_leftShare_9 (by decide) ?_
    refine vIconst X dL_leftShare_21 (v := nI 0) (by decide) ?_
    refine vWiden 1 6 (Nat.le_of_ble_eq_true rfl) (Nat.le_of_ble_eq_true rfl) ?_
    exact vRetIL X hret dL_leftShare_22 ⟨L1, _, _, rfl, rfl, (fun a ha => ⟨(hk1 a ha).1, fun hz hn => (va_up_nq _ hn).trans ((hk1 a ha).2 hz)⟩), va_up_eq _ _ _, fun _ => rfl, hi1.foreign (fun t ht => ⟨ht, fun hz => va_up_nq _ (fun e => hz (by rw [e]; exact hzo))⟩)⟩
  · rcases (show kk = 1 ∨ kk = 2 ∨ kk = 3 by omega) with rfl | rfl | rfl
    · have hcx9 : vCtX l yX3_leftShare cX3_leftShare 4 (some .float) 9 131 1 6 D vCl (vTy k) sb [.ref x, .int p0] (va_pl L f) "java/lang/IndexOutOfBoundsException" := hcx
      refine vCatch X hE [.int (nI 0), .ref ou] hcx9 (vGV q_717 q_718 q_719 q_24 q_720) ⟨by decide, by decide, (show _ = some 1 from by decide +kernel)⟩ ⟨(Nat.le_of_ble_eq_true rfl), (Nat.le_of_ble_eq_true rfl)⟩ ix 3 rfl rfl (hix.trans (by rw [fx])) rfl (Nat.le_of_ble_eq_true rfl) dL_leftShare_4 ⟨(Nat.le_of_ble_eq_true rfl), (Nat.le_of_ble_eq_true rfl)⟩ [] (⟨0, 9, 12, 13⟩ : ExceptionTableEntry) [(⟨0, 9, 15, 73⟩ : ExceptionTableEntry), (⟨0, 9, 18, 121⟩ : ExceptionTableEntry)] (htab.trans rfl) (fun _ hz => absurd hz List.not_mem_nil) (by decide) (by decide) (name := "java/lang/IndexOutOfBoundsException") (List.mem_cons_of_mem _ q_257) t_351 (fun a9 => ?_)
      refine vPc (pc' := 12) rfl ?_
      refine vAstoreN X _ dL_leftShare_12 (by decide) rfl ?_
      refine vIconst X dL_leftShare_13 (v := nI 1) (by decide) ?_
      refine vWiden 1 6 (Nat.le_of_ble_eq_true rfl) (Nat.le_of_ble_eq_true rfl) ?_
      exact vRetIL X hret dL_leftShare_14 ⟨L, f, g0, rfl, rfl, (fun a ha => ⟨ha, fun _ _ => rfl⟩), fou, fun e => absurd e (by decide), hinv⟩
    · have hcx9 : vCtX l yX3_leftShare cX3_leftShare 4 (some .float) 9 131 1 6 D vCl (vTy k) sb [.ref x, .int p0] (va_pl L f) "java/lang/UnsupportedOperationException" := hcx
      refine vCatch X hE [.int (nI 0), .ref ou] hcx9 (vGV q_717 q_718 q_719 q_24 q_720) ⟨by decide, by decide, (show _ = some 1 from by decide +kernel)⟩ ⟨(Nat.le_of_ble_eq_true rfl), (Nat.le_of_ble_eq_true rfl)⟩ ix 3 rfl rfl (hix.trans (by rw [fx])) rfl (Nat.le_of_ble_eq_true rfl) dL_leftShare_4 ⟨(Nat.le_of_ble_eq_true rfl), (Nat.le_of_ble_eq_true rfl)⟩ [(⟨0, 9, 12, 13⟩ : ExceptionTableEntry)] (⟨0, 9, 15, 73⟩ : ExceptionTableEntry) [(⟨0, 9, 18, 121⟩ : ExceptionTableEntry)] (htab.trans rfl) (List.forall_mem_cons.mpr ⟨⟨by decide, _, List.mem_cons_of_mem _ q_257, by decide⟩, (fun _ hz => absurd hz List.not_mem_nil)⟩) (by decide) (by decide) (name := "java/lang/UnsupportedOperationException") (List.mem_cons_of_mem _ q_537) t_547 (fun a9 => ?_)
      refine vPc (pc' := 15) rfl ?_
      refine vAstoreN X _ dL_leftShare_15 (by decide) rfl ?_
      refine vIconst X dL_leftShare_16 (v := nI 2) (by decide) ?_
      refine vWiden 1 6 (Nat.le_of_ble_eq_true rfl) (Nat.le_of_ble_eq_true rfl) ?_
      exact vRetIL X hret dL_leftShare_17 ⟨L, f, g0, rfl, rfl, (fun a ha => ⟨ha, fun _ _ => rfl⟩), fou, fun e => absurd e (by decide), hinv⟩
    · have hcx9 : vCtX l yX3_leftShare cX3_leftShare 4 (some .float) 9 131 1 6 D vCl (vTy k) sb [.ref x, .int p0] (va_pl L f) "java/lang/ArithmeticException" := hcx
      refine vCatch X hE [.int (nI 0), .ref ou] hcx9 (vGV q_717 q_718 q_719 q_24 q_720) ⟨by decide, by decide, (show _ = some 1 from by decide +kernel)⟩ ⟨(Nat.le_of_ble_eq_true rfl), (Nat.le_of_ble_eq_true rfl)⟩ ix 3 rfl rfl (hix.trans (by rw [fx])) rfl (Nat.le_of_ble_eq_true rfl) dL_leftShare_4 ⟨(Nat.le_of_ble_eq_true rfl), (Nat.le_of_ble_eq_true rfl)⟩ [(⟨0, 9, 12, 13⟩ : ExceptionTableEntry), (⟨0, 9, 15, 73⟩ : ExceptionTableEntry)] (⟨0, 9, 18, 121⟩ : ExceptionTableEntry) [] (htab.trans rfl) (List.forall_mem_cons.mpr ⟨⟨by decide, _, List.mem_cons_of_mem _ q_257, by decide⟩, (List.forall_mem_cons.mpr ⟨⟨by decide, _, List.mem_cons_of_mem _ q_537, by decide⟩, (fun _ hz => absurd hz List.not_mem_nil)⟩)⟩) (by decide) (by decide) (name := "java/lang/ArithmeticException") (List.mem_cons_of_mem _ q_703) t_715 (fun a9 => ?_)
      refine vPc (pc' := 18) rfl ?_
      refine vAstoreN X _ dL_leftShare_18 (by decide) rfl ?_
      refine vIconst X dL_leftShare_19 (v := nI 3) (by decide) ?_
      refine vWiden 1 6 (Nat.le_of_ble_eq_true rfl) (Nat.le_of_ble_eq_true rfl) ?_
      exact vRetIL X hret dL_leftShare_20 ⟨L, f, g0, rfl, rfl, (fun a ha => ⟨ha, fun _ _ => rfl⟩), fou, fun e => absurd e (by decide), hinv⟩
set_option maxHeartbeats 4000000 in
theorem lc_meanSize (l : Launch) (D : va_G) (k : Nat → ClassId) (sb : Nat) (L : List Nat) (f : Nat → va_E) (Z : Nat → Prop) (x : Nat) (B : Nat → Nat → Int32) (Ln Rm : Nat → Nat) (Rd : Nat → Option Nat) (Pl Mk : Nat → Nat) (G : Nat → Nat → Int32) (Sz : Nat → Nat) (hl : l.stackTraces = false) (h : cInv k L f Z x B Ln Rm Rd Pl Mk G Sz) (hZ : ∀ a, Z a → a ∈ L) (ou : Nat) (g0 : Nat → UInt64) (hou : ou ∈ L) (hzo : Z ou) (fou : f ou = .inl (k 6, 1, .inr (.inr (.inr (.inl g0)))))  : ∃ (kk : Nat) (v : UInt64) (B' : Nat → Nat → Int32) (Ln' Rm' : Nat → Nat) (Rd' : Nat → Option Nat) (Pl' Mk' : Nat → Nat) (G' : Nat → Nat → Int32) (Sz' : Nat → Nat), kk ≤ 1 ∧ vCtL l yL_meanSize cL_meanSize 3 [(0, 7, 10, 121)] 9 133 1 6 D vCl (vTy k) sb [.ref x, .ref ou] (va_pl L f) (wPostD k L f Z x ou kk (v) B' Ln' Rm' Rd' Pl' Mk' G' Sz') ∧ (∀ (o : Nat → Nat) (Kp : Nat → Int32) (th : Int32), ∃ Kp' : Nat → Int32, ∀ pl : va_W, vCt l yX4_meanSize cX4_meanSize 4 (some .double) 1 21 0 0 D vCl (vTy k) sb [.ref (o 0)] (mW k o pl B Ln Rm Rd Pl Mk G Sz Kp th) (vDet (some (.double v)) (mW k o pl B' Ln' Rm' Rd' Pl' Mk' G' Sz' Kp' (nI kk)))) ∧ (kk = 0 → vf_n64 v) := by
  obtain ⟨kk, v, B', Ln', Rm', Rd', Pl', Mk', G', Sz', hkk, hc, hm, hx9⟩ := cl_meanSize l D k sb L f Z x B Ln Rm Rd Pl Mk G Sz hl h hZ 
  refine ⟨kk, v, B', Ln', Rm', Rd', Pl', Mk', G', Sz', hkk, ?_, hm, hx9⟩
  obtain ⟨hxL, fs, fx⟩ := h.obj
  obtain ⟨ix, hix⟩ := vp_ix (f := f) hxL
  refine vOfL (by decide +kernel) (Nat.le_of_ble_eq_true rfl) (fun p9 e9 s9 m9 below9 meth9 c9 X hret htab hE => ?_)
  refine vAloadN X dL_meanSize_0 1 rfl ?_
  refine vIconst X dL_meanSize_1 (v := nI 0) (by decide) ?_
  refine vAloadN X dL_meanSize_2 0 rfl ?_
  rcases hc with ⟨rfl, hc⟩ | ⟨hpos, hcx, hinv⟩
  · refine vCallV X [.int (nI 0), .ref ou] hc (vGV q_731 q_732 q_733 q_24 q_734) ⟨by decide, by decide, (show _ = some 0 from by decide +kernel)⟩ ⟨(Nat.le_of_ble_eq_true rfl), (Nat.le_of_ble_eq_true rfl)⟩ ix 3 rfl rfl (hix.trans (by rw [fx])) rfl (Nat.le_of_ble_eq_true rfl) dL_meanSize_3 ⟨(Nat.le_of_ble_eq_true rfl), (Nat.le_of_ble_eq_true rfl)⟩ (fun v9 w9 hp9 => ?_)
    obtain ⟨L1, f1, rfl, rfl, hk1, hi1⟩ := hp9
    refine vpDastore X (hk1 ou hou).1 (((hk1 ou hou).2 hzo).trans fou) 6 rfl rfl (by decide) (by decide) (g' := vf_upd g0 0 (v)) rfl dL_meanSize_6 ?_
    refine vGoto X 13 dL_meanSize_7 (by decide) ?_
    refine vIconst X dL_meanSize_13 (v := nI 0) (by decide) ?_
    refine vWiden 1 6 (Nat.le_of_ble_eq_true rfl) (Nat.le_of_ble_eq_true rfl) ?_
    exact vRetIL X hret dL_meanSize_14 ⟨L1, _, _, rfl, rfl, (fun a ha => ⟨(hk1 a ha).1, fun hz hn => (va_up_nq _ hn).trans ((hk1 a ha).2 hz)⟩), va_up_eq _ _ _, fun _ => rfl, hi1.foreign (fun t ht => ⟨ht, fun hz => va_up_nq _ (fun e => hz (by rw [e]; exact hzo))⟩)⟩
  · obtain rfl : kk = 1 := by omega
    have hcx9 : vCtX l yX3_meanSize cX3_meanSize 4 (some .double) 8 110 1 6 D vCl (vTy k) sb [.ref x] (va_pl L f) "java/lang/ArithmeticException" := hcx
    refine vCatch X hE [.int (nI 0), .ref ou] hcx9 (vGV q_731 q_732 q_733 q_24 q_734) ⟨by decide, by decide, (show _ = some 0 from by decide +kernel)⟩ ⟨(Nat.le_of_ble_eq_true rfl), (Nat.le_of_ble_eq_true rfl)⟩ ix 3 rfl rfl (hix.trans (by rw [fx])) rfl (Nat.le_of_ble_eq_true rfl) dL_meanSize_3 ⟨(Nat.le_of_ble_eq_true rfl), (Nat.le_of_ble_eq_true rfl)⟩ [] (⟨0, 7, 10, 121⟩ : ExceptionTableEntry) [] (htab.trans rfl) (fun _ hz => absurd hz List.not_mem_nil) (by decide) (by decide) (name := "java/lang/ArithmeticException") (List.mem_cons_of_mem _ q_703) t_715 (fun a9 => ?_)
    refine vPc (pc' := 10) rfl ?_
    refine vAstoreN X _ dL_meanSize_10 (by decide) rfl ?_
    refine vIconst X dL_meanSize_11 (v := nI 1) (by decide) ?_
    refine vWiden 1 6 (Nat.le_of_ble_eq_true rfl) (Nat.le_of_ble_eq_true rfl) ?_
    exact vRetIL X hret dL_meanSize_12 ⟨L, f, g0, rfl, rfl, (fun a ha => ⟨ha, fun _ _ => rfl⟩), fou, fun e => absurd e (by decide), hinv⟩
