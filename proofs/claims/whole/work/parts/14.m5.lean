/-- the four bytes of a number, the highest one first -/
def n4 (v : Int32) (j : Nat) : Int32 := lb (v >>> (nI (24 - 8 * j) &&& 31))
theorem cpG_S (G : Nat → Nat → Int32) (g s i : Nat) (src : Nat → Int32) (x : Int32) (hx : src i = x) : up2 (cpG G g s i src) g (s + i) x = cpG G g s (i + 1) src := by
  rw [← hx]; exact cpG_1 G g s i src
set_option maxHeartbeats 4000000 in
set_option maxRecDepth 100000 in
theorem mm_writeNumber1 (l : Launch) (D : va_G) (k : Nat → ClassId) (o : Nat → Nat) (pl : va_W) (sb : Nat) (B : Nat → Nat → Int32) (Ln Rm : Nat → Nat) (Rd : Nat → Option Nat) (Pl Mk : Nat → Nat) (G : Nat → Nat → Int32) (Sz : Nat → Nat) (Kp : Nat → Int32) (th : Int32) (x v : Int32) (hx : ¬ vOther x) : vCt l yX4_writeNumber cX4_writeNumber 4 (some .int) 2 44 0 0 D vCl (vTy k) sb [.ref (o 0), .int (x), .int (v)] (mW k o pl B Ln Rm Rd Pl Mk G Sz Kp th) (vDet (some (.int (nI (0)))) (mW k o pl B Ln Rm Rd Pl Mk G Sz Kp (nI (1)))) := by
  refine vOf (by decide +kernel) (Nat.le_of_ble_eq_true rfl) (fun p9 e9 s9 m9 below9 meth9 c9 X hret _ => ?_)
  refine vAloadN X dX4_writeNumber_0 0 rfl ?_
  refine vAloadN X dX4_writeNumber_1 0 rfl ?_
  refine vIloadN X dX4_writeNumber_2 1 rfl ?_
  refine vCallVd X [.ref (o 0)] (mm_isOtherF l D k o pl sb B Ln Rm Rd Pl Mk G Sz Kp th x hx) (vGV q_838 q_840 q_14 q_29 q_841) ⟨by decide, by decide, (show _ = some 1 from by decide +kernel)⟩ ⟨Nat.le_of_ble_eq_true rfl, Nat.le_of_ble_eq_true rfl⟩ 0 4 rfl rfl rfl rfl (Nat.le_of_ble_eq_true rfl) dX4_writeNumber_3 ⟨Nat.zero_le _, Nat.zero_le _⟩ ?_
  refine vIfN_neF X 13 dX4_writeNumber_6 (by decide) (by omega) (by omega) ?_
  refine vIconst X dX4_writeNumber_9 (v := nI (1)) (by decide) ?_
  refine vGoto X 27 dX4_writeNumber_10 (by decide) ?_
  refine vCallVd X [] (mm_isWrong1 l D k o pl sb B Ln Rm Rd Pl Mk G Sz Kp th 1 (by decide) (by decide)) (vGV q_786 q_788 q_8 q_29 q_789) ⟨by decide, by decide, (show _ = some 1 from by decide +kernel)⟩ ⟨Nat.le_of_ble_eq_true rfl, Nat.le_of_ble_eq_true rfl⟩ 0 4 rfl rfl rfl rfl (Nat.le_of_ble_eq_true rfl) dX4_writeNumber_27 ⟨Nat.zero_le _, Nat.zero_le _⟩ ?_
  refine vIfN_eqF X 35 dX4_writeNumber_30 (by decide) (by omega) (by omega) ?_
  refine vIconst X dX4_writeNumber_33 (v := nI (0)) (by decide) ?_
  exact vRetI X hret dX4_writeNumber_34 ⟨rfl, rfl⟩
set_option maxHeartbeats 4000000 in
set_option maxRecDepth 100000 in
theorem mm_writeNumber2 (l : Launch) (D : va_G) (k : Nat → ClassId) (o : Nat → Nat) (pl : va_W) (sb : Nat) (B : Nat → Nat → Int32) (Ln Rm : Nat → Nat) (Rd : Nat → Option Nat) (Pl Mk : Nat → Nat) (G : Nat → Nat → Int32) (Sz : Nat → Nat) (Kp : Nat → Int32) (th : Int32) (g : Nat) (v : Int32) (hg : g < 3) (hs : Sz g ≤ 256) (h : 256 < Sz g + 4) : vCt l yX4_writeNumber cX4_writeNumber 4 (some .int) 2 44 0 0 D vCl (vTy k) sb [.ref (o 0), .int (nI (g)), .int (v)] (mW k o pl B Ln Rm Rd Pl Mk G Sz Kp th) (vDet (some (.int (nI (0)))) (mW k o pl B Ln Rm Rd Pl Mk G Sz Kp (nI (2)))) := by
  refine vOf (by decide +kernel) (Nat.le_of_ble_eq_true rfl) (fun p9 e9 s9 m9 below9 meth9 c9 X hret _ => ?_)
  refine vAloadN X dX4_writeNumber_0 0 rfl ?_
  refine vAloadN X dX4_writeNumber_1 0 rfl ?_
  refine vIloadN X dX4_writeNumber_2 1 rfl ?_
  refine vCallVd X [.ref (o 0)] (mm_isOtherT l D k o pl sb B Ln Rm Rd Pl Mk G Sz Kp th g (by omega)) (vGV q_838 q_840 q_14 q_29 q_841) ⟨by decide, by decide, (show _ = some 1 from by decide +kernel)⟩ ⟨Nat.le_of_ble_eq_true rfl, Nat.le_of_ble_eq_true rfl⟩ 0 4 rfl rfl rfl rfl (Nat.le_of_ble_eq_true rfl) dX4_writeNumber_3 ⟨Nat.zero_le _, Nat.zero_le _⟩ ?_
  refine vIfN_neT X 13 dX4_writeNumber_6 (by decide) (by omega) (by omega) ?_
  refine vAloadN X dX4_writeNumber_13 0 rfl ?_
  refine vIloadN X dX4_writeNumber_14 1 rfl ?_
  refine vIconst X dX4_writeNumber_15 (v := nI (4)) (by decide) ?_
  refine vCallVd X [.ref (o 0)] (mm_isFullT l D k o pl sb B Ln Rm Rd Pl Mk G Sz Kp th g 4 (by omega) (by omega) (by omega) (by omega)) (vGV q_842 q_844 q_15 q_29 q_845) ⟨by decide, by decide, (show _ = some 2 from by decide +kernel)⟩ ⟨Nat.le_of_ble_eq_true rfl, Nat.le_of_ble_eq_true rfl⟩ 0 4 rfl rfl rfl rfl (Nat.le_of_ble_eq_true rfl) dX4_writeNumber_16 ⟨Nat.zero_le _, Nat.zero_le _⟩ ?_
  refine vIfN_eqF X 26 dX4_writeNumber_19 (by decide) (by omega) (by omega) ?_
  refine vIconst X dX4_writeNumber_22 (v := nI (2)) (by decide) ?_
  refine vGoto X 27 dX4_writeNumber_23 (by decide) ?_
  refine vCallVd X [] (mm_isWrong1 l D k o pl sb B Ln Rm Rd Pl Mk G Sz Kp th 2 (by decide) (by decide)) (vGV q_786 q_788 q_8 q_29 q_789) ⟨by decide, by decide, (show _ = some 1 from by decide +kernel)⟩ ⟨Nat.le_of_ble_eq_true rfl, Nat.le_of_ble_eq_true rfl⟩ 0 4 rfl rfl rfl rfl (Nat.le_of_ble_eq_true rfl) dX4_writeNumber_27 ⟨Nat.zero_le _, Nat.zero_le _⟩ ?_
  refine vIfN_eqF X 35 dX4_writeNumber_30 (by decide) (by omega) (by omega) ?_
  refine vIconst X dX4_writeNumber_33 (v := nI (0)) (by decide) ?_
  exact vRetI X hret dX4_writeNumber_34 ⟨rfl, rfl⟩
set_option maxHeartbeats 4000000 in
set_option maxRecDepth 100000 in
theorem mm_writeNumber0 (l : Launch) (D : va_G) (k : Nat → ClassId) (o : Nat → Nat) (pl : va_W) (sb : Nat) (B : Nat → Nat → Int32) (Ln Rm : Nat → Nat) (Rd : Nat → Option Nat) (Pl Mk : Nat → Nat) (G : Nat → Nat → Int32) (Sz : Nat → Nat) (Kp : Nat → Int32) (th : Int32) (g : Nat) (v : Int32) (hg : g < 3) (h : Sz g + 4 ≤ 256) : vCt l yX4_writeNumber cX4_writeNumber 4 (some .int) 2 44 0 0 D vCl (vTy k) sb [.ref (o 0), .int (nI (g)), .int (v)] (mW k o pl B Ln Rm Rd Pl Mk G Sz Kp th) (vDet (some (.int (nI (Sz g + 4)))) (mW k o pl B Ln Rm Rd Pl Mk (cpG G g (Sz g) 4 (n4 v)) (va_up Sz g (Sz g + 4)) Kp (nI (0)))) := by
  refine vOf (by decide +kernel) (Nat.le_of_ble_eq_true rfl) (fun p9 e9 s9 m9 below9 meth9 c9 X hret _ => ?_)
  refine vAloadN X dX4_writeNumber_0 0 rfl ?_
  refine vAloadN X dX4_writeNumber_1 0 rfl ?_
  refine vIloadN X dX4_writeNumber_2 1 rfl ?_
  refine vCallVd X [.ref (o 0)] (mm_isOtherT l D k o pl sb B Ln Rm Rd Pl Mk G Sz Kp th g (by omega)) (vGV q_838 q_840 q_14 q_29 q_841) ⟨by decide, by decide, (show _ = some 1 from by decide +kernel)⟩ ⟨Nat.le_of_ble_eq_true rfl, Nat.le_of_ble_eq_true rfl⟩ 0 4 rfl rfl rfl rfl (Nat.le_of_ble_eq_true rfl) dX4_writeNumber_3 ⟨Nat.zero_le _, Nat.zero_le _⟩ ?_
  refine vIfN_neT X 13 dX4_writeNumber_6 (by decide) (by omega) (by omega) ?_
  refine vAloadN X dX4_writeNumber_13 0 rfl ?_
  refine vIloadN X dX4_writeNumber_14 1 rfl ?_
  refine vIconst X dX4_writeNumber_15 (v := nI (4)) (by decide) ?_
  refine vCallVd X [.ref (o 0)] (mm_isFullF l D k o pl sb B Ln Rm Rd Pl Mk G Sz Kp th g 4 (by omega) (by omega)) (vGV q_842 q_844 q_15 q_29 q_845) ⟨by decide, by decide, (show _ = some 2 from by decide +kernel)⟩ ⟨Nat.le_of_ble_eq_true rfl, Nat.le_of_ble_eq_true rfl⟩ 0 4 rfl rfl rfl rfl (Nat.le_of_ble_eq_true rfl) dX4_writeNumber_16 ⟨Nat.zero_le _, Nat.zero_le _⟩ ?_
  refine vIfN_eqT X 26 dX4_writeNumber_19 (by decide) (by omega) (by omega) ?_
  refine vIconst X dX4_writeNumber_26 (v := nI (0)) (by decide) ?_
  refine vCallVd X [] (mm_isWrong0 l D k o pl sb B Ln Rm Rd Pl Mk G Sz Kp th ) (vGV q_786 q_788 q_8 q_29 q_789) ⟨by decide, by decide, (show _ = some 1 from by decide +kernel)⟩ ⟨Nat.le_of_ble_eq_true rfl, Nat.le_of_ble_eq_true rfl⟩ 0 4 rfl rfl rfl rfl (Nat.le_of_ble_eq_true rfl) dX4_writeNumber_27 ⟨Nat.zero_le _, Nat.zero_le _⟩ ?_
  refine vIfN_eqT X 35 dX4_writeNumber_30 (by decide) (by omega) (by omega) ?_
  refine vBipush X dX4_writeNumber_35 (v := nI (24)) (by decide) ?_
  refine vIstoreN X [(3, .int (nI (24))), (0, .ref (o 0)), (1, .int (nI (g))), (2, .int (v))] dX4_writeNumber_37 (by decide) rfl ?_
  refine vIloadN X dX4_writeNumber_38 0 rfl ?_
  refine vIfN_ltF X 56 dX4_writeNumber_39 (by decide) (by omega) (by omega) ?_
  refine vAloadN X dX4_writeNumber_42 1 rfl ?_
  refine vIloadN X dX4_writeNumber_43 2 rfl ?_
  refine vIloadN X dX4_writeNumber_44 3 rfl ?_
  refine vIloadN X dX4_writeNumber_45 0 rfl ?_
  refine vIshr X dX4_writeNumber_46 (v := (v) >>> ((nI (24)) &&& 31)) rfl ?_
  refine vCallVd X [] (mm_adds l D k o pl sb B Ln Rm Rd Pl Mk G Sz Kp (nI (0)) g ((v) >>> ((nI (24)) &&& 31)) (by omega) (by first | omega | (rw [va_up_eq]; omega))) (vGV q_846 q_848 q_16 q_29 q_849) ⟨by decide, by decide, (show _ = some 2 from by decide +kernel)⟩ ⟨Nat.le_of_ble_eq_true rfl, Nat.le_of_ble_eq_true rfl⟩ 0 4 rfl rfl rfl rfl (Nat.le_of_ble_eq_true rfl) dX4_writeNumber_47 ⟨Nat.zero_le _, Nat.zero_le _⟩ ?_
  refine vIinc X [(3, .int (nI (16))), (0, .ref (o 0)), (1, .int (nI (g))), (2, .int (v))] dX4_writeNumber_50 0 rfl (by decide) (by decide) rfl ?_
  refine vGoto X 38 dX4_writeNumber_53 (by decide) ?_
  refine vWs (ws' := mW k o pl B Ln Rm Rd Pl Mk (cpG G g (Sz g) 1 (n4 v)) (va_up Sz g (Sz g + 1)) Kp (nI (0))) (by rw [show up2 G g (Sz g) (lb (v >>> (nI 24 &&& 31))) = cpG G g (Sz g) 1 (n4 v) from (congrArg (fun z => up2 z g (Sz g) _) (cpG_0 G g (Sz g) (n4 v))).trans (cpG_S G g (Sz g) 0 (n4 v) _ rfl)]) ?_
  refine vIloadN X dX4_writeNumber_38 0 rfl ?_
  refine vIfN_ltF X 56 dX4_writeNumber_39 (by decide) (by omega) (by omega) ?_
  refine vAloadN X dX4_writeNumber_42 1 rfl ?_
  refine vIloadN X dX4_writeNumber_43 2 rfl ?_
  refine vIloadN X dX4_writeNumber_44 3 rfl ?_
  refine vIloadN X dX4_writeNumber_45 0 rfl ?_
  refine vIshr X dX4_writeNumber_46 (v := (v) >>> ((nI (16)) &&& 31)) rfl ?_
  refine vCallVd X [] (mm_adds l D k o pl sb B Ln Rm Rd Pl Mk (cpG G g (Sz g) 1 (n4 v)) (va_up Sz g (Sz g + 1)) Kp (nI (0)) g ((v) >>> ((nI (16)) &&& 31)) (by omega) (by first | omega | (rw [va_up_eq]; omega))) (vGV q_846 q_848 q_16 q_29 q_849) ⟨by decide, by decide, (show _ = some 2 from by decide +kernel)⟩ ⟨Nat.le_of_ble_eq_true rfl, Nat.le_of_ble_eq_true rfl⟩ 0 4 rfl rfl rfl rfl (Nat.le_of_ble_eq_true rfl) dX4_writeNumber_47 ⟨Nat.zero_le _, Nat.zero_le _⟩ ?_
  refine vIinc X [(3, .int (nI (8))), (0, .ref (o 0)), (1, .int (nI (g))), (2, .int (v))] dX4_writeNumber_50 0 rfl (by decide) (by decide) rfl ?_
  refine vGoto X 38 dX4_writeNumber_53 (by decide) ?_
  refine vWs (ws' := mW k o pl B Ln Rm Rd Pl Mk (cpG G g (Sz g) 2 (n4 v)) (va_up Sz g (Sz g + 2)) Kp (nI (0))) (by rw [va_up_eq, va_up_up, show up2 (cpG G g (Sz g) 1 (n4 v)) g (Sz g + 1) (lb (v >>> (nI 16 &&& 31))) = cpG G g (Sz g) 2 (n4 v) from cpG_S G g (Sz g) 1 (n4 v) _ rfl]) ?_
  refine vIloadN X dX4_writeNumber_38 0 rfl ?_
  refine vIfN_ltF X 56 dX4_writeNumber_39 (by decide) (by omega) (by omega) ?_
  refine vAloadN X dX4_writeNumber_42 1 rfl ?_
  refine vIloadN X dX4_writeNumber_43 2 rfl ?_
  refine vIloadN X dX4_writeNumber_44 3 rfl ?_
  refine vIloadN X dX4_writeNumber_45 0 rfl ?_
  refine vIshr X dX4_writeNumber_46 (v := (v) >>> ((nI (8)) &&& 31)) rfl ?_
  refine vCallVd X [] (mm_adds l D k o pl sb B Ln Rm Rd Pl Mk (cpG G g (Sz g) 2 (n4 v)) (va_up Sz g (Sz g + 2)) Kp (nI (0)) g ((v) >>> ((nI (8)) &&& 31)) (by omega) (by first | omega | (rw [va_up_eq]; omega))) (vGV q_846 q_848 q_16 q_29 q_849) ⟨by decide, by decide, (show _ = some 2 from by decide +kernel)⟩ ⟨Nat.le_of_ble_eq_true rfl, Nat.le_of_ble_eq_true rfl⟩ 0 4 rfl rfl rfl rfl (Nat.le_of_ble_eq_true rfl) dX4_writeNumber_47 ⟨Nat.zero_le _, Nat.zero_le _⟩ ?_
  refine vIinc X [(3, .int (nI (0))), (0, .ref (o 0)), (1, .int (nI (g))), (2, .int (v))] dX4_writeNumber_50 0 rfl (by decide) (by decide) rfl ?_
  refine vGoto X 38 dX4_writeNumber_53 (by decide) ?_
  refine vWs (ws' := mW k o pl B Ln Rm Rd Pl Mk (cpG G g (Sz g) 3 (n4 v)) (va_up Sz g (Sz g + 3)) Kp (nI (0))) (by rw [va_up_eq, va_up_up, show up2 (cpG G g (Sz g) 2 (n4 v)) g (Sz g + 2) (lb (v >>> (nI 8 &&& 31))) = cpG G g (Sz g) 3 (n4 v) from cpG_S G g (Sz g) 2 (n4 v) _ rfl]) ?_
  refine vIloadN X dX4_writeNumber_38 0 rfl ?_
  refine vIfN_ltF X 56 dX4_writeNumber_39 (by decide) (by omega) (by omega) ?_
  refine vAloadN X dX4_writeNumber_42 1 rfl ?_
  refine vIloadN X dX4_writeNumber_43 2 rfl ?_
  refine vIloadN X dX4_writeNumber_44 3 rfl ?_
  refine vIloadN X dX4_writeNumber_45 0 rfl ?_
  refine vIshr X dX4_writeNumber_46 (v := (v) >>> ((nI (0)) &&& 31)) rfl ?_
  refine vCallVd X [] (mm_adds l D k o pl sb B Ln Rm Rd Pl Mk (cpG G g (Sz g) 3 (n4 v)) (va_up Sz g (Sz g + 3)) Kp (nI (0)) g ((v) >>> ((nI (0)) &&& 31)) (by omega) (by first | omega | (rw [va_up_eq]; omega))) (vGV q_846 q_848 q_16 q_29 q_849) ⟨by decide, by decide, (show _ = some 2 from by decide +kernel)⟩ ⟨Nat.le_of_ble_eq_true rfl, Nat.le_of_ble_eq_true rfl⟩ 0 4 rfl rfl rfl rfl (Nat.le_of_ble_eq_true rfl) dX4_writeNumber_47 ⟨Nat.zero_le _, Nat.zero_le _⟩ ?_
  refine vIinc X [(3, .int ((-8 : Int32))), (0, .ref (o 0)), (1, .int (nI (g))), (2, .int (v))] dX4_writeNumber_50 0 rfl (by decide) (by decide) rfl ?_
  refine vGoto X 38 dX4_writeNumber_53 (by decide) ?_
  refine vWs (ws' := mW k o pl B Ln Rm Rd Pl Mk (cpG G g (Sz g) 4 (n4 v)) (va_up Sz g (Sz g + 4)) Kp (nI (0))) (by rw [va_up_eq, va_up_up, show up2 (cpG G g (Sz g) 3 (n4 v)) g (Sz g + 3) (lb (v >>> (nI 0 &&& 31))) = cpG G g (Sz g) 4 (n4 v) from cpG_S G g (Sz g) 3 (n4 v) _ rfl]) ?_
  refine vIloadN X dX4_writeNumber_38 0 rfl ?_
  refine vIf_ltT X 56 dX4_writeNumber_39 (by decide) (by first | assumption | exact Int32.not_lt.mpr (by assumption) | exact Int32.not_le.mpr (by assumption) | exact Int32.not_lt.mp (by assumption) | exact Int32.not_le.mp (by assumption) | decide) ?_
  refine vAloadN X dX4_writeNumber_56 1 rfl ?_
  refine vGet X (C := RX4) (T := TX4) (N := 10) (ci := 4) (vcons inM) rfl 0 rfl 7 (by decide) (List.mem_cons_of_mem _ q_749) (fun _ h => h) rfl dX4_writeNumber_57 ?_
  refine vIloadN X dX4_writeNumber_60 2 rfl ?_
  refine vIaload X (v := nI ((va_up Sz g (Sz g + 4)) (g))) 8 1 rfl rfl rfl (by omega) (by decide) rfl dX4_writeNumber_61 ?_
  exact vRetI X hret dX4_writeNumber_62 ⟨by rw [va_up_eq], rfl⟩
set_option maxHeartbeats 4000000 in
set_option maxRecDepth 100000 in
theorem mm_size1 (l : Launch) (D : va_G) (k : Nat → ClassId) (o : Nat → Nat) (pl : va_W) (sb : Nat) (B : Nat → Nat → Int32) (Ln Rm : Nat → Nat) (Rd : Nat → Option Nat) (Pl Mk : Nat → Nat) (G : Nat → Nat → Int32) (Sz : Nat → Nat) (Kp : Nat → Int32) (th : Int32) (x : Int32) (hx : ¬ vOther x) : vCt l yX4_size cX4_size 2 (some .int) 1 21 0 0 D vCl (vTy k) sb [.ref (o 0), .int (x)] (mW k o pl B Ln Rm Rd Pl Mk G Sz Kp th) (vDet (some (.int (nI (0)))) (mW k o pl B Ln Rm Rd Pl Mk G Sz Kp (nI (1)))) := by
  refine vOf (by decide +kernel) (Nat.le_of_ble_eq_true rfl) (fun p9 e9 s9 m9 below9 meth9 c9 X hret _ => ?_)
  refine vAloadN X dX4_size_0 0 rfl ?_
  refine vAloadN X dX4_size_1 0 rfl ?_
  refine vIloadN X dX4_size_2 1 rfl ?_
  refine vCallVd X [.ref (o 0)] (mm_isOtherF l D k o pl sb B Ln Rm Rd Pl Mk G Sz Kp th x hx) (vGV q_838 q_840 q_14 q_29 q_841) ⟨by decide, by decide, (show _ = some 1 from by decide +kernel)⟩ ⟨Nat.le_of_ble_eq_true rfl, Nat.le_of_ble_eq_true rfl⟩ 0 4 rfl rfl rfl rfl (Nat.le_of_ble_eq_true rfl) dX4_size_3 ⟨Nat.zero_le _, Nat.zero_le _⟩ ?_
  refine vIfN_eqT X 13 dX4_size_6 (by decide) (by omega) (by omega) ?_
  refine vIconst X dX4_size_13 (v := nI (1)) (by decide) ?_
  refine vCallVd X [] (mm_isWrong1 l D k o pl sb B Ln Rm Rd Pl Mk G Sz Kp th 1 (by decide) (by decide)) (vGV q_786 q_788 q_8 q_29 q_789) ⟨by decide, by decide, (show _ = some 1 from by decide +kernel)⟩ ⟨Nat.le_of_ble_eq_true rfl, Nat.le_of_ble_eq_true rfl⟩ 0 4 rfl rfl rfl rfl (Nat.le_of_ble_eq_true rfl) dX4_size_14 ⟨Nat.zero_le _, Nat.zero_le _⟩ ?_
  refine vIfN_eqF X 24 dX4_size_17 (by decide) (by omega) (by omega) ?_
  refine vIconst X dX4_size_20 (v := nI (0)) (by decide) ?_
  refine vGoto X 30 dX4_size_21 (by decide) ?_
  exact vRetI X hret dX4_size_30 ⟨rfl, rfl⟩
set_option maxHeartbeats 4000000 in
set_option maxRecDepth 100000 in
theorem mm_size0 (l : Launch) (D : va_G) (k : Nat → ClassId) (o : Nat → Nat) (pl : va_W) (sb : Nat) (B : Nat → Nat → Int32) (Ln Rm : Nat → Nat) (Rd : Nat → Option Nat) (Pl Mk : Nat → Nat) (G : Nat → Nat → Int32) (Sz : Nat → Nat) (Kp : Nat → Int32) (th : Int32) (g : Nat) (hg : g < 3) : vCt l yX4_size cX4_size 2 (some .int) 1 21 0 0 D vCl (vTy k) sb [.ref (o 0), .int (nI (g))] (mW k o pl B Ln Rm Rd Pl Mk G Sz Kp th) (vDet (some (.int (nI (Sz g)))) (mW k o pl B Ln Rm Rd Pl Mk G Sz Kp (nI (0)))) := by
  refine vOf (by decide +kernel) (Nat.le_of_ble_eq_true rfl) (fun p9 e9 s9 m9 below9 meth9 c9 X hret _ => ?_)
  refine vAloadN X dX4_size_0 0 rfl ?_
  refine vAloadN X dX4_size_1 0 rfl ?_
  refine vIloadN X dX4_size_2 1 rfl ?_
  refine vCallVd X [.ref (o 0)] (mm_isOtherT l D k o pl sb B Ln Rm Rd Pl Mk G Sz Kp th g (by omega)) (vGV q_838 q_840 q_14 q_29 q_841) ⟨by decide, by decide, (show _ = some 1 from by decide +kernel)⟩ ⟨Nat.le_of_ble_eq_true rfl, Nat.le_of_ble_eq_true rfl⟩ 0 4 rfl rfl rfl rfl (Nat.le_of_ble_eq_true rfl) dX4_size_3 ⟨Nat.zero_le _, Nat.zero_le _⟩ ?_
  refine vIfN_eqF X 13 dX4_size_6 (by decide) (by omega) (by omega) ?_
  refine vIconst X dX4_size_9 (v := nI (0)) (by decide) ?_
  refine vGoto X 14 dX4_size_10 (by decide) ?_
  refine vCallVd X [] (mm_isWrong0 l D k o pl sb B Ln Rm Rd Pl Mk G Sz Kp th ) (vGV q_786 q_788 q_8 q_29 q_789) ⟨by decide, by decide, (show _ = some 1 from by decide +kernel)⟩ ⟨Nat.le_of_ble_eq_true rfl, Nat.le_of_ble_eq_true rfl⟩ 0 4 rfl rfl rfl rfl (Nat.le_of_ble_eq_true rfl) dX4_size_14 ⟨Nat.zero_le _, Nat.zero_le _⟩ ?_
  refine vIfN_eqT X 24 dX4_size_17 (by decide) (by omega) (by omega) ?_
  refine vAloadN X dX4_size_24 0 rfl ?_
  refine vGet X (C := RX4) (T := TX4) (N := 10) (ci := 4) (vcons inM) rfl 0 rfl 7 (by decide) (List.mem_cons_of_mem _ q_749) (fun _ h => h) rfl dX4_size_25 ?_
  refine vIloadN X dX4_size_28 1 rfl ?_
  refine vIaload X (v := nI (Sz (g))) 8 1 rfl rfl rfl (by omega) (by decide) rfl dX4_size_29 ?_
  exact vRetI X hret dX4_size_30 ⟨rfl, rfl⟩
set_option maxHeartbeats 4000000 in
set_option maxRecDepth 100000 in
theorem mm_empty1 (l : Launch) (D : va_G) (k : Nat → ClassId) (o : Nat → Nat) (pl : va_W) (sb : Nat) (B : Nat → Nat → Int32) (Ln Rm : Nat → Nat) (Rd : Nat → Option Nat) (Pl Mk : Nat → Nat) (G : Nat → Nat → Int32) (Sz : Nat → Nat) (Kp : Nat → Int32) (th : Int32) (x : Int32) (hx : ¬ vOther x) : vCt l yX4_empty cX4_empty 3 (some .int) 1 21 0 0 D vCl (vTy k) sb [.ref (o 0), .int (x)] (mW k o pl B Ln Rm Rd Pl Mk G Sz Kp th) (vDet (some (.int (nI (0)))) (mW k o pl B Ln Rm Rd Pl Mk G Sz Kp (nI (1)))) := by
  refine vOf (by decide +kernel) (Nat.le_of_ble_eq_true rfl) (fun p9 e9 s9 m9 below9 meth9 c9 X hret _ => ?_)
  refine vAloadN X dX4_empty_0 0 rfl ?_
  refine vAloadN X dX4_empty_1 0 rfl ?_
  refine vIloadN X dX4_empty_2 1 rfl ?_
  refine vCallVd X [.ref (o 0)] (mm_isOtherF l D k o pl sb B Ln Rm Rd Pl Mk G Sz Kp th x hx) (vGV q_838 q_840 q_14 q_29 q_841) ⟨by decide, by decide, (show _ = some 1 from by decide +kernel)⟩ ⟨Nat.le_of_ble_eq_true rfl, Nat.le_of_ble_eq_true rfl⟩ 0 4 rfl rfl rfl rfl (Nat.le_of_ble_eq_true rfl) dX4_empty_3 ⟨Nat.zero_le _, Nat.zero_le _⟩ ?_
  refine vIfN_eqT X 13 dX4_empty_6 (by decide) (by omega) (by omega) ?_
  refine vIconst X dX4_empty_13 (v := nI (1)) (by decide) ?_
  refine vCallVd X [] (mm_isWrong1 l D k o pl sb B Ln Rm Rd Pl Mk G Sz Kp th 1 (by decide) (by decide)) (vGV q_786 q_788 q_8 q_29 q_789) ⟨by decide, by decide, (show _ = some 1 from by decide +kernel)⟩ ⟨Nat.le_of_ble_eq_true rfl, Nat.le_of_ble_eq_true rfl⟩ 0 4 rfl rfl rfl rfl (Nat.le_of_ble_eq_true rfl) dX4_empty_14 ⟨Nat.zero_le _, Nat.zero_le _⟩ ?_
  refine vIfN_eqF X 22 dX4_empty_17 (by decide) (by omega) (by omega) ?_
  refine vIconst X dX4_empty_20 (v := nI (0)) (by decide) ?_
  exact vRetI X hret dX4_empty_21 ⟨rfl, rfl⟩
set_option maxHeartbeats 4000000 in
set_option maxRecDepth 100000 in
theorem mm_empty0 (l : Launch) (D : va_G) (k : Nat → ClassId) (o : Nat → Nat) (pl : va_W) (sb : Nat) (B : Nat → Nat → Int32) (Ln Rm : Nat → Nat) (Rd : Nat → Option Nat) (Pl Mk : Nat → Nat) (G : Nat → Nat → Int32) (Sz : Nat → Nat) (Kp : Nat → Int32) (th : Int32) (g : Nat) (hg : g < 3) : vCt l yX4_empty cX4_empty 3 (some .int) 1 21 0 0 D vCl (vTy k) sb [.ref (o 0), .int (nI (g))] (mW k o pl B Ln Rm Rd Pl Mk G Sz Kp th) (vDet (some (.int (nI (Sz g)))) (mW k o pl B Ln Rm Rd Pl Mk G (va_up Sz (g) (0)) Kp (nI (0)))) := by
  refine vOf (by decide +kernel) (Nat.le_of_ble_eq_true rfl) (fun p9 e9 s9 m9 below9 meth9 c9 X hret _ => ?_)
  refine vAloadN X dX4_empty_0 0 rfl ?_
  refine vAloadN X dX4_empty_1 0 rfl ?_
  refine vIloadN X dX4_empty_2 1 rfl ?_
  refine vCallVd X [.ref (o 0)] (mm_isOtherT l D k o pl sb B Ln Rm Rd Pl Mk G Sz Kp th g (by omega)) (vGV q_838 q_840 q_14 q_29 q_841) ⟨by decide, by decide, (show _ = some 1 from by decide +kernel)⟩ ⟨Nat.le_of_ble_eq_true rfl, Nat.le_of_ble_eq_true rfl⟩ 0 4 rfl rfl rfl rfl (Nat.le_of_ble_eq_true rfl) dX4_empty_3 ⟨Nat.zero_le _, Nat.zero_le _⟩ ?_
  refine vIfN_eqF X 13 dX4_empty_6 (by decide) (by omega) (by omega) ?_
  refine vIconst X dX4_empty_9 (v := nI (0)) (by decide) ?_
  refine vGoto X 14 dX4_empty_10 (by decide) ?_
  refine vCallVd X [] (mm_isWrong0 l D k o pl sb B Ln Rm Rd Pl Mk G Sz Kp th ) (vGV q_786 q_788 q_8 q_29 q_789) ⟨by decide, by decide, (show _ = some 1 from by decide +kernel)⟩ ⟨Nat.le_of_ble_eq_true rfl, Nat.le_of_ble_eq_true rfl⟩ 0 4 rfl rfl rfl rfl (Nat.le_of_ble_eq_true rfl) dX4_empty_14 ⟨Nat.zero_le _, Nat.zero_le _⟩ ?_
  refine vIfN_eqT X 22 dX4_empty_17 (by decide) (by omega) (by omega) ?_
  refine vAloadN X dX4_empty_22 0 rfl ?_
  refine vGet X (C := RX4) (T := TX4) (N := 10) (ci := 4) (vcons inM) rfl 0 rfl 7 (by decide) (List.mem_cons_of_mem _ q_749) (fun _ h => h) rfl dX4_empty_23 ?_
  refine vIloadN X dX4_empty_26 1 rfl ?_
  refine vIaload X (v := nI (Sz (g))) 8 1 rfl rfl rfl (by omega) (by decide) rfl dX4_empty_27 ?_
  refine vIstoreN X [(2, .int (nI (Sz (g)))), (0, .ref (o 0)), (1, .int (nI (g)))] dX4_empty_28 (by decide) rfl ?_
  refine vAloadN X dX4_empty_29 1 rfl ?_
  refine vGet X (C := RX4) (T := TX4) (N := 10) (ci := 4) (vcons inM) rfl 0 rfl 7 (by decide) (List.mem_cons_of_mem _ q_749) (fun _ h => h) rfl dX4_empty_30 ?_
  refine vIloadN X dX4_empty_33 2 rfl ?_
  refine vIconst X dX4_empty_34 (v := nI (0)) (by decide) ?_
  refine vIastore X (g := (fun q => nI ((va_up Sz (g) (0)) q))) 8 1 rfl rfl rfl (by omega) (by decide) (nI_up _ _ _) dX4_empty_35 ?_
  refine vWs (ws' := mW k o pl B Ln Rm Rd Pl Mk G (va_up Sz (g) (0)) Kp (nI (0))) rfl ?_
  refine vIloadN X dX4_empty_36 0 rfl ?_
  exact vRetI X hret dX4_empty_37 ⟨rfl, rfl⟩
def cpK (Kp : Nat → Int32) (i : Nat) (src : Nat → Int32) : Nat → Int32 := fun j => if j < i then src j else Kp j
theorem cpK_0 (Kp : Nat → Int32) (src : Nat → Int32) : Kp = cpK Kp 0 src := by funext j; simp [cpK]
theorem cpK_1 (Kp : Nat → Int32) (i : Nat) (src : Nat → Int32) : upd (cpK Kp i src) i (src i) = cpK Kp (i + 1) src := by
  funext j
  simp only [upd, cpK]
  by_cases h : j = i
  · subst h; simp
  · have : (j < i + 1) = (j < i) := by simp only [eq_iff_iff]; omega
    simp [h, this]
theorem cpB_K (B : Nat → Nat → Int32) (F n : Nat) (Kp src : Nat → Int32) : cpB B F n (cpK Kp n src) = cpB B F n src := cpB_congr (fun j h => by simp [cpK, h])
theorem cpG_congr {G : Nat → Nat → Int32} {g s n : Nat} {K1 K2 : Nat → Int32} (h : ∀ j, j < n → K1 j = K2 j) : cpG G g s n K1 = cpG G g s n K2 := by
  funext a b
  simp only [cpG]
  by_cases q : a = g ∧ s ≤ b ∧ b < s + n
  · rw [if_pos q, if_pos q, h _ (by omega)]
  · rw [if_neg q, if_neg q]
theorem cpG_K (G : Nat → Nat → Int32) (g s n : Nat) (Kp src : Nat → Int32) : cpG G g s n (cpK Kp n src) = cpG G g s n src := cpG_congr (fun j h => by simp [cpK, h])
set_option maxHeartbeats 4000000 in
set_option maxRecDepth 100000 in
theorem mL_take {p9 : Program} {l : Launch} {e9 : Env} {s9 : State} {m9 : MethodId} {args9 : Array Value} {below9 : List Frame} {meth9 : Method} {c9 : Code} {Q9 : State → Prop} (D : va_G) (k : Nat → ClassId) (o : Nat → Nat) (pl : va_W) (sb : Nat) (B : Nat → Nat → Int32) (Ln Rm : Nat → Nat) (Rd : Nat → Option Nat) (Pl Mk : Nat → Nat) (G : Nat → Nat → Int32) (Sz : Nat → Nat) (Kp : Nat → Int32) (th : Int32) (g r : Nat) (hg : g < 3) (hs : Sz g ≤ 256) (X : vCX p9 s9 m9 args9 meth9 c9 cX4_take 4 yX4_take.cls (Cond.code yX4_take cX4_take 4 (some .int) :: vGW) D vCl (vTy k) sb) (hex : vV p9 l e9 ({ frames := 2, cells := 0, slots := 0, locals := 47 }) s9 m9 args9 below9 meth9 c9 4 D vCl sb Q9 (mW k o pl B Ln Rm Rd Pl Mk G Sz (cpK Kp (Sz g) (G g)) th) 0 0 66 [(0, .ref (o 0)), (1, .int (nI (g))), (2, .int (nI (r)))] []) : ∀ (z i : Nat) (K1 : Nat → Int32), i + z = Sz g → K1 = cpK Kp i (G g) → vV p9 l e9 ({ frames := 2, cells := 0, slots := 0, locals := 47 }) s9 m9 args9 below9 meth9 c9 4 D vCl sb Q9 (mW k o pl B Ln Rm Rd Pl Mk G Sz K1 th) 0 0 32 [(3, .int (nI (i))), (0, .ref (o 0)), (1, .int (nI (g))), (2, .int (nI (r)))] [] := by
  intro z
  induction z with
  | zero =>
    intro i K1 hi hK1
    have hin : i = Sz g := by omega
    subst hin
    subst hK1
    refine vIloadN X dX4_take_32 0 rfl ?_
    refine vAloadN X dX4_take_33 1 rfl ?_
    refine vGet X (C := RX4) (T := TX4) (N := 10) (ci := 4) (vcons inM) rfl 0 rfl 7 (by decide) (List.mem_cons_of_mem _ q_749) (fun _ h => h) rfl dX4_take_34 ?_
    refine vIloadN X dX4_take_37 2 rfl ?_
    refine vIaload X (v := nI (Sz (g))) 8 1 rfl rfl rfl (by omega) (by decide) rfl dX4_take_38 ?_
    refine vIcmpN_geT X 66 dX4_take_39 (by decide) (by omega) (by omega) (by omega) ?_
    refine vSub [1, 2, 3] [(0, .ref (o 0)), (1, .int (nI (g))), (2, .int (nI (r)))] rfl ?_
    exact hex
  | succ z ih =>
    intro i K1 hi hK1
    refine vIloadN X dX4_take_32 0 rfl ?_
    refine vAloadN X dX4_take_33 1 rfl ?_
    refine vGet X (C := RX4) (T := TX4) (N := 10) (ci := 4) (vcons inM) rfl 0 rfl 7 (by decide) (List.mem_cons_of_mem _ q_749) (fun _ h => h) rfl dX4_take_34 ?_
    refine vIloadN X dX4_take_37 2 rfl ?_
    refine vIaload X (v := nI (Sz (g))) 8 1 rfl rfl rfl (by omega) (by decide) rfl dX4_take_38 ?_
    refine vIcmpN_geF X 66 dX4_take_39 (by decide) (by omega) (by omega) (by omega) ?_
    refine vAloadN X dX4_take_42 1 rfl ?_
    refine vGet X (C := RX4) (T := TX4) (N := 10) (ci := 4) (vcons inM) rfl 0 rfl 8 (by decide) (List.mem_cons_of_mem _ q_750) (fun _ h => h) rfl dX4_take_43 ?_
    refine vIloadN X dX4_take_46 0 rfl ?_
    refine vAloadN X dX4_take_47 1 rfl ?_
    refine vGet X (C := RX4) (T := TX4) (N := 10) (ci := 4) (vcons inM) rfl 0 rfl 6 (by decide) (List.mem_cons_of_mem _ q_748) (fun _ h => h) rfl dX4_take_48 ?_
    refine vSipush X dX4_take_51 (v := nI (256)) (by decide) ?_
    refine vIloadN X dX4_take_54 2 rfl ?_
    refine vImul X dX4_take_55 (v := nI ((256) * (g))) (pk_mul _ _) ?_
    refine vIloadN X dX4_take_56 0 rfl ?_
    refine vIadd X dX4_take_57 (v := nI (((256) * (g)) + (i))) (nI_add _ _) ?_
    refine vIaload X (v := G (g) (i)) 7 1 rfl rfl rfl (by omega) (by decide) (fl2_at _ (X := g) (Y := i) (by omega) (by omega)) dX4_take_58 ?_
    refine vIastore X (g := upd K1 (i) (G (g) (i))) 9 1 rfl rfl rfl (by omega) (by decide) rfl dX4_take_59 ?_
    refine vWs (ws' := mW k o pl B Ln Rm Rd Pl Mk G Sz (upd K1 (i) (G (g) (i))) th) rfl ?_
    refine vIinc X [(3, .int (nI (i + 1))), (0, .ref (o 0)), (1, .int (nI (g))), (2, .int (nI (r)))] dX4_take_60 0 rfl (nI_inc _) (by decide) rfl ?_
    refine vGoto X 32 dX4_take_63 (by decide) ?_
    refine vSub [0, 1, 2, 3] [(3, .int (nI (i + 1))), (0, .ref (o 0)), (1, .int (nI (g))), (2, .int (nI (r)))] rfl ?_
    exact ih (i + 1) _ (by omega) (by rw [hK1]; exact cpK_1 _ _ _)
set_option maxHeartbeats 4000000 in
set_option maxRecDepth 100000 in
theorem mm_take1a (l : Launch) (D : va_G) (k : Nat → ClassId) (o : Nat → Nat) (pl : va_W) (sb : Nat) (B : Nat → Nat → Int32) (Ln Rm : Nat → Nat) (Rd : Nat → Option Nat) (Pl Mk : Nat → Nat) (G : Nat → Nat → Int32) (Sz : Nat → Nat) (Kp : Nat → Int32) (th : Int32) (x y : Int32) (hx : ¬ vOther x) : vCt l yX4_take cX4_take 4 (some .int) 2 47 0 0 D vCl (vTy k) sb [.ref (o 0), .int (x), .int (y)] (mW k o pl B Ln Rm Rd Pl Mk G Sz Kp th) (vDet (some (.int (nI (0)))) (mW k o pl B Ln Rm Rd Pl Mk G Sz Kp (nI (1)))) := by
  refine vOf (by decide +kernel) (Nat.le_of_ble_eq_true rfl) (fun p9 e9 s9 m9 below9 meth9 c9 X hret _ => ?_)
  refine vAloadN X dX4_take_0 0 rfl ?_
  refine vAloadN X dX4_take_1 0 rfl ?_
  refine vIloadN X dX4_take_2 1 rfl ?_
  refine vCallVd X [.ref (o 0)] (mm_isOtherF l D k o pl sb B Ln Rm Rd Pl Mk G Sz Kp th x hx) (vGV q_838 q_840 q_14 q_29 q_841) ⟨by decide, by decide, (show _ = some 1 from by decide +kernel)⟩ ⟨Nat.le_of_ble_eq_true rfl, Nat.le_of_ble_eq_true rfl⟩ 0 4 rfl rfl rfl rfl (Nat.le_of_ble_eq_true rfl) dX4_take_3 ⟨Nat.zero_le _, Nat.zero_le _⟩ ?_
  refine vIfN_eqT X 21 dX4_take_6 (by decide) (by omega) (by omega) ?_
  refine vIconst X dX4_take_21 (v := nI (1)) (by decide) ?_
  refine vCallVd X [] (mm_isWrong1 l D k o pl sb B Ln Rm Rd Pl Mk G Sz Kp th 1 (by decide) (by decide)) (vGV q_786 q_788 q_8 q_29 q_789) ⟨by decide, by decide, (show _ = some 1 from by decide +kernel)⟩ ⟨Nat.le_of_ble_eq_true rfl, Nat.le_of_ble_eq_true rfl⟩ 0 4 rfl rfl rfl rfl (Nat.le_of_ble_eq_true rfl) dX4_take_22 ⟨Nat.zero_le _, Nat.zero_le _⟩ ?_
  refine vIfN_eqF X 30 dX4_take_25 (by decide) (by omega) (by omega) ?_
  refine vIconst X dX4_take_28 (v := nI (0)) (by decide) ?_
  exact vRetI X hret dX4_take_29 ⟨rfl, rfl⟩
set_option maxHeartbeats 4000000 in
set_option maxRecDepth 100000 in
theorem mm_take1b (l : Launch) (D : va_G) (k : Nat → ClassId) (o : Nat → Nat) (pl : va_W) (sb : Nat) (B : Nat → Nat → Int32) (Ln Rm : Nat → Nat) (Rd : Nat → Option Nat) (Pl Mk : Nat → Nat) (G : Nat → Nat → Int32) (Sz : Nat → Nat) (Kp : Nat → Int32) (th : Int32) (g : Nat) (y : Int32) (hg : g < 3) (hy : ¬ vRow y) : vCt l yX4_take cX4_take 4 (some .int) 2 47 0 0 D vCl (vTy k) sb [.ref (o 0), .int (nI (g)), .int (y)] (mW k o pl B Ln Rm Rd Pl Mk G Sz Kp th) (vDet (some (.int (nI (0)))) (mW k o pl B Ln Rm Rd Pl Mk G Sz Kp (nI (1)))) := by
  refine vOf (by decide +kernel) (Nat.le_of_ble_eq_true rfl) (fun p9 e9 s9 m9 below9 meth9 c9 X hret _ => ?_)
  refine vAloadN X dX4_take_0 0 rfl ?_
  refine vAloadN X dX4_take_1 0 rfl ?_
  refine vIloadN X dX4_take_2 1 rfl ?_
  refine vCallVd X [.ref (o 0)] (mm_isOtherT l D k o pl sb B Ln Rm Rd Pl Mk G Sz Kp th g (by omega)) (vGV q_838 q_840 q_14 q_29 q_841) ⟨by decide, by decide, (show _ = some 1 from by decide +kernel)⟩ ⟨Nat.le_of_ble_eq_true rfl, Nat.le_of_ble_eq_true rfl⟩ 0 4 rfl rfl rfl rfl (Nat.le_of_ble_eq_true rfl) dX4_take_3 ⟨Nat.zero_le _, Nat.zero_le _⟩ ?_
  refine vIfN_eqF X 21 dX4_take_6 (by decide) (by omega) (by omega) ?_
  refine vAloadN X dX4_take_9 0 rfl ?_
  refine vIloadN X dX4_take_10 2 rfl ?_
  refine vCallVd X [.ref (o 0)] (mm_isRowF l D k o pl sb B Ln Rm Rd Pl Mk G Sz Kp th y hy) (vGV q_782 q_784 q_7 q_29 q_785) ⟨by decide, by decide, (show _ = some 1 from by decide +kernel)⟩ ⟨Nat.le_of_ble_eq_true rfl, Nat.le_of_ble_eq_true rfl⟩ 0 4 rfl rfl rfl rfl (Nat.le_of_ble_eq_true rfl) dX4_take_11 ⟨Nat.zero_le _, Nat.zero_le _⟩ ?_
  refine vIfN_eqT X 21 dX4_take_14 (by decide) (by omega) (by omega) ?_
  refine vIconst X dX4_take_21 (v := nI (1)) (by decide) ?_
  refine vCallVd X [] (mm_isWrong1 l D k o pl sb B Ln Rm Rd Pl Mk G Sz Kp th 1 (by decide) (by decide)) (vGV q_786 q_788 q_8 q_29 q_789) ⟨by decide, by decide, (show _ = some 1 from by decide +kernel)⟩ ⟨Nat.le_of_ble_eq_true rfl, Nat.le_of_ble_eq_true rfl⟩ 0 4 rfl rfl rfl rfl (Nat.le_of_ble_eq_true rfl) dX4_take_22 ⟨Nat.zero_le _, Nat.zero_le _⟩ ?_
  refine vIfN_eqF X 30 dX4_take_25 (by decide) (by omega) (by omega) ?_
  refine vIconst X dX4_take_28 (v := nI (0)) (by decide) ?_
  exact vRetI X hret dX4_take_29 ⟨rfl, rfl⟩
set_option maxHeartbeats 4000000 in
set_option maxRecDepth 100000 in
theorem mm_take0 (l : Launch) (D : va_G) (k : Nat → ClassId) (o : Nat → Nat) (pl : va_W) (sb : Nat) (B : Nat → Nat → Int32) (Ln Rm : Nat → Nat) (Rd : Nat → Option Nat) (Pl Mk : Nat → Nat) (G : Nat → Nat → Int32) (Sz : Nat → Nat) (Kp : Nat → Int32) (th : Int32) (g r F : Nat) (hg : g < 3) (hr : r < 4) (hs : Sz g ≤ 256) (hF : mFree Rm Rd F) (hRm : ∀ r, r < 4 → Rm r < 8) (hRd : ∀ g, g < 3 → ∀ b, Rd g = some b → b < 8) : vCt l yX4_take cX4_take 4 (some .int) 2 47 0 0 D vCl (vTy k) sb [.ref (o 0), .int (nI (g)), .int (nI (r))] (mW k o pl B Ln Rm Rd Pl Mk G Sz Kp th) (vDet (some (.int (nI (Sz g)))) (mW k o pl (cpB B F (Sz (g)) (cpK Kp (Sz g) (G g))) (va_up Ln F (Sz (g))) (va_up Rm r F) Rd Pl Mk G Sz (cpK Kp (Sz g) (G g)) (nI (0)))) := by
  refine vOf (by decide +kernel) (Nat.le_of_ble_eq_true rfl) (fun p9 e9 s9 m9 below9 meth9 c9 X hret _ => ?_)
  refine vAloadN X dX4_take_0 0 rfl ?_
  refine vAloadN X dX4_take_1 0 rfl ?_
  refine vIloadN X dX4_take_2 1 rfl ?_
  refine vCallVd X [.ref (o 0)] (mm_isOtherT l D k o pl sb B Ln Rm Rd Pl Mk G Sz Kp th g (by omega)) (vGV q_838 q_840 q_14 q_29 q_841) ⟨by decide, by decide, (show _ = some 1 from by decide +kernel)⟩ ⟨Nat.le_of_ble_eq_true rfl, Nat.le_of_ble_eq_true rfl⟩ 0 4 rfl rfl rfl rfl (Nat.le_of_ble_eq_true rfl) dX4_take_3 ⟨Nat.zero_le _, Nat.zero_le _⟩ ?_
  refine vIfN_eqF X 21 dX4_take_6 (by decide) (by omega) (by omega) ?_
  refine vAloadN X dX4_take_9 0 rfl ?_
  refine vIloadN X dX4_take_10 2 rfl ?_
  refine vCallVd X [.ref (o 0)] (mm_isRowT l D k o pl sb B Ln Rm Rd Pl Mk G Sz Kp th r (by omega)) (vGV q_782 q_784 q_7 q_29 q_785) ⟨by decide, by decide, (show _ = some 1 from by decide +kernel)⟩ ⟨Nat.le_of_ble_eq_true rfl, Nat.le_of_ble_eq_true rfl⟩ 0 4 rfl rfl rfl rfl (Nat.le_of_ble_eq_true rfl) dX4_take_11 ⟨Nat.zero_le _, Nat.zero_le _⟩ ?_
  refine vIfN_eqF X 21 dX4_take_14 (by decide) (by omega) (by omega) ?_
  refine vIconst X dX4_take_17 (v := nI (0)) (by decide) ?_
  refine vGoto X 22 dX4_take_18 (by decide) ?_
  refine vCallVd X [] (mm_isWrong0 l D k o pl sb B Ln Rm Rd Pl Mk G Sz Kp th ) (vGV q_786 q_788 q_8 q_29 q_789) ⟨by decide, by decide, (show _ = some 1 from by decide +kernel)⟩ ⟨Nat.le_of_ble_eq_true rfl, Nat.le_of_ble_eq_true rfl⟩ 0 4 rfl rfl rfl rfl (Nat.le_of_ble_eq_true rfl) dX4_take_22 ⟨Nat.zero_le _, Nat.zero_le _⟩ ?_
  refine vIfN_eqT X 30 dX4_take_25 (by decide) (by omega) (by omega) ?_
  refine vIconst X dX4_take_30 (v := nI (0)) (by decide) ?_
  refine vIstoreN X [(3, .int (nI (0))), (0, .ref (o 0)), (1, .int (nI (g))), (2, .int (nI (r)))] dX4_take_31 (by decide) rfl ?_
  refine vSub [0, 1, 2, 3] [(3, .int (nI (0))), (0, .ref (o 0)), (1, .int (nI (g))), (2, .int (nI (r)))] rfl ?_
  refine mL_take D k o pl sb B Ln Rm Rd Pl Mk G Sz Kp (nI (0)) g r hg hs X ?_ (Sz g) 0 _ (by omega) (cpK_0 _ _)
  refine vAloadN X dX4_take_66 0 rfl ?_
  refine vIloadN X dX4_take_67 2 rfl ?_
  refine vAloadN X dX4_take_68 0 rfl ?_
  refine vGet X (C := RX4) (T := TX4) (N := 10) (ci := 4) (vcons inM) rfl 0 rfl 7 (by decide) (List.mem_cons_of_mem _ q_749) (fun _ h => h) rfl dX4_take_69 ?_
  refine vIloadN X dX4_take_72 1 rfl ?_
  refine vIaload X (v := nI (Sz (g))) 8 1 rfl rfl rfl (by omega) (by decide) rfl dX4_take_73 ?_
  refine vCallVd X [] (mm_becomes l D k o pl sb B Ln Rm Rd Pl Mk G Sz (cpK Kp (Sz g) (G g)) (nI (0)) r (Sz (g)) F (by omega) (by omega) hF hRm hRd) (vGV q_794 q_796 q_10 q_29 q_797) ⟨by decide, by decide, (show _ = some 2 from by decide +kernel)⟩ ⟨Nat.le_of_ble_eq_true rfl, Nat.le_of_ble_eq_true rfl⟩ 0 4 rfl rfl rfl rfl (Nat.le_of_ble_eq_true rfl) dX4_take_74 ⟨Nat.zero_le _, Nat.zero_le _⟩ ?_
  refine vAloadN X dX4_take_77 0 rfl ?_
  refine vGet X (C := RX4) (T := TX4) (N := 10) (ci := 4) (vcons inM) rfl 0 rfl 7 (by decide) (List.mem_cons_of_mem _ q_749) (fun _ h => h) rfl dX4_take_78 ?_
  refine vIloadN X dX4_take_81 1 rfl ?_
  refine vIaload X (v := nI (Sz (g))) 8 1 rfl rfl rfl (by omega) (by decide) rfl dX4_take_82 ?_
  exact vRetI X hret dX4_take_83 ⟨rfl, rfl⟩
set_option maxHeartbeats 4000000 in
set_option maxRecDepth 100000 in
theorem mm_leftOf (l : Launch) (D : va_G) (k : Nat → ClassId) (o : Nat → Nat) (pl : va_W) (sb : Nat) (B : Nat → Nat → Int32) (Ln Rm : Nat → Nat) (Rd : Nat → Option Nat) (Pl Mk : Nat → Nat) (G : Nat → Nat → Int32) (Sz : Nat → Nat) (Kp : Nat → Int32) (th : Int32) (g a P : Nat) (hg : g < 3) (hgRd : Rd g = some a) (ha : a < 8) (hla : Ln a ≤ 256) (hP : Pl g = P) (hpl : P ≤ Ln a) : vCt l yX4_leftOf cX4_leftOf 2 (some .int) 0 0 0 0 D vCl (vTy k) sb [.ref (o 0), .int (nI (g))] (mW k o pl B Ln Rm Rd Pl Mk G Sz Kp th) (vDet (some (.int (nI (Ln a - P)))) (mW k o pl B Ln Rm Rd Pl Mk G Sz Kp th)) := by
  refine vOf (by decide +kernel) (Nat.le_of_ble_eq_true rfl) (fun p9 e9 s9 m9 below9 meth9 c9 X hret _ => ?_)
  refine vAloadN X dX4_leftOf_0 0 rfl ?_
  refine vGet X (C := RX4) (T := TX4) (N := 10) (ci := 4) (vcons inM) rfl 0 rfl 1 (by decide) (List.mem_cons_of_mem _ q_743) (fun _ h => h) rfl dX4_leftOf_1 ?_
  refine vAloadN X dX4_leftOf_4 0 rfl ?_
  refine vGet X (C := RX4) (T := TX4) (N := 10) (ci := 4) (vcons inM) rfl 0 rfl 3 (by decide) (List.mem_cons_of_mem _ q_745) (fun _ h => h) rfl dX4_leftOf_5 ?_
  refine vIloadN X dX4_leftOf_8 1 rfl ?_
  refine vIaload X (v := nI (a)) 4 1 rfl rfl rfl (by omega) (by decide) (oI_some hgRd) dX4_leftOf_9 ?_
  refine vIaload X (v := nI (Ln (a))) 2 1 rfl rfl rfl (by omega) (by decide) rfl dX4_leftOf_10 ?_
  refine vAloadN X dX4_leftOf_11 0 rfl ?_
  refine vGet X (C := RX4) (T := TX4) (N := 10) (ci := 4) (vcons inM) rfl 0 rfl 4 (by decide) (List.mem_cons_of_mem _ q_746) (fun _ h => h) rfl dX4_leftOf_12 ?_
  refine vIloadN X dX4_leftOf_15 1 rfl ?_
  refine vIaload X (v := nI (P)) 5 1 rfl rfl rfl (by omega) (by decide) (congrArg nI hP) dX4_leftOf_16 ?_
  refine vIsub X dX4_leftOf_17 (v := nI ((Ln (a)) - (P))) (pk_sub (by omega)) ?_
  exact vRetI X hret dX4_leftOf_18 ⟨rfl, rfl⟩
set_option maxHeartbeats 4000000 in
set_option maxRecDepth 100000 in
theorem mm_next (l : Launch) (D : va_G) (k : Nat → ClassId) (o : Nat → Nat) (pl : va_W) (sb : Nat) (B : Nat → Nat → Int32) (Ln Rm : Nat → Nat) (Rd : Nat → Option Nat) (Pl Mk : Nat → Nat) (G : Nat → Nat → Int32) (Sz : Nat → Nat) (Kp : Nat → Int32) (th : Int32) (g a P : Nat) (hg : g < 3) (hgRd : Rd g = some a) (ha : a < 8) (hP : Pl g = P) (hpl : P < 256) : vCt l yX4_next cX4_next 2 (some .int) 0 0 0 0 D vCl (vTy k) sb [.ref (o 0), .int (nI (g))] (mW k o pl B Ln Rm Rd Pl Mk G Sz Kp th) (vDet (some (.int (B a P))) (mW k o pl B Ln Rm Rd Pl Mk G Sz Kp th)) := by
  refine vOf (by decide +kernel) (Nat.le_of_ble_eq_true rfl) (fun p9 e9 s9 m9 below9 meth9 c9 X hret _ => ?_)
  refine vAloadN X dX4_next_0 0 rfl ?_
  refine vGet X (C := RX4) (T := TX4) (N := 10) (ci := 4) (vcons inM) rfl 0 rfl 0 (by decide) (List.mem_cons_of_mem _ q_742) (fun _ h => h) rfl dX4_next_1 ?_
  refine vSipush X dX4_next_4 (v := nI (256)) (by decide) ?_
  refine vAloadN X dX4_next_7 0 rfl ?_
  refine vGet X (C := RX4) (T := TX4) (N := 10) (ci := 4) (vcons inM) rfl 0 rfl 3 (by decide) (List.mem_cons_of_mem _ q_745) (fun _ h => h) rfl dX4_next_8 ?_
  refine vIloadN X dX4_next_11 1 rfl ?_
  refine vIaload X (v := nI (a)) 4 1 rfl rfl rfl (by omega) (by decide) (oI_some hgRd) dX4_next_12 ?_
  refine vImul X dX4_next_13 (v := nI ((256) * (a))) (pk_mul _ _) ?_
  refine vAloadN X dX4_next_14 0 rfl ?_
  refine vGet X (C := RX4) (T := TX4) (N := 10) (ci := 4) (vcons inM) rfl 0 rfl 4 (by decide) (List.mem_cons_of_mem _ q_746) (fun _ h => h) rfl dX4_next_15 ?_
  refine vIloadN X dX4_next_18 1 rfl ?_
  refine vIaload X (v := nI (P)) 5 1 rfl rfl rfl (by omega) (by decide) (congrArg nI hP) dX4_next_19 ?_
  refine vIadd X dX4_next_20 (v := nI (((256) * (a)) + (P))) (nI_add _ _) ?_
  refine vIaload X (v := B (a) (P)) 1 1 rfl rfl rfl (by omega) (by decide) (fl2_at _ (X := a) (Y := P) (by omega) (by omega)) dX4_next_21 ?_
  exact vRetI X hret dX4_next_22 ⟨rfl, rfl⟩
set_option maxHeartbeats 4000000 in
set_option maxRecDepth 100000 in
theorem mm_open1a (l : Launch) (D : va_G) (k : Nat → ClassId) (o : Nat → Nat) (pl : va_W) (sb : Nat) (B : Nat → Nat → Int32) (Ln Rm : Nat → Nat) (Rd : Nat → Option Nat) (Pl Mk : Nat → Nat) (G : Nat → Nat → Int32) (Sz : Nat → Nat) (Kp : Nat → Int32) (th : Int32) (x y : Int32) (hx : ¬ vOther x) : vCt l yX4_open cX4_open 3 (some .int) 1 21 0 0 D vCl (vTy k) sb [.ref (o 0), .int (x), .int (y)] (mW k o pl B Ln Rm Rd Pl Mk G Sz Kp th) (vDet (some (.int (nI (0)))) (mW k o pl B Ln Rm Rd Pl Mk G Sz Kp (nI (1)))) := by
  refine vOf (by decide +kernel) (Nat.le_of_ble_eq_true rfl) (fun p9 e9 s9 m9 below9 meth9 c9 X hret _ => ?_)
  refine vAloadN X dX4_open_0 0 rfl ?_
  refine vAloadN X dX4_open_1 0 rfl ?_
  refine vIloadN X dX4_open_2 1 rfl ?_
  refine vCallVd X [.ref (o 0)] (mm_isOtherF l D k o pl sb B Ln Rm Rd Pl Mk G Sz Kp th x hx) (vGV q_838 q_840 q_14 q_29 q_841) ⟨by decide, by decide, (show _ = some 1 from by decide +kernel)⟩ ⟨Nat.le_of_ble_eq_true rfl, Nat.le_of_ble_eq_true rfl⟩ 0 4 rfl rfl rfl rfl (Nat.le_of_ble_eq_true rfl) dX4_open_3 ⟨Nat.zero_le _, Nat.zero_le _⟩ ?_
  refine vIfN_eqT X 21 dX4_open_6 (by decide) (by omega) (by omega) ?_
  refine vIconst X dX4_open_21 (v := nI (1)) (by decide) ?_
  refine vCallVd X [] (mm_isWrong1 l D k o pl sb B Ln Rm Rd Pl Mk G Sz Kp th 1 (by decide) (by decide)) (vGV q_786 q_788 q_8 q_29 q_789) ⟨by decide, by decide, (show _ = some 1 from by decide +kernel)⟩ ⟨Nat.le_of_ble_eq_true rfl, Nat.le_of_ble_eq_true rfl⟩ 0 4 rfl rfl rfl rfl (Nat.le_of_ble_eq_true rfl) dX4_open_22 ⟨Nat.zero_le _, Nat.zero_le _⟩ ?_
  refine vIfN_eqF X 30 dX4_open_25 (by decide) (by omega) (by omega) ?_
  refine vIconst X dX4_open_28 (v := nI (0)) (by decide) ?_
  exact vRetI X hret dX4_open_29 ⟨rfl, rfl⟩
set_option maxHeartbeats 4000000 in
set_option maxRecDepth 100000 in
theorem mm_open1b (l : Launch) (D : va_G) (k : Nat → ClassId) (o : Nat → Nat) (pl : va_W) (sb : Nat) (B : Nat → Nat → Int32) (Ln Rm : Nat → Nat) (Rd : Nat → Option Nat) (Pl Mk : Nat → Nat) (G : Nat → Nat → Int32) (Sz : Nat → Nat) (Kp : Nat → Int32) (th : Int32) (g : Nat) (y : Int32) (hg : g < 3) (hy : ¬ vRow y) : vCt l yX4_open cX4_open 3 (some .int) 1 21 0 0 D vCl (vTy k) sb [.ref (o 0), .int (nI (g)), .int (y)] (mW k o pl B Ln Rm Rd Pl Mk G Sz Kp th) (vDet (some (.int (nI (0)))) (mW k o pl B Ln Rm Rd Pl Mk G Sz Kp (nI (1)))) := by
  refine vOf (by decide +kernel) (Nat.le_of_ble_eq_true rfl) (fun p9 e9 s9 m9 below9 meth9 c9 X hret _ => ?_)
  refine vAloadN X dX4_open_0 0 rfl ?_
  refine vAloadN X dX4_open_1 0 rfl ?_
  refine vIloadN X dX4_open_2 1 rfl ?_
  refine vCallVd X [.ref (o 0)] (mm_isOtherT l D k o pl sb B Ln Rm Rd Pl Mk G Sz Kp th g (by omega)) (vGV q_838 q_840 q_14 q_29 q_841) ⟨by decide, by decide, (show _ = some 1 from by decide +kernel)⟩ ⟨Nat.le_of_ble_eq_true rfl, Nat.le_of_ble_eq_true rfl⟩ 0 4 rfl rfl rfl rfl (Nat.le_of_ble_eq_true rfl) dX4_open_3 ⟨Nat.zero_le _, Nat.zero_le _⟩ ?_
  refine vIfN_eqF X 21 dX4_open_6 (by decide) (by omega) (by omega) ?_
  refine vAloadN X dX4_open_9 0 rfl ?_
  refine vIloadN X dX4_open_10 2 rfl ?_
  refine vCallVd X [.ref (o 0)] (mm_isRowF l D k o pl sb B Ln Rm Rd Pl Mk G Sz Kp th y hy) (vGV q_782 q_784 q_7 q_29 q_785) ⟨by decide, by decide, (show _ = some 1 from by decide +kernel)⟩ ⟨Nat.le_of_ble_eq_true rfl, Nat.le_of_ble_eq_true rfl⟩ 0 4 rfl rfl rfl rfl (Nat.le_of_ble_eq_true rfl) dX4_open_11 ⟨Nat.zero_le _, Nat.zero_le _⟩ ?_
  refine vIfN_eqT X 21 dX4_open_14 (by decide) (by omega) (by omega) ?_
  refine vIconst X dX4_open_21 (v := nI (1)) (by decide) ?_
  refine vCallVd X [] (mm_isWrong1 l D k o pl sb B Ln Rm Rd Pl Mk G Sz Kp th 1 (by decide) (by decide)) (vGV q_786 q_788 q_8 q_29 q_789) ⟨by decide, by decide, (show _ = some 1 from by decide +kernel)⟩ ⟨Nat.le_of_ble_eq_true rfl, Nat.le_of_ble_eq_true rfl⟩ 0 4 rfl rfl rfl rfl (Nat.le_of_ble_eq_true rfl) dX4_open_22 ⟨Nat.zero_le _, Nat.zero_le _⟩ ?_
  refine vIfN_eqF X 30 dX4_open_25 (by decide) (by omega) (by omega) ?_
  refine vIconst X dX4_open_28 (v := nI (0)) (by decide) ?_
  exact vRetI X hret dX4_open_29 ⟨rfl, rfl⟩
set_option maxHeartbeats 4000000 in
set_option maxRecDepth 100000 in
theorem mm_open0 (l : Launch) (D : va_G) (k : Nat → ClassId) (o : Nat → Nat) (pl : va_W) (sb : Nat) (B : Nat → Nat → Int32) (Ln Rm : Nat → Nat) (Rd : Nat → Option Nat) (Pl Mk : Nat → Nat) (G : Nat → Nat → Int32) (Sz : Nat → Nat) (Kp : Nat → Int32) (th : Int32) (g r : Nat) (hg : g < 3) (hr : r < 4) (hRm : ∀ r, r < 4 → Rm r < 8) (hLn : ∀ a, Ln a ≤ 256) : vCt l yX4_open cX4_open 3 (some .int) 1 21 0 0 D vCl (vTy k) sb [.ref (o 0), .int (nI (g)), .int (nI (r))] (mW k o pl B Ln Rm Rd Pl Mk G Sz Kp th) (vDet (some (.int (nI (Ln (Rm r))))) (mW k o pl B Ln Rm (va_up Rd (g) (some (Rm (r)))) (va_up Pl (g) (0)) (va_up Mk (g) (0)) G Sz Kp (nI (0)))) := by
  have hRr := hRm r hr
  have hLr := hLn (Rm r)
  refine vOf (by decide +kernel) (Nat.le_of_ble_eq_true rfl) (fun p9 e9 s9 m9 below9 meth9 c9 X hret _ => ?_)
  refine vAloadN X dX4_open_0 0 rfl ?_
  refine vAloadN X dX4_open_1 0 rfl ?_
  refine vIloadN X dX4_open_2 1 rfl ?_
  refine vCallVd X [.ref (o 0)] (mm_isOtherT l D k o pl sb B Ln Rm Rd Pl Mk G Sz Kp th g (by omega)) (vGV q_838 q_840 q_14 q_29 q_841) ⟨by decide, by decide, (show _ = some 1 from by decide +kernel)⟩ ⟨Nat.le_of_ble_eq_true rfl, Nat.le_of_ble_eq_true rfl⟩ 0 4 rfl rfl rfl rfl (Nat.le_of_ble_eq_true rfl) dX4_open_3 ⟨Nat.zero_le _, Nat.zero_le _⟩ ?_
  refine vIfN_eqF X 21 dX4_open_6 (by decide) (by omega) (by omega) ?_
  refine vAloadN X dX4_open_9 0 rfl ?_
  refine vIloadN X dX4_open_10 2 rfl ?_
  refine vCallVd X [.ref (o 0)] (mm_isRowT l D k o pl sb B Ln Rm Rd Pl Mk G Sz Kp th r (by omega)) (vGV q_782 q_784 q_7 q_29 q_785) ⟨by decide, by decide, (show _ = some 1 from by decide +kernel)⟩ ⟨Nat.le_of_ble_eq_true rfl, Nat.le_of_ble_eq_true rfl⟩ 0 4 rfl rfl rfl rfl (Nat.le_of_ble_eq_true rfl) dX4_open_11 ⟨Nat.zero_le _, Nat.zero_le _⟩ ?_
  refine vIfN_eqF X 21 dX4_open_14 (by decide) (by omega) (by omega) ?_
  refine vIconst X dX4_open_17 (v := nI (0)) (by decide) ?_
  refine vGoto X 22 dX4_open_18 (by decide) ?_
  refine vCallVd X [] (mm_isWrong0 l D k o pl sb B Ln Rm Rd Pl Mk G Sz Kp th ) (vGV q_786 q_788 q_8 q_29 q_789) ⟨by decide, by decide, (show _ = some 1 from by decide +kernel)⟩ ⟨Nat.le_of_ble_eq_true rfl, Nat.le_of_ble_eq_true rfl⟩ 0 4 rfl rfl rfl rfl (Nat.le_of_ble_eq_true rfl) dX4_open_22 ⟨Nat.zero_le _, Nat.zero_le _⟩ ?_
  refine vIfN_eqT X 30 dX4_open_25 (by decide) (by omega) (by omega) ?_
  refine vAloadN X dX4_open_30 0 rfl ?_
  refine vGet X (C := RX4) (T := TX4) (N := 10) (ci := 4) (vcons inM) rfl 0 rfl 3 (by decide) (List.mem_cons_of_mem _ q_745) (fun _ h => h) rfl dX4_open_31 ?_
  refine vIloadN X dX4_open_34 1 rfl ?_
  refine vAloadN X dX4_open_35 0 rfl ?_
  refine vGet X (C := RX4) (T := TX4) (N := 10) (ci := 4) (vcons inM) rfl 0 rfl 2 (by decide) (List.mem_cons_of_mem _ q_744) (fun _ h => h) rfl dX4_open_36 ?_
  refine vIloadN X dX4_open_39 2 rfl ?_
  refine vIaload X (v := nI (Rm (r))) 3 1 rfl rfl rfl (by omega) (by decide) rfl dX4_open_40 ?_
  refine vIastore X (g := (fun q => oI ((va_up Rd (g) (some (Rm (r)))) q))) 4 1 rfl rfl rfl (by omega) (by decide) (oI_up _ _ _) dX4_open_41 ?_
  refine vWs (ws' := mW k o pl B Ln Rm (va_up Rd (g) (some (Rm (r)))) Pl Mk G Sz Kp (nI (0))) rfl ?_
  refine vAloadN X dX4_open_42 0 rfl ?_
  refine vGet X (C := RX4) (T := TX4) (N := 10) (ci := 4) (vcons inM) rfl 0 rfl 4 (by decide) (List.mem_cons_of_mem _ q_746) (fun _ h => h) rfl dX4_open_43 ?_
  refine vIloadN X dX4_open_46 1 rfl ?_
  refine vIconst X dX4_open_47 (v := nI (0)) (by decide) ?_
  refine vIastore X (g := (fun q => nI ((va_up Pl (g) (0)) q))) 5 1 rfl rfl rfl (by omega) (by decide) (nI_up _ _ _) dX4_open_48 ?_
  refine vWs (ws' := mW k o pl B Ln Rm (va_up Rd (g) (some (Rm (r)))) (va_up Pl (g) (0)) Mk G Sz Kp (nI (0))) rfl ?_
  refine vAloadN X dX4_open_49 0 rfl ?_
  refine vGet X (C := RX4) (T := TX4) (N := 10) (ci := 4) (vcons inM) rfl 0 rfl 5 (by decide) (List.mem_cons_of_mem _ q_747) (fun _ h => h) rfl dX4_open_50 ?_
  refine vIloadN X dX4_open_53 1 rfl ?_
  refine vIconst X dX4_open_54 (v := nI (0)) (by decide) ?_
  refine vIastore X (g := (fun q => nI ((va_up Mk (g) (0)) q))) 6 1 rfl rfl rfl (by omega) (by decide) (nI_up _ _ _) dX4_open_55 ?_
  refine vWs (ws' := mW k o pl B Ln Rm (va_up Rd (g) (some (Rm (r)))) (va_up Pl (g) (0)) (va_up Mk (g) (0)) G Sz Kp (nI (0))) rfl ?_
  refine vAloadN X dX4_open_56 0 rfl ?_
  refine vIloadN X dX4_open_57 1 rfl ?_
  refine vCallVd X [] (mm_leftOf l D k o pl sb B Ln Rm (va_up Rd (g) (some (Rm (r)))) (va_up Pl (g) (0)) (va_up Mk (g) (0)) G Sz Kp (nI (0)) g (Rm r) 0 (by omega) (va_up_eq _ _ _) (by omega) (by omega) (va_up_eq _ _ _) (by omega)) (vGV q_879 q_881 q_17 q_29 q_882) ⟨by decide, by decide, (show _ = some 1 from by decide +kernel)⟩ ⟨Nat.le_of_ble_eq_true rfl, Nat.le_of_ble_eq_true rfl⟩ 0 4 rfl rfl rfl rfl (Nat.le_of_ble_eq_true rfl) dX4_open_58 ⟨Nat.zero_le _, Nat.zero_le _⟩ ?_
  exact vRetI X hret dX4_open_61 ⟨rfl, rfl⟩
set_option maxHeartbeats 4000000 in
set_option maxRecDepth 100000 in
theorem mm_isOpen1 (l : Launch) (D : va_G) (k : Nat → ClassId) (o : Nat → Nat) (pl : va_W) (sb : Nat) (B : Nat → Nat → Int32) (Ln Rm : Nat → Nat) (Rd : Nat → Option Nat) (Pl Mk : Nat → Nat) (G : Nat → Nat → Int32) (Sz : Nat → Nat) (Kp : Nat → Int32) (th : Int32) (x : Int32) (hx : ¬ vOther x) : vCt l yX4_isOpen cX4_isOpen 2 (some .boolean) 1 21 0 0 D vCl (vTy k) sb [.ref (o 0), .int (x)] (mW k o pl B Ln Rm Rd Pl Mk G Sz Kp th) (vDet (some (.int (nI (0)))) (mW k o pl B Ln Rm Rd Pl Mk G Sz Kp (nI (1)))) := by
  refine vOf (by decide +kernel) (Nat.le_of_ble_eq_true rfl) (fun p9 e9 s9 m9 below9 meth9 c9 X hret _ => ?_)
  refine vAloadN X dX4_isOpen_0 0 rfl ?_
  refine vAloadN X dX4_isOpen_1 0 rfl ?_
  refine vIloadN X dX4_isOpen_2 1 rfl ?_
  refine vCallVd X [.ref (o 0)] (mm_isOtherF l D k o pl sb B Ln Rm Rd Pl Mk G Sz Kp th x hx) (vGV q_838 q_840 q_14 q_29 q_841) ⟨by decide, by decide, (show _ = some 1 from by decide +kernel)⟩ ⟨Nat.le_of_ble_eq_true rfl, Nat.le_of_ble_eq_true rfl⟩ 0 4 rfl rfl rfl rfl (Nat.le_of_ble_eq_true rfl) dX4_isOpen_3 ⟨Nat.zero_le _, Nat.zero_le _⟩ ?_
  refine vIfN_eqT X 13 dX4_isOpen_6 (by decide) (by omega) (by omega) ?_
  refine vIconst X dX4_isOpen_13 (v := nI (1)) (by decide) ?_
  refine vCallVd X [] (mm_isWrong1 l D k o pl sb B Ln Rm Rd Pl Mk G Sz Kp th 1 (by decide) (by decide)) (vGV q_786 q_788 q_8 q_29 q_789) ⟨by decide, by decide, (show _ = some 1 from by decide +kernel)⟩ ⟨Nat.le_of_ble_eq_true rfl, Nat.le_of_ble_eq_true rfl⟩ 0 4 rfl rfl rfl rfl (Nat.le_of_ble_eq_true rfl) dX4_isOpen_14 ⟨Nat.zero_le _, Nat.zero_le _⟩ ?_
  refine vIfN_neT X 33 dX4_isOpen_17 (by decide) (by omega) (by omega) ?_
  refine vIconst X dX4_isOpen_33 (v := nI (0)) (by decide) ?_
  exact vRetZ X hret (by first | rfl | exact nar_bI _) dX4_isOpen_34 ⟨rfl, rfl⟩
set_option maxHeartbeats 4000000 in
set_option maxRecDepth 100000 in
theorem mm_isOpen0a (l : Launch) (D : va_G) (k : Nat → ClassId) (o : Nat → Nat) (pl : va_W) (sb : Nat) (B : Nat → Nat → Int32) (Ln Rm : Nat → Nat) (Rd : Nat → Option Nat) (Pl Mk : Nat → Nat) (G : Nat → Nat → Int32) (Sz : Nat → Nat) (Kp : Nat → Int32) (th : Int32) (g : Nat) (hg : g < 3) (hgRd : Rd g = none) : vCt l yX4_isOpen cX4_isOpen 2 (some .boolean) 1 21 0 0 D vCl (vTy k) sb [.ref (o 0), .int (nI (g))] (mW k o pl B Ln Rm Rd Pl Mk G Sz Kp th) (vDet (some (.int (nI (0)))) (mW k o pl B Ln Rm Rd Pl Mk G Sz Kp (nI (0)))) := by
  refine vOf (by decide +kernel) (Nat.le_of_ble_eq_true rfl) (fun p9 e9 s9 m9 below9 meth9 c9 X hret _ => ?_)
  refine vAloadN X dX4_isOpen_0 0 rfl ?_
  refine vAloadN X dX4_isOpen_1 0 rfl ?_
  refine vIloadN X dX4_isOpen_2 1 rfl ?_
  refine vCallVd X [.ref (o 0)] (mm_isOtherT l D k o pl sb B Ln Rm Rd Pl Mk G Sz Kp th g (by omega)) (vGV q_838 q_840 q_14 q_29 q_841) ⟨by decide, by decide, (show _ = some 1 from by decide +kernel)⟩ ⟨Nat.le_of_ble_eq_true rfl, Nat.le_of_ble_eq_true rfl⟩ 0 4 rfl rfl rfl rfl (Nat.le_of_ble_eq_true rfl) dX4_isOpen_3 ⟨Nat.zero_le _, Nat.zero_le _⟩ ?_
  refine vIfN_eqF X 13 dX4_isOpen_6 (by decide) (by omega) (by omega) ?_
  refine vIconst X dX4_isOpen_9 (v := nI (0)) (by decide) ?_
  refine vGoto X 14 dX4_isOpen_10 (by decide) ?_
  refine vCallVd X [] (mm_isWrong0 l D k o pl sb B Ln Rm Rd Pl Mk G Sz Kp th ) (vGV q_786 q_788 q_8 q_29 q_789) ⟨by decide, by decide, (show _ = some 1 from by decide +kernel)⟩ ⟨Nat.le_of_ble_eq_true rfl, Nat.le_of_ble_eq_true rfl⟩ 0 4 rfl rfl rfl rfl (Nat.le_of_ble_eq_true rfl) dX4_isOpen_14 ⟨Nat.zero_le _, Nat.zero_le _⟩ ?_
  refine vIfN_neF X 33 dX4_isOpen_17 (by decide) (by omega) (by omega) ?_
  refine vAloadN X dX4_isOpen_20 0 rfl ?_
  refine vGet X (C := RX4) (T := TX4) (N := 10) (ci := 4) (vcons inM) rfl 0 rfl 3 (by decide) (List.mem_cons_of_mem _ q_745) (fun _ h => h) rfl dX4_isOpen_21 ?_
  refine vIloadN X dX4_isOpen_24 1 rfl ?_
  refine vIaload X (v := (-1 : Int32)) 4 1 rfl rfl rfl (by omega) (by decide) (oI_none hgRd) dX4_isOpen_25 ?_
  refine vIf_ltT X 33 dX4_isOpen_26 (by decide) (by first | assumption | exact Int32.not_lt.mpr (by assumption) | exact Int32.not_le.mpr (by assumption) | exact Int32.not_lt.mp (by assumption) | exact Int32.not_le.mp (by assumption) | decide) ?_
  refine vIconst X dX4_isOpen_33 (v := nI (0)) (by decide) ?_
  exact vRetZ X hret (by first | rfl | exact nar_bI _) dX4_isOpen_34 ⟨rfl, rfl⟩
set_option maxHeartbeats 4000000 in
set_option maxRecDepth 100000 in
theorem mm_isOpen0b (l : Launch) (D : va_G) (k : Nat → ClassId) (o : Nat → Nat) (pl : va_W) (sb : Nat) (B : Nat → Nat → Int32) (Ln Rm : Nat → Nat) (Rd : Nat → Option Nat) (Pl Mk : Nat → Nat) (G : Nat → Nat → Int32) (Sz : Nat → Nat) (Kp : Nat → Int32) (th : Int32) (g a : Nat) (hg : g < 3) (hgRd : Rd g = some a) (ha : a < 8) : vCt l yX4_isOpen cX4_isOpen 2 (some .boolean) 1 21 0 0 D vCl (vTy k) sb [.ref (o 0), .int (nI (g))] (mW k o pl B Ln Rm Rd Pl Mk G Sz Kp th) (vDet (some (.int (nI (1)))) (mW k o pl B Ln Rm Rd Pl Mk G Sz Kp (nI (0)))) := by
  refine vOf (by decide +kernel) (Nat.le_of_ble_eq_true rfl) (fun p9 e9 s9 m9 below9 meth9 c9 X hret _ => ?_)
  refine vAloadN X dX4_isOpen_0 0 rfl ?_
  refine vAloadN X dX4_isOpen_1 0 rfl ?_
  refine vIloadN X dX4_isOpen_2 1 rfl ?_
  refine vCallVd X [.ref (o 0)] (mm_isOtherT l D k o pl sb B Ln Rm Rd Pl Mk G Sz Kp th g (by omega)) (vGV q_838 q_840 q_14 q_29 q_841) ⟨by decide, by decide, (show _ = some 1 from by decide +kernel)⟩ ⟨Nat.le_of_ble_eq_true rfl, Nat.le_of_ble_eq_true rfl⟩ 0 4 rfl rfl rfl rfl (Nat.le_of_ble_eq_true rfl) dX4_isOpen_3 ⟨Nat.zero_le _, Nat.zero_le _⟩ ?_
  refine vIfN_eqF X 13 dX4_isOpen_6 (by decide) (by omega) (by omega) ?_
  refine vIconst X dX4_isOpen_9 (v := nI (0)) (by decide) ?_
  refine vGoto X 14 dX4_isOpen_10 (by decide) ?_
  refine vCallVd X [] (mm_isWrong0 l D k o pl sb B Ln Rm Rd Pl Mk G Sz Kp th ) (vGV q_786 q_788 q_8 q_29 q_789) ⟨by decide, by decide, (show _ = some 1 from by decide +kernel)⟩ ⟨Nat.le_of_ble_eq_true rfl, Nat.le_of_ble_eq_true rfl⟩ 0 4 rfl rfl rfl rfl (Nat.le_of_ble_eq_true rfl) dX4_isOpen_14 ⟨Nat.zero_le _, Nat.zero_le _⟩ ?_
  refine vIfN_neF X 33 dX4_isOpen_17 (by decide) (by omega) (by omega) ?_
  refine vAloadN X dX4_isOpen_20 0 rfl ?_
  refine vGet X (C := RX4) (T := TX4) (N := 10) (ci := 4) (vcons inM) rfl 0 rfl 3 (by decide) (List.mem_cons_of_mem _ q_745) (fun _ h => h) rfl dX4_isOpen_21 ?_
  refine vIloadN X dX4_isOpen_24 1 rfl ?_
  refine vIaload X (v := nI (a)) 4 1 rfl rfl rfl (by omega) (by decide) (oI_some hgRd) dX4_isOpen_25 ?_
  refine vIfN_ltF X 33 dX4_isOpen_26 (by decide) (by omega) (by omega) ?_
  refine vIconst X dX4_isOpen_29 (v := nI (1)) (by decide) ?_
  refine vGoto X 34 dX4_isOpen_30 (by decide) ?_
  exact vRetZ X hret (by first | rfl | exact nar_bI _) dX4_isOpen_34 ⟨rfl, rfl⟩
set_option maxHeartbeats 4000000 in
set_option maxRecDepth 100000 in
theorem mm_isShut1 (l : Launch) (D : va_G) (k : Nat → ClassId) (o : Nat → Nat) (pl : va_W) (sb : Nat) (B : Nat → Nat → Int32) (Ln Rm : Nat → Nat) (Rd : Nat → Option Nat) (Pl Mk : Nat → Nat) (G : Nat → Nat → Int32) (Sz : Nat → Nat) (Kp : Nat → Int32) (th : Int32) (x : Int32) (hx : ¬ vOther x) : vCt l yX4_isShut cX4_isShut 2 (some .boolean) 1 21 0 0 D vCl (vTy k) sb [.ref (o 0), .int (x)] (mW k o pl B Ln Rm Rd Pl Mk G Sz Kp th) (vDet (some (.int (nI (1)))) (mW k o pl B Ln Rm Rd Pl Mk G Sz Kp (nI (1)))) := by
  refine vOf (by decide +kernel) (Nat.le_of_ble_eq_true rfl) (fun p9 e9 s9 m9 below9 meth9 c9 X hret _ => ?_)
  refine vAloadN X dX4_isShut_0 0 rfl ?_
  refine vAloadN X dX4_isShut_1 0 rfl ?_
  refine vIloadN X dX4_isShut_2 1 rfl ?_
  refine vCallVd X [.ref (o 0)] (mm_isOtherF l D k o pl sb B Ln Rm Rd Pl Mk G Sz Kp th x hx) (vGV q_838 q_840 q_14 q_29 q_841) ⟨by decide, by decide, (show _ = some 1 from by decide +kernel)⟩ ⟨Nat.le_of_ble_eq_true rfl, Nat.le_of_ble_eq_true rfl⟩ 0 4 rfl rfl rfl rfl (Nat.le_of_ble_eq_true rfl) dX4_isShut_3 ⟨Nat.zero_le _, Nat.zero_le _⟩ ?_
  refine vIfN_neF X 13 dX4_isShut_6 (by decide) (by omega) (by omega) ?_
  refine vIconst X dX4_isShut_9 (v := nI (1)) (by decide) ?_
  refine vGoto X 27 dX4_isShut_10 (by decide) ?_
  refine vCallVd X [] (mm_isWrong1 l D k o pl sb B Ln Rm Rd Pl Mk G Sz Kp th 1 (by decide) (by decide)) (vGV q_786 q_788 q_8 q_29 q_789) ⟨by decide, by decide, (show _ = some 1 from by decide +kernel)⟩ ⟨Nat.le_of_ble_eq_true rfl, Nat.le_of_ble_eq_true rfl⟩ 0 4 rfl rfl rfl rfl (Nat.le_of_ble_eq_true rfl) dX4_isShut_27 ⟨Nat.zero_le _, Nat.zero_le _⟩ ?_
  exact vRetZ X hret (by first | rfl | exact nar_bI _) dX4_isShut_30 ⟨rfl, rfl⟩
set_option maxHeartbeats 4000000 in
set_option maxRecDepth 100000 in
theorem mm_isShut2 (l : Launch) (D : va_G) (k : Nat → ClassId) (o : Nat → Nat) (pl : va_W) (sb : Nat) (B : Nat → Nat → Int32) (Ln Rm : Nat → Nat) (Rd : Nat → Option Nat) (Pl Mk : Nat → Nat) (G : Nat → Nat → Int32) (Sz : Nat → Nat) (Kp : Nat → Int32) (th : Int32) (g : Nat) (hg : g < 3) (hgRd : Rd g = none) : vCt l yX4_isShut cX4_isShut 2 (some .boolean) 1 21 0 0 D vCl (vTy k) sb [.ref (o 0), .int (nI (g))] (mW k o pl B Ln Rm Rd Pl Mk G Sz Kp th) (vDet (some (.int (nI (1)))) (mW k o pl B Ln Rm Rd Pl Mk G Sz Kp (nI (2)))) := by
  refine vOf (by decide +kernel) (Nat.le_of_ble_eq_true rfl) (fun p9 e9 s9 m9 below9 meth9 c9 X hret _ => ?_)
  refine vAloadN X dX4_isShut_0 0 rfl ?_
  refine vAloadN X dX4_isShut_1 0 rfl ?_
  refine vIloadN X dX4_isShut_2 1 rfl ?_
  refine vCallVd X [.ref (o 0)] (mm_isOtherT l D k o pl sb B Ln Rm Rd Pl Mk G Sz Kp th g (by omega)) (vGV q_838 q_840 q_14 q_29 q_841) ⟨by decide, by decide, (show _ = some 1 from by decide +kernel)⟩ ⟨Nat.le_of_ble_eq_true rfl, Nat.le_of_ble_eq_true rfl⟩ 0 4 rfl rfl rfl rfl (Nat.le_of_ble_eq_true rfl) dX4_isShut_3 ⟨Nat.zero_le _, Nat.zero_le _⟩ ?_
  refine vIfN_neT X 13 dX4_isShut_6 (by decide) (by omega) (by omega) ?_
  refine vAloadN X dX4_isShut_13 0 rfl ?_
  refine vGet X (C := RX4) (T := TX4) (N := 10) (ci := 4) (vcons inM) rfl 0 rfl 3 (by decide) (List.mem_cons_of_mem _ q_745) (fun _ h => h) rfl dX4_isShut_14 ?_
  refine vIloadN X dX4_isShut_17 1 rfl ?_
  refine vIaload X (v := (-1 : Int32)) 4 1 rfl rfl rfl (by omega) (by decide) (oI_none hgRd) dX4_isShut_18 ?_
  refine vIf_geF X 26 dX4_isShut_19 (by decide) (by first | assumption | exact Int32.not_lt.mpr (by assumption) | exact Int32.not_le.mpr (by assumption) | exact Int32.not_lt.mp (by assumption) | exact Int32.not_le.mp (by assumption) | decide) ?_
  refine vIconst X dX4_isShut_22 (v := nI (2)) (by decide) ?_
  refine vGoto X 27 dX4_isShut_23 (by decide) ?_
  refine vCallVd X [] (mm_isWrong1 l D k o pl sb B Ln Rm Rd Pl Mk G Sz Kp th 2 (by decide) (by decide)) (vGV q_786 q_788 q_8 q_29 q_789) ⟨by decide, by decide, (show _ = some 1 from by decide +kernel)⟩ ⟨Nat.le_of_ble_eq_true rfl, Nat.le_of_ble_eq_true rfl⟩ 0 4 rfl rfl rfl rfl (Nat.le_of_ble_eq_true rfl) dX4_isShut_27 ⟨Nat.zero_le _, Nat.zero_le _⟩ ?_
  exact vRetZ X hret (by first | rfl | exact nar_bI _) dX4_isShut_30 ⟨rfl, rfl⟩
set_option maxHeartbeats 4000000 in
set_option maxRecDepth 100000 in
theorem mm_isShut0 (l : Launch) (D : va_G) (k : Nat → ClassId) (o : Nat → Nat) (pl : va_W) (sb : Nat) (B : Nat → Nat → Int32) (Ln Rm : Nat → Nat) (Rd : Nat → Option Nat) (Pl Mk : Nat → Nat) (G : Nat → Nat → Int32) (Sz : Nat → Nat) (Kp : Nat → Int32) (th : Int32) (g a : Nat) (hg : g < 3) (hgRd : Rd g = some a) (ha : a < 8) : vCt l yX4_isShut cX4_isShut 2 (some .boolean) 1 21 0 0 D vCl (vTy k) sb [.ref (o 0), .int (nI (g))] (mW k o pl B Ln Rm Rd Pl Mk G Sz Kp th) (vDet (some (.int (nI (0)))) (mW k o pl B Ln Rm Rd Pl Mk G Sz Kp (nI (0)))) := by
  refine vOf (by decide +kernel) (Nat.le_of_ble_eq_true rfl) (fun p9 e9 s9 m9 below9 meth9 c9 X hret _ => ?_)
  refine vAloadN X dX4_isShut_0 0 rfl ?_
  refine vAloadN X dX4_isShut_1 0 rfl ?_
  refine vIloadN X dX4_isShut_2 1 rfl ?_
  refine vCallVd X [.ref (o 0)] (mm_isOtherT l D k o pl sb B Ln Rm Rd Pl Mk G Sz Kp th g (by omega)) (vGV q_838 q_840 q_14 q_29 q_841) ⟨by decide, by decide, (show _ = some 1 from by decide +kernel)⟩ ⟨Nat.le_of_ble_eq_true rfl, Nat.le_of_ble_eq_true rfl⟩ 0 4 rfl rfl rfl rfl (Nat.le_of_ble_eq_true rfl) dX4_isShut_3 ⟨Nat.zero_le _, Nat.zero_le _⟩ ?_
  refine vIfN_neT X 13 dX4_isShut_6 (by decide) (by omega) (by omega) ?_
  refine vAloadN X dX4_isShut_13 0 rfl ?_
  refine vGet X (C := RX4) (T := TX4) (N := 10) (ci := 4) (vcons inM) rfl 0 rfl 3 (by decide) (List.mem_cons_of_mem _ q_745) (fun _ h => h) rfl dX4_isShut_14 ?_
  refine vIloadN X dX4_isShut_17 1 rfl ?_
  refine vIaload X (v := nI (a)) 4 1 rfl rfl rfl (by omega) (by decide) (oI_some hgRd) dX4_isShut_18 ?_
  refine vIfN_geT X 26 dX4_isShut_19 (by decide) (by omega) (by omega) ?_
  refine vIconst X dX4_isShut_26 (v := nI (0)) (by decide) ?_
  refine vCallVd X [] (mm_isWrong0 l D k o pl sb B Ln Rm Rd Pl Mk G Sz Kp th ) (vGV q_786 q_788 q_8 q_29 q_789) ⟨by decide, by decide, (show _ = some 1 from by decide +kernel)⟩ ⟨Nat.le_of_ble_eq_true rfl, Nat.le_of_ble_eq_true rfl⟩ 0 4 rfl rfl rfl rfl (Nat.le_of_ble_eq_true rfl) dX4_isShut_27 ⟨Nat.zero_le _, Nat.zero_le _⟩ ?_
  exact vRetZ X hret (by first | rfl | exact nar_bI _) dX4_isShut_30 ⟨rfl, rfl⟩
set_option maxHeartbeats 4000000 in
set_option maxRecDepth 100000 in
theorem mm_read1 (l : Launch) (D : va_G) (k : Nat → ClassId) (o : Nat → Nat) (pl : va_W) (sb : Nat) (B : Nat → Nat → Int32) (Ln Rm : Nat → Nat) (Rd : Nat → Option Nat) (Pl Mk : Nat → Nat) (G : Nat → Nat → Int32) (Sz : Nat → Nat) (Kp : Nat → Int32) (th : Int32) (x : Int32)  (hx : ¬ vOther x) : vCt l yX4_read cX4_read 2 (some .int) 2 42 0 0 D vCl (vTy k) sb [.ref (o 0), .int (x)] (mW k o pl B Ln Rm Rd Pl Mk G Sz Kp th) (vDet (some (.int (nI (0)))) (mW k o pl B Ln Rm Rd Pl Mk G Sz Kp (nI 1))) := by
  refine vOf (by decide +kernel) (Nat.le_of_ble_eq_true rfl) (fun p9 e9 s9 m9 below9 meth9 c9 X hret _ => ?_)
  refine vAloadN X dX4_read_0 0 rfl ?_
  refine vIloadN X dX4_read_1 1 rfl ?_
  refine vCallVd X [] (mm_isShut1 l D k o pl sb B Ln Rm Rd Pl Mk G Sz Kp th x hx) (vGV q_891 q_893 q_18 q_29 q_894) ⟨by decide, by decide, (show _ = some 1 from by decide +kernel)⟩ ⟨Nat.le_of_ble_eq_true rfl, Nat.le_of_ble_eq_true rfl⟩ 0 4 rfl rfl rfl rfl (Nat.le_of_ble_eq_true rfl) dX4_read_2 ⟨Nat.zero_le _, Nat.zero_le _⟩ ?_
  refine vIfN_eqF X 10 dX4_read_5 (by decide) (by omega) (by omega) ?_
  refine vIconst X dX4_read_8 (v := nI (0)) (by decide) ?_
  exact vRetI X hret dX4_read_9 ⟨rfl, rfl⟩
set_option maxHeartbeats 4000000 in
set_option maxRecDepth 100000 in
theorem mm_read2 (l : Launch) (D : va_G) (k : Nat → ClassId) (o : Nat → Nat) (pl : va_W) (sb : Nat) (B : Nat → Nat → Int32) (Ln Rm : Nat → Nat) (Rd : Nat → Option Nat) (Pl Mk : Nat → Nat) (G : Nat → Nat → Int32) (Sz : Nat → Nat) (Kp : Nat → Int32) (th : Int32) (g : Nat)  (hg : g < 3) (hgRd : Rd g = none) : vCt l yX4_read cX4_read 2 (some .int) 2 42 0 0 D vCl (vTy k) sb [.ref (o 0), .int (nI (g))] (mW k o pl B Ln Rm Rd Pl Mk G Sz Kp th) (vDet (some (.int (nI (0)))) (mW k o pl B Ln Rm Rd Pl Mk G Sz Kp (nI 2))) := by
  refine vOf (by decide +kernel) (Nat.le_of_ble_eq_true rfl) (fun p9 e9 s9 m9 below9 meth9 c9 X hret _ => ?_)
  refine vAloadN X dX4_read_0 0 rfl ?_
  refine vIloadN X dX4_read_1 1 rfl ?_
  refine vCallVd X [] (mm_isShut2 l D k o pl sb B Ln Rm Rd Pl Mk G Sz Kp th g hg hgRd) (vGV q_891 q_893 q_18 q_29 q_894) ⟨by decide, by decide, (show _ = some 1 from by decide +kernel)⟩ ⟨Nat.le_of_ble_eq_true rfl, Nat.le_of_ble_eq_true rfl⟩ 0 4 rfl rfl rfl rfl (Nat.le_of_ble_eq_true rfl) dX4_read_2 ⟨Nat.zero_le _, Nat.zero_le _⟩ ?_
  refine vIfN_eqF X 10 dX4_read_5 (by decide) (by omega) (by omega) ?_
  refine vIconst X dX4_read_8 (v := nI (0)) (by decide) ?_
  exact vRetI X hret dX4_read_9 ⟨rfl, rfl⟩
set_option maxHeartbeats 4000000 in
set_option maxRecDepth 100000 in
theorem mm_find1 (l : Launch) (D : va_G) (k : Nat → ClassId) (o : Nat → Nat) (pl : va_W) (sb : Nat) (B : Nat → Nat → Int32) (Ln Rm : Nat → Nat) (Rd : Nat → Option Nat) (Pl Mk : Nat → Nat) (G : Nat → Nat → Int32) (Sz : Nat → Nat) (Kp : Nat → Int32) (th : Int32) (x : Int32) (v : Int32) (hx : ¬ vOther x) : vCt l yX4_find cX4_find 5 (some .int) 2 42 0 0 D vCl (vTy k) sb [.ref (o 0), .int (x), .int (v)] (mW k o pl B Ln Rm Rd Pl Mk G Sz Kp th) (vDet (some (.int (nI (0)))) (mW k o pl B Ln Rm Rd Pl Mk G Sz Kp (nI 1))) := by
  refine vOf (by decide +kernel) (Nat.le_of_ble_eq_true rfl) (fun p9 e9 s9 m9 below9 meth9 c9 X hret _ => ?_)
  refine vAloadN X dX4_find_0 0 rfl ?_
  refine vIloadN X dX4_find_1 1 rfl ?_
  refine vCallVd X [] (mm_isShut1 l D k o pl sb B Ln Rm Rd Pl Mk G Sz Kp th x hx) (vGV q_891 q_893 q_18 q_29 q_894) ⟨by decide, by decide, (show _ = some 1 from by decide +kernel)⟩ ⟨Nat.le_of_ble_eq_true rfl, Nat.le_of_ble_eq_true rfl⟩ 0 4 rfl rfl rfl rfl (Nat.le_of_ble_eq_true rfl) dX4_find_2 ⟨Nat.zero_le _, Nat.zero_le _⟩ ?_
  refine vIfN_eqF X 10 dX4_find_5 (by decide) (by omega) (by omega) ?_
  refine vIconst X dX4_find_8 (v := nI (0)) (by decide) ?_
  exact vRetI X hret dX4_find_9 ⟨rfl, rfl⟩
set_option maxHeartbeats 4000000 in
set_option maxRecDepth 100000 in
theorem mm_find2 (l : Launch) (D : va_G) (k : Nat → ClassId) (o : Nat → Nat) (pl : va_W) (sb : Nat) (B : Nat → Nat → Int32) (Ln Rm : Nat → Nat) (Rd : Nat → Option Nat) (Pl Mk : Nat → Nat) (G : Nat → Nat → Int32) (Sz : Nat → Nat) (Kp : Nat → Int32) (th : Int32) (g : Nat) (v : Int32) (hg : g < 3) (hgRd : Rd g = none) : vCt l yX4_find cX4_find 5 (some .int) 2 42 0 0 D vCl (vTy k) sb [.ref (o 0), .int (nI (g)), .int (v)] (mW k o pl B Ln Rm Rd Pl Mk G Sz Kp th) (vDet (some (.int (nI (0)))) (mW k o pl B Ln Rm Rd Pl Mk G Sz Kp (nI 2))) := by
  refine vOf (by decide +kernel) (Nat.le_of_ble_eq_true rfl) (fun p9 e9 s9 m9 below9 meth9 c9 X hret _ => ?_)
  refine vAloadN X dX4_find_0 0 rfl ?_
  refine vIloadN X dX4_find_1 1 rfl ?_
  refine vCallVd X [] (mm_isShut2 l D k o pl sb B Ln Rm Rd Pl Mk G Sz Kp th g hg hgRd) (vGV q_891 q_893 q_18 q_29 q_894) ⟨by decide, by decide, (show _ = some 1 from by decide +kernel)⟩ ⟨Nat.le_of_ble_eq_true rfl, Nat.le_of_ble_eq_true rfl⟩ 0 4 rfl rfl rfl rfl (Nat.le_of_ble_eq_true rfl) dX4_find_2 ⟨Nat.zero_le _, Nat.zero_le _⟩ ?_
  refine vIfN_eqF X 10 dX4_find_5 (by decide) (by omega) (by omega) ?_
  refine vIconst X dX4_find_8 (v := nI (0)) (by decide) ?_
  exact vRetI X hret dX4_find_9 ⟨rfl, rfl⟩
set_option maxHeartbeats 4000000 in
set_option maxRecDepth 100000 in
theorem mm_left1 (l : Launch) (D : va_G) (k : Nat → ClassId) (o : Nat → Nat) (pl : va_W) (sb : Nat) (B : Nat → Nat → Int32) (Ln Rm : Nat → Nat) (Rd : Nat → Option Nat) (Pl Mk : Nat → Nat) (G : Nat → Nat → Int32) (Sz : Nat → Nat) (Kp : Nat → Int32) (th : Int32) (x : Int32)  (hx : ¬ vOther x) : vCt l yX4_left cX4_left 2 (some .int) 2 42 0 0 D vCl (vTy k) sb [.ref (o 0), .int (x)] (mW k o pl B Ln Rm Rd Pl Mk G Sz Kp th) (vDet (some (.int (nI (0)))) (mW k o pl B Ln Rm Rd Pl Mk G Sz Kp (nI 1))) := by
  refine vOf (by decide +kernel) (Nat.le_of_ble_eq_true rfl) (fun p9 e9 s9 m9 below9 meth9 c9 X hret _ => ?_)
  refine vAloadN X dX4_left_0 0 rfl ?_
  refine vIloadN X dX4_left_1 1 rfl ?_
  refine vCallVd X [] (mm_isShut1 l D k o pl sb B Ln Rm Rd Pl Mk G Sz Kp th x hx) (vGV q_891 q_893 q_18 q_29 q_894) ⟨by decide, by decide, (show _ = some 1 from by decide +kernel)⟩ ⟨Nat.le_of_ble_eq_true rfl, Nat.le_of_ble_eq_true rfl⟩ 0 4 rfl rfl rfl rfl (Nat.le_of_ble_eq_true rfl) dX4_left_2 ⟨Nat.zero_le _, Nat.zero_le _⟩ ?_
  refine vIfN_eqF X 12 dX4_left_5 (by decide) (by omega) (by omega) ?_
  refine vIconst X dX4_left_8 (v := nI (0)) (by decide) ?_
  refine vGoto X 17 dX4_left_9 (by decide) ?_
  exact vRetI X hret dX4_left_17 ⟨rfl, rfl⟩
set_option maxHeartbeats 4000000 in
set_option maxRecDepth 100000 in
theorem mm_left2 (l : Launch) (D : va_G) (k : Nat → ClassId) (o : Nat → Nat) (pl : va_W) (sb : Nat) (B : Nat → Nat → Int32) (Ln Rm : Nat → Nat) (Rd : Nat → Option Nat) (Pl Mk : Nat → Nat) (G : Nat → Nat → Int32) (Sz : Nat → Nat) (Kp : Nat → Int32) (th : Int32) (g : Nat)  (hg : g < 3) (hgRd : Rd g = none) : vCt l yX4_left cX4_left 2 (some .int) 2 42 0 0 D vCl (vTy k) sb [.ref (o 0), .int (nI (g))] (mW k o pl B Ln Rm Rd Pl Mk G Sz Kp th) (vDet (some (.int (nI (0)))) (mW k o pl B Ln Rm Rd Pl Mk G Sz Kp (nI 2))) := by
  refine vOf (by decide +kernel) (Nat.le_of_ble_eq_true rfl) (fun p9 e9 s9 m9 below9 meth9 c9 X hret _ => ?_)
  refine vAloadN X dX4_left_0 0 rfl ?_
  refine vIloadN X dX4_left_1 1 rfl ?_
  refine vCallVd X [] (mm_isShut2 l D k o pl sb B Ln Rm Rd Pl Mk G Sz Kp th g hg hgRd) (vGV q_891 q_893 q_18 q_29 q_894) ⟨by decide, by decide, (show _ = some 1 from by decide +kernel)⟩ ⟨Nat.le_of_ble_eq_true rfl, Nat.le_of_ble_eq_true rfl⟩ 0 4 rfl rfl rfl rfl (Nat.le_of_ble_eq_true rfl) dX4_left_2 ⟨Nat.zero_le _, Nat.zero_le _⟩ ?_
  refine vIfN_eqF X 12 dX4_left_5 (by decide) (by omega) (by omega) ?_
  refine vIconst X dX4_left_8 (v := nI (0)) (by decide) ?_
  refine vGoto X 17 dX4_left_9 (by decide) ?_
  exact vRetI X hret dX4_left_17 ⟨rfl, rfl⟩
set_option maxHeartbeats 4000000 in
set_option maxRecDepth 100000 in
theorem mm_mark1 (l : Launch) (D : va_G) (k : Nat → ClassId) (o : Nat → Nat) (pl : va_W) (sb : Nat) (B : Nat → Nat → Int32) (Ln Rm : Nat → Nat) (Rd : Nat → Option Nat) (Pl Mk : Nat → Nat) (G : Nat → Nat → Int32) (Sz : Nat → Nat) (Kp : Nat → Int32) (th : Int32) (x : Int32) (v : Int32) (hx : ¬ vOther x) : vCt l yX4_mark cX4_mark 3 (some .int) 2 42 0 0 D vCl (vTy k) sb [.ref (o 0), .int (x), .int (v)] (mW k o pl B Ln Rm Rd Pl Mk G Sz Kp th) (vDet (some (.int (nI (0)))) (mW k o pl B Ln Rm Rd Pl Mk G Sz Kp (nI 1))) := by
  refine vOf (by decide +kernel) (Nat.le_of_ble_eq_true rfl) (fun p9 e9 s9 m9 below9 meth9 c9 X hret _ => ?_)
  refine vAloadN X dX4_mark_0 0 rfl ?_
  refine vIloadN X dX4_mark_1 1 rfl ?_
  refine vCallVd X [] (mm_isShut1 l D k o pl sb B Ln Rm Rd Pl Mk G Sz Kp th x hx) (vGV q_891 q_893 q_18 q_29 q_894) ⟨by decide, by decide, (show _ = some 1 from by decide +kernel)⟩ ⟨Nat.le_of_ble_eq_true rfl, Nat.le_of_ble_eq_true rfl⟩ 0 4 rfl rfl rfl rfl (Nat.le_of_ble_eq_true rfl) dX4_mark_2 ⟨Nat.zero_le _, Nat.zero_le _⟩ ?_
  refine vIfN_eqF X 10 dX4_mark_5 (by decide) (by omega) (by omega) ?_
  refine vIconst X dX4_mark_8 (v := nI (0)) (by decide) ?_
  exact vRetI X hret dX4_mark_9 ⟨rfl, rfl⟩
set_option maxHeartbeats 4000000 in
set_option maxRecDepth 100000 in
theorem mm_mark2 (l : Launch) (D : va_G) (k : Nat → ClassId) (o : Nat → Nat) (pl : va_W) (sb : Nat) (B : Nat → Nat → Int32) (Ln Rm : Nat → Nat) (Rd : Nat → Option Nat) (Pl Mk : Nat → Nat) (G : Nat → Nat → Int32) (Sz : Nat → Nat) (Kp : Nat → Int32) (th : Int32) (g : Nat) (v : Int32) (hg : g < 3) (hgRd : Rd g = none) : vCt l yX4_mark cX4_mark 3 (some .int) 2 42 0 0 D vCl (vTy k) sb [.ref (o 0), .int (nI (g)), .int (v)] (mW k o pl B Ln Rm Rd Pl Mk G Sz Kp th) (vDet (some (.int (nI (0)))) (mW k o pl B Ln Rm Rd Pl Mk G Sz Kp (nI 2))) := by
  refine vOf (by decide +kernel) (Nat.le_of_ble_eq_true rfl) (fun p9 e9 s9 m9 below9 meth9 c9 X hret _ => ?_)
  refine vAloadN X dX4_mark_0 0 rfl ?_
  refine vIloadN X dX4_mark_1 1 rfl ?_
  refine vCallVd X [] (mm_isShut2 l D k o pl sb B Ln Rm Rd Pl Mk G Sz Kp th g hg hgRd) (vGV q_891 q_893 q_18 q_29 q_894) ⟨by decide, by decide, (show _ = some 1 from by decide +kernel)⟩ ⟨Nat.le_of_ble_eq_true rfl, Nat.le_of_ble_eq_true rfl⟩ 0 4 rfl rfl rfl rfl (Nat.le_of_ble_eq_true rfl) dX4_mark_2 ⟨Nat.zero_le _, Nat.zero_le _⟩ ?_
  refine vIfN_eqF X 10 dX4_mark_5 (by decide) (by omega) (by omega) ?_
  refine vIconst X dX4_mark_8 (v := nI (0)) (by decide) ?_
  exact vRetI X hret dX4_mark_9 ⟨rfl, rfl⟩
set_option maxHeartbeats 4000000 in
set_option maxRecDepth 100000 in
theorem mm_back1 (l : Launch) (D : va_G) (k : Nat → ClassId) (o : Nat → Nat) (pl : va_W) (sb : Nat) (B : Nat → Nat → Int32) (Ln Rm : Nat → Nat) (Rd : Nat → Option Nat) (Pl Mk : Nat → Nat) (G : Nat → Nat → Int32) (Sz : Nat → Nat) (Kp : Nat → Int32) (th : Int32) (x : Int32)  (hx : ¬ vOther x) : vCt l yX4_back cX4_back 2 (some .int) 2 42 0 0 D vCl (vTy k) sb [.ref (o 0), .int (x)] (mW k o pl B Ln Rm Rd Pl Mk G Sz Kp th) (vDet (some (.int (nI (0)))) (mW k o pl B Ln Rm Rd Pl Mk G Sz Kp (nI 1))) := by
  refine vOf (by decide +kernel) (Nat.le_of_ble_eq_true rfl) (fun p9 e9 s9 m9 below9 meth9 c9 X hret _ => ?_)
  refine vAloadN X dX4_back_0 0 rfl ?_
  refine vIloadN X dX4_back_1 1 rfl ?_
  refine vCallVd X [] (mm_isShut1 l D k o pl sb B Ln Rm Rd Pl Mk G Sz Kp th x hx) (vGV q_891 q_893 q_18 q_29 q_894) ⟨by decide, by decide, (show _ = some 1 from by decide +kernel)⟩ ⟨Nat.le_of_ble_eq_true rfl, Nat.le_of_ble_eq_true rfl⟩ 0 4 rfl rfl rfl rfl (Nat.le_of_ble_eq_true rfl) dX4_back_2 ⟨Nat.zero_le _, Nat.zero_le _⟩ ?_
  refine vIfN_eqF X 10 dX4_back_5 (by decide) (by omega) (by omega) ?_
  refine vIconst X dX4_back_8 (v := nI (0)) (by decide) ?_
  exact vRetI X hret dX4_back_9 ⟨rfl, rfl⟩
set_option maxHeartbeats 4000000 in
set_option maxRecDepth 100000 in
theorem mm_back2 (l : Launch) (D : va_G) (k : Nat → ClassId) (o : Nat → Nat) (pl : va_W) (sb : Nat) (B : Nat → Nat → Int32) (Ln Rm : Nat → Nat) (Rd : Nat → Option Nat) (Pl Mk : Nat → Nat) (G : Nat → Nat → Int32) (Sz : Nat → Nat) (Kp : Nat → Int32) (th : Int32) (g : Nat)  (hg : g < 3) (hgRd : Rd g = none) : vCt l yX4_back cX4_back 2 (some .int) 2 42 0 0 D vCl (vTy k) sb [.ref (o 0), .int (nI (g))] (mW k o pl B Ln Rm Rd Pl Mk G Sz Kp th) (vDet (some (.int (nI (0)))) (mW k o pl B Ln Rm Rd Pl Mk G Sz Kp (nI 2))) := by
  refine vOf (by decide +kernel) (Nat.le_of_ble_eq_true rfl) (fun p9 e9 s9 m9 below9 meth9 c9 X hret _ => ?_)
  refine vAloadN X dX4_back_0 0 rfl ?_
  refine vIloadN X dX4_back_1 1 rfl ?_
  refine vCallVd X [] (mm_isShut2 l D k o pl sb B Ln Rm Rd Pl Mk G Sz Kp th g hg hgRd) (vGV q_891 q_893 q_18 q_29 q_894) ⟨by decide, by decide, (show _ = some 1 from by decide +kernel)⟩ ⟨Nat.le_of_ble_eq_true rfl, Nat.le_of_ble_eq_true rfl⟩ 0 4 rfl rfl rfl rfl (Nat.le_of_ble_eq_true rfl) dX4_back_2 ⟨Nat.zero_le _, Nat.zero_le _⟩ ?_
  refine vIfN_eqF X 10 dX4_back_5 (by decide) (by omega) (by omega) ?_
  refine vIconst X dX4_back_8 (v := nI (0)) (by decide) ?_
  exact vRetI X hret dX4_back_9 ⟨rfl, rfl⟩
set_option maxHeartbeats 4000000 in
set_option maxRecDepth 100000 in
theorem mm_read0a (l : Launch) (D : va_G) (k : Nat → ClassId) (o : Nat → Nat) (pl : va_W) (sb : Nat) (B : Nat → Nat → Int32) (Ln Rm : Nat → Nat) (Rd : Nat → Option Nat) (Pl Mk : Nat → Nat) (G : Nat → Nat → Int32) (Sz : Nat → Nat) (Kp : Nat → Int32) (th : Int32) (g a : Nat) (hg : g < 3) (hgRd : Rd g = some a) (ha : a < 8) (hla : Ln a ≤ 256) (hpl : Pl g ≤ Ln a) (hl : Pl g = Ln a) : vCt l yX4_read cX4_read 2 (some .int) 2 42 0 0 D vCl (vTy k) sb [.ref (o 0), .int (nI (g))] (mW k o pl B Ln Rm Rd Pl Mk G Sz Kp th) (vDet (some (.int ((-1 : Int32)))) (mW k o pl B Ln Rm Rd Pl Mk G Sz Kp (nI 0))) := by
  refine vOf (by decide +kernel) (Nat.le_of_ble_eq_true rfl) (fun p9 e9 s9 m9 below9 meth9 c9 X hret _ => ?_)
  refine vAloadN X dX4_read_0 0 rfl ?_
  refine vIloadN X dX4_read_1 1 rfl ?_
  refine vCallVd X [] (mm_isShut0 l D k o pl sb B Ln Rm Rd Pl Mk G Sz Kp th g a hg hgRd ha) (vGV q_891 q_893 q_18 q_29 q_894) ⟨by decide, by decide, (show _ = some 1 from by decide +kernel)⟩ ⟨Nat.le_of_ble_eq_true rfl, Nat.le_of_ble_eq_true rfl⟩ 0 4 rfl rfl rfl rfl (Nat.le_of_ble_eq_true rfl) dX4_read_2 ⟨Nat.zero_le _, Nat.zero_le _⟩ ?_
  refine vIfN_eqT X 10 dX4_read_5 (by decide) (by omega) (by omega) ?_
  refine vAloadN X dX4_read_10 0 rfl ?_
  refine vIloadN X dX4_read_11 1 rfl ?_
  refine vCallVd X [] (mm_leftOf l D k o pl sb B Ln Rm Rd Pl Mk G Sz Kp (nI 0) g a (Pl (g)) (by omega) hgRd (by omega) (by omega) rfl (by omega)) (vGV q_879 q_881 q_17 q_29 q_882) ⟨by decide, by decide, (show _ = some 1 from by decide +kernel)⟩ ⟨Nat.le_of_ble_eq_true rfl, Nat.le_of_ble_eq_true rfl⟩ 0 4 rfl rfl rfl rfl (Nat.le_of_ble_eq_true rfl) dX4_read_12 ⟨Nat.zero_le _, Nat.zero_le _⟩ ?_
  refine vIfN_neF X 20 dX4_read_15 (by decide) (by omega) (by omega) ?_
  refine vIconst X dX4_read_18 (v := (-1 : Int32)) (by decide) ?_
  exact vRetI X hret dX4_read_19 ⟨rfl, rfl⟩
set_option maxHeartbeats 4000000 in
set_option maxRecDepth 100000 in
theorem mm_read0b (l : Launch) (D : va_G) (k : Nat → ClassId) (o : Nat → Nat) (pl : va_W) (sb : Nat) (B : Nat → Nat → Int32) (Ln Rm : Nat → Nat) (Rd : Nat → Option Nat) (Pl Mk : Nat → Nat) (G : Nat → Nat → Int32) (Sz : Nat → Nat) (Kp : Nat → Int32) (th : Int32) (g a : Nat) (hg : g < 3) (hgRd : Rd g = some a) (ha : a < 8) (hla : Ln a ≤ 256) (hpl : Pl g ≤ Ln a) (hl : Pl g < Ln a) : vCt l yX4_read cX4_read 2 (some .int) 2 42 0 0 D vCl (vTy k) sb [.ref (o 0), .int (nI (g))] (mW k o pl B Ln Rm Rd Pl Mk G Sz Kp th) (vDet (some (.int ((B a (Pl g)) &&& (nI 255)))) (mW k o pl B Ln Rm Rd (va_up Pl (g) ((Pl (g)) + (1))) Mk G Sz Kp (nI 0))) := by
  refine vOf (by decide +kernel) (Nat.le_of_ble_eq_true rfl) (fun p9 e9 s9 m9 below9 meth9 c9 X hret _ => ?_)
  refine vAloadN X dX4_read_0 0 rfl ?_
  refine vIloadN X dX4_read_1 1 rfl ?_
  refine vCallVd X [] (mm_isShut0 l D k o pl sb B Ln Rm Rd Pl Mk G Sz Kp th g a hg hgRd ha) (vGV q_891 q_893 q_18 q_29 q_894) ⟨by decide, by decide, (show _ = some 1 from by decide +kernel)⟩ ⟨Nat.le_of_ble_eq_true rfl, Nat.le_of_ble_eq_true rfl⟩ 0 4 rfl rfl rfl rfl (Nat.le_of_ble_eq_true rfl) dX4_read_2 ⟨Nat.zero_le _, Nat.zero_le _⟩ ?_
  refine vIfN_eqT X 10 dX4_read_5 (by decide) (by omega) (by omega) ?_
  refine vAloadN X dX4_read_10 0 rfl ?_
  refine vIloadN X dX4_read_11 1 rfl ?_
  refine vCallVd X [] (mm_leftOf l D k o pl sb B Ln Rm Rd Pl Mk G Sz Kp (nI 0) g a (Pl (g)) (by omega) hgRd (by omega) (by omega) rfl (by omega)) (vGV q_879 q_881 q_17 q_29 q_882) ⟨by decide, by decide, (show _ = some 1 from by decide +kernel)⟩ ⟨Nat.le_of_ble_eq_true rfl, Nat.le_of_ble_eq_true rfl⟩ 0 4 rfl rfl rfl rfl (Nat.le_of_ble_eq_true rfl) dX4_read_12 ⟨Nat.zero_le _, Nat.zero_le _⟩ ?_
  refine vIfN_neT X 20 dX4_read_15 (by decide) (by omega) (by omega) ?_
  refine vAloadN X dX4_read_20 0 rfl ?_
  refine vGet X (C := RX4) (T := TX4) (N := 10) (ci := 4) (vcons inM) rfl 0 rfl 4 (by decide) (List.mem_cons_of_mem _ q_746) (fun _ h => h) rfl dX4_read_21 ?_
  refine vIloadN X dX4_read_24 1 rfl ?_
  refine vDup2 X dX4_read_25 rfl rfl ?_
  refine vIaload X (v := nI (Pl (g))) 5 1 rfl rfl rfl (by omega) (by decide) rfl dX4_read_26 ?_
  refine vIconst X dX4_read_27 (v := nI (1)) (by decide) ?_
  refine vIadd X dX4_read_28 (v := nI ((Pl (g)) + (1))) (nI_add _ _) ?_
  refine vIastore X (g := (fun q => nI ((va_up Pl (g) ((Pl (g)) + (1))) q))) 5 1 rfl rfl rfl (by omega) (by decide) (nI_up _ _ _) dX4_read_29 ?_
  refine vWs (ws' := mW k o pl B Ln Rm Rd (va_up Pl (g) ((Pl (g)) + (1))) Mk G Sz Kp (nI 0)) rfl ?_
  refine vAloadN X dX4_read_30 0 rfl ?_
  refine vGet X (C := RX4) (T := TX4) (N := 10) (ci := 4) (vcons inM) rfl 0 rfl 0 (by decide) (List.mem_cons_of_mem _ q_742) (fun _ h => h) rfl dX4_read_31 ?_
  refine vSipush X dX4_read_34 (v := nI (256)) (by decide) ?_
  refine vAloadN X dX4_read_37 0 rfl ?_
  refine vGet X (C := RX4) (T := TX4) (N := 10) (ci := 4) (vcons inM) rfl 0 rfl 3 (by decide) (List.mem_cons_of_mem _ q_745) (fun _ h => h) rfl dX4_read_38 ?_
  refine vIloadN X dX4_read_41 1 rfl ?_
  refine vIaload X (v := nI (a)) 4 1 rfl rfl rfl (by omega) (by decide) (oI_some hgRd) dX4_read_42 ?_
  refine vImul X dX4_read_43 (v := nI ((256) * (a))) (pk_mul _ _) ?_
  refine vAloadN X dX4_read_44 0 rfl ?_
  refine vGet X (C := RX4) (T := TX4) (N := 10) (ci := 4) (vcons inM) rfl 0 rfl 4 (by decide) (List.mem_cons_of_mem _ q_746) (fun _ h => h) rfl dX4_read_45 ?_
  refine vIloadN X dX4_read_48 1 rfl ?_
  refine vIaload X (v := nI ((Pl (g)) + (1))) 5 1 rfl rfl rfl (by omega) (by decide) (congrArg nI (va_up_eq _ _ _)) dX4_read_49 ?_
  refine vIadd X dX4_read_50 (v := nI (((256) * (a)) + ((Pl (g)) + (1)))) (nI_add _ _) ?_
  refine vIconst X dX4_read_51 (v := nI (1)) (by decide) ?_
  refine vIsub X dX4_read_52 (v := nI ((((256) * (a)) + ((Pl (g)) + (1))) - (1))) (pk_sub (by omega)) ?_
  refine vIaload X (v := B (a) ((Pl (g)) + (1) - 1)) 1 1 rfl rfl rfl (by omega) (by decide) (fl2_at _ (X := a) (Y := (Pl (g)) + (1) - 1) (by omega) (by omega)) dX4_read_53 ?_
  refine vSipush X dX4_read_54 (v := nI (255)) (by decide) ?_
  refine vIand X dX4_read_57 (v := (B (a) ((Pl (g)) + (1) - 1)) &&& (nI (255))) rfl ?_
  exact vRetI X hret dX4_read_58 ⟨rfl, rfl⟩
set_option maxHeartbeats 4000000 in
set_option maxRecDepth 100000 in
theorem mm_left0 (l : Launch) (D : va_G) (k : Nat → ClassId) (o : Nat → Nat) (pl : va_W) (sb : Nat) (B : Nat → Nat → Int32) (Ln Rm : Nat → Nat) (Rd : Nat → Option Nat) (Pl Mk : Nat → Nat) (G : Nat → Nat → Int32) (Sz : Nat → Nat) (Kp : Nat → Int32) (th : Int32) (g a : Nat) (hg : g < 3) (hgRd : Rd g = some a) (ha : a < 8) (hla : Ln a ≤ 256) (hpl : Pl g ≤ Ln a) : vCt l yX4_left cX4_left 2 (some .int) 2 42 0 0 D vCl (vTy k) sb [.ref (o 0), .int (nI (g))] (mW k o pl B Ln Rm Rd Pl Mk G Sz Kp th) (vDet (some (.int (nI (Ln a - Pl g)))) (mW k o pl B Ln Rm Rd Pl Mk G Sz Kp (nI 0))) := by
  refine vOf (by decide +kernel) (Nat.le_of_ble_eq_true rfl) (fun p9 e9 s9 m9 below9 meth9 c9 X hret _ => ?_)
  refine vAloadN X dX4_left_0 0 rfl ?_
  refine vIloadN X dX4_left_1 1 rfl ?_
  refine vCallVd X [] (mm_isShut0 l D k o pl sb B Ln Rm Rd Pl Mk G Sz Kp th g a hg hgRd ha) (vGV q_891 q_893 q_18 q_29 q_894) ⟨by decide, by decide, (show _ = some 1 from by decide +kernel)⟩ ⟨Nat.le_of_ble_eq_true rfl, Nat.le_of_ble_eq_true rfl⟩ 0 4 rfl rfl rfl rfl (Nat.le_of_ble_eq_true rfl) dX4_left_2 ⟨Nat.zero_le _, Nat.zero_le _⟩ ?_
  refine vIfN_eqT X 12 dX4_left_5 (by decide) (by omega) (by omega) ?_
  refine vAloadN X dX4_left_12 0 rfl ?_
  refine vIloadN X dX4_left_13 1 rfl ?_
  refine vCallVd X [] (mm_leftOf l D k o pl sb B Ln Rm Rd Pl Mk G Sz Kp (nI 0) g a (Pl (g)) (by omega) hgRd (by omega) (by omega) rfl (by omega)) (vGV q_879 q_881 q_17 q_29 q_882) ⟨by decide, by decide, (show _ = some 1 from by decide +kernel)⟩ ⟨Nat.le_of_ble_eq_true rfl, Nat.le_of_ble_eq_true rfl⟩ 0 4 rfl rfl rfl rfl (Nat.le_of_ble_eq_true rfl) dX4_left_14 ⟨Nat.zero_le _, Nat.zero_le _⟩ ?_
  exact vRetI X hret dX4_left_17 ⟨rfl, rfl⟩
set_option maxHeartbeats 4000000 in
set_option maxRecDepth 100000 in
theorem mm_mark0 (l : Launch) (D : va_G) (k : Nat → ClassId) (o : Nat → Nat) (pl : va_W) (sb : Nat) (B : Nat → Nat → Int32) (Ln Rm : Nat → Nat) (Rd : Nat → Option Nat) (Pl Mk : Nat → Nat) (G : Nat → Nat → Int32) (Sz : Nat → Nat) (Kp : Nat → Int32) (th : Int32) (g a : Nat) (v : Int32) (hg : g < 3) (hgRd : Rd g = some a) (ha : a < 8) (hla : Ln a ≤ 256) (hpl : Pl g ≤ Ln a) : vCt l yX4_mark cX4_mark 3 (some .int) 2 42 0 0 D vCl (vTy k) sb [.ref (o 0), .int (nI (g)), .int (v)] (mW k o pl B Ln Rm Rd Pl Mk G Sz Kp th) (vDet (some (.int (nI (Ln a - Pl g)))) (mW k o pl B Ln Rm Rd Pl (va_up Mk (g) (Pl (g))) G Sz Kp (nI 0))) := by
  refine vOf (by decide +kernel) (Nat.le_of_ble_eq_true rfl) (fun p9 e9 s9 m9 below9 meth9 c9 X hret _ => ?_)
  refine vAloadN X dX4_mark_0 0 rfl ?_
  refine vIloadN X dX4_mark_1 1 rfl ?_
  refine vCallVd X [] (mm_isShut0 l D k o pl sb B Ln Rm Rd Pl Mk G Sz Kp th g a hg hgRd ha) (vGV q_891 q_893 q_18 q_29 q_894) ⟨by decide, by decide, (show _ = some 1 from by decide +kernel)⟩ ⟨Nat.le_of_ble_eq_true rfl, Nat.le_of_ble_eq_true rfl⟩ 0 4 rfl rfl rfl rfl (Nat.le_of_ble_eq_true rfl) dX4_mark_2 ⟨Nat.zero_le _, Nat.zero_le _⟩ ?_
  refine vIfN_eqT X 10 dX4_mark_5 (by decide) (by omega) (by omega) ?_
  refine vAloadN X dX4_mark_10 0 rfl ?_
  refine vGet X (C := RX4) (T := TX4) (N := 10) (ci := 4) (vcons inM) rfl 0 rfl 5 (by decide) (List.mem_cons_of_mem _ q_747) (fun _ h => h) rfl dX4_mark_11 ?_
  refine vIloadN X dX4_mark_14 1 rfl ?_
  refine vAloadN X dX4_mark_15 0 rfl ?_
  refine vGet X (C := RX4) (T := TX4) (N := 10) (ci := 4) (vcons inM) rfl 0 rfl 4 (by decide) (List.mem_cons_of_mem _ q_746) (fun _ h => h) rfl dX4_mark_16 ?_
  refine vIloadN X dX4_mark_19 1 rfl ?_
  refine vIaload X (v := nI (Pl (g))) 5 1 rfl rfl rfl (by omega) (by decide) rfl dX4_mark_20 ?_
  refine vIastore X (g := (fun q => nI ((va_up Mk (g) (Pl (g))) q))) 6 1 rfl rfl rfl (by omega) (by decide) (nI_up _ _ _) dX4_mark_21 ?_
  refine vWs (ws' := mW k o pl B Ln Rm Rd Pl (va_up Mk (g) (Pl (g))) G Sz Kp (nI 0)) rfl ?_
  refine vAloadN X dX4_mark_22 0 rfl ?_
  refine vIloadN X dX4_mark_23 1 rfl ?_
  refine vCallVd X [] (mm_leftOf l D k o pl sb B Ln Rm Rd Pl (va_up Mk (g) (Pl (g))) G Sz Kp (nI 0) g a (Pl (g)) (by omega) hgRd (by omega) (by omega) rfl (by omega)) (vGV q_879 q_881 q_17 q_29 q_882) ⟨by decide, by decide, (show _ = some 1 from by decide +kernel)⟩ ⟨Nat.le_of_ble_eq_true rfl, Nat.le_of_ble_eq_true rfl⟩ 0 4 rfl rfl rfl rfl (Nat.le_of_ble_eq_true rfl) dX4_mark_24 ⟨Nat.zero_le _, Nat.zero_le _⟩ ?_
  exact vRetI X hret dX4_mark_27 ⟨rfl, rfl⟩
set_option maxHeartbeats 4000000 in
set_option maxRecDepth 100000 in
theorem mm_back0 (l : Launch) (D : va_G) (k : Nat → ClassId) (o : Nat → Nat) (pl : va_W) (sb : Nat) (B : Nat → Nat → Int32) (Ln Rm : Nat → Nat) (Rd : Nat → Option Nat) (Pl Mk : Nat → Nat) (G : Nat → Nat → Int32) (Sz : Nat → Nat) (Kp : Nat → Int32) (th : Int32) (g a : Nat) (hg : g < 3) (hgRd : Rd g = some a) (ha : a < 8) (hla : Ln a ≤ 256) (hpl : Pl g ≤ Ln a) (hmk : Mk g ≤ Ln a) : vCt l yX4_back cX4_back 2 (some .int) 2 42 0 0 D vCl (vTy k) sb [.ref (o 0), .int (nI (g))] (mW k o pl B Ln Rm Rd Pl Mk G Sz Kp th) (vDet (some (.int (nI (Ln a - Mk g)))) (mW k o pl B Ln Rm Rd (va_up Pl (g) (Mk (g))) Mk G Sz Kp (nI 0))) := by
  refine vOf (by decide +kernel) (Nat.le_of_ble_eq_true rfl) (fun p9 e9 s9 m9 below9 meth9 c9 X hret _ => ?_)
  refine vAloadN X dX4_back_0 0 rfl ?_
  refine vIloadN X dX4_back_1 1 rfl ?_
  refine vCallVd X [] (mm_isShut0 l D k o pl sb B Ln Rm Rd Pl Mk G Sz Kp th g a hg hgRd ha) (vGV q_891 q_893 q_18 q_29 q_894) ⟨by decide, by decide, (show _ = some 1 from by decide +kernel)⟩ ⟨Nat.le_of_ble_eq_true rfl, Nat.le_of_ble_eq_true rfl⟩ 0 4 rfl rfl rfl rfl (Nat.le_of_ble_eq_true rfl) dX4_back_2 ⟨Nat.zero_le _, Nat.zero_le _⟩ ?_
  refine vIfN_eqT X 10 dX4_back_5 (by decide) (by omega) (by omega) ?_
  refine vAloadN X dX4_back_10 0 rfl ?_
  refine vGet X (C := RX4) (T := TX4) (N := 10) (ci := 4) (vcons inM) rfl 0 rfl 4 (by decide) (List.mem_cons_of_mem _ q_746) (fun _ h => h) rfl dX4_back_11 ?_
  refine vIloadN X dX4_back_14 1 rfl ?_
  refine vAloadN X dX4_back_15 0 rfl ?_
  refine vGet X (C := RX4) (T := TX4) (N := 10) (ci := 4) (vcons inM) rfl 0 rfl 5 (by decide) (List.mem_cons_of_mem _ q_747) (fun _ h => h) rfl dX4_back_16 ?_
  refine vIloadN X dX4_back_19 1 rfl ?_
  refine vIaload X (v := nI (Mk (g))) 6 1 rfl rfl rfl (by omega) (by decide) rfl dX4_back_20 ?_
  refine vIastore X (g := (fun q => nI ((va_up Pl (g) (Mk (g))) q))) 5 1 rfl rfl rfl (by omega) (by decide) (nI_up _ _ _) dX4_back_21 ?_
  refine vWs (ws' := mW k o pl B Ln Rm Rd (va_up Pl (g) (Mk (g))) Mk G Sz Kp (nI 0)) rfl ?_
  refine vAloadN X dX4_back_22 0 rfl ?_
  refine vIloadN X dX4_back_23 1 rfl ?_
  refine vCallVd X [] (mm_leftOf l D k o pl sb B Ln Rm Rd (va_up Pl (g) (Mk (g))) Mk G Sz Kp (nI 0) g a (Mk (g)) (by omega) hgRd (by omega) (by omega) (va_up_eq _ _ _) (by omega)) (vGV q_879 q_881 q_17 q_29 q_882) ⟨by decide, by decide, (show _ = some 1 from by decide +kernel)⟩ ⟨Nat.le_of_ble_eq_true rfl, Nat.le_of_ble_eq_true rfl⟩ 0 4 rfl rfl rfl rfl (Nat.le_of_ble_eq_true rfl) dX4_back_24 ⟨Nat.zero_le _, Nat.zero_le _⟩ ?_
  exact vRetI X hret dX4_back_27 ⟨rfl, rfl⟩
