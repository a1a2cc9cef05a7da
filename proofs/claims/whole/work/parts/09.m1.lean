set_option maxHeartbeats 4000000 in
set_option maxRecDepth 100000 in
theorem mm_isWrong0 (l : Launch) (D : va_G) (k : Nat → ClassId) (o : Nat → Nat) (sb : Nat) (B : Nat → Nat → Int32) (Ln Rm : Nat → Nat) (Rd : Nat → Option Nat) (Pl Mk : Nat → Nat) (G : Nat → Nat → Int32) (Sz : Nat → Nat) (Kp : Nat → Int32) (th : Int32)   : vCt l yX4_isWrong cX4_isWrong 2 (some .boolean) 0 0 0 0 D vCl (vTy k) sb [.ref (o 0), .int (nI (0))] (mW k o B Ln Rm Rd Pl Mk G Sz Kp th) (vDet (some (.int (nI (0)))) (mW k o B Ln Rm Rd Pl Mk G Sz Kp (nI 0))) := by
  refine vOf (by decide +kernel) (Nat.le_of_ble_eq_true rfl) (fun p e s m below meth c X hr _ => ?_)
  refine vAloadN X dX4_isWrong_0 0 rfl ?_
  refine vIloadN X dX4_isWrong_1 1 rfl ?_
  refine vPut X (C := RX4) (T := TX4) (N := 10) (ci := 4) (ty := .int) (vcons inM) tyX4 tyX4_ok nmX4 rfl 0 rfl 9 (by decide) (List.mem_cons_of_mem _ q_751) (fun _ h => h) rfl (by decide +kernel) rfl rfl (Nat.le_of_ble_eq_true rfl) dX4_isWrong_2 ?_
  refine vWs (ws' := mW k o B Ln Rm Rd Pl Mk G Sz Kp (nI (0))) rfl ?_
  refine vIloadN X dX4_isWrong_5 1 rfl ?_
  refine vIfN_eqT X 13 dX4_isWrong_6 (by decide) (by omega) (by omega) ?_
  refine vIconst X dX4_isWrong_13 (v := nI (0)) (by decide) ?_
  exact vRetZ X hr (by rfl) dX4_isWrong_14 ⟨rfl, rfl⟩
set_option maxHeartbeats 4000000 in
set_option maxRecDepth 100000 in
theorem mm_isWrong1 (l : Launch) (D : va_G) (k : Nat → ClassId) (o : Nat → Nat) (sb : Nat) (B : Nat → Nat → Int32) (Ln Rm : Nat → Nat) (Rd : Nat → Option Nat) (Pl Mk : Nat → Nat) (G : Nat → Nat → Int32) (Sz : Nat → Nat) (Kp : Nat → Int32) (th : Int32) (n : Nat) (h0 : 0 < n) (hn : n < 10) : vCt l yX4_isWrong cX4_isWrong 2 (some .boolean) 0 0 0 0 D vCl (vTy k) sb [.ref (o 0), .int (nI (n))] (mW k o B Ln Rm Rd Pl Mk G Sz Kp th) (vDet (some (.int (nI (1)))) (mW k o B Ln Rm Rd Pl Mk G Sz Kp (nI n))) := by
  refine vOf (by decide +kernel) (Nat.le_of_ble_eq_true rfl) (fun p e s m below meth c X hr _ => ?_)
  refine vAloadN X dX4_isWrong_0 0 rfl ?_
  refine vIloadN X dX4_isWrong_1 1 rfl ?_
  refine vPut X (C := RX4) (T := TX4) (N := 10) (ci := 4) (ty := .int) (vcons inM) tyX4 tyX4_ok nmX4 rfl 0 rfl 9 (by decide) (List.mem_cons_of_mem _ q_751) (fun _ h => h) rfl (by decide +kernel) rfl rfl (Nat.le_of_ble_eq_true rfl) dX4_isWrong_2 ?_
  refine vWs (ws' := mW k o B Ln Rm Rd Pl Mk G Sz Kp (nI (n))) rfl ?_
  refine vIloadN X dX4_isWrong_5 1 rfl ?_
  refine vIfN_eqF X 13 dX4_isWrong_6 (by decide) (by omega) (by omega) ?_
  refine vIconst X dX4_isWrong_9 (v := nI (1)) (by decide) ?_
  refine vGoto X 14 dX4_isWrong_10 (by decide) ?_
  exact vRetZ X hr (by rfl) dX4_isWrong_14 ⟨rfl, rfl⟩
set_option maxHeartbeats 4000000 in
set_option maxRecDepth 100000 in
theorem mm_thrown (l : Launch) (D : va_G) (k : Nat → ClassId) (o : Nat → Nat) (sb : Nat) (B : Nat → Nat → Int32) (Ln Rm : Nat → Nat) (Rd : Nat → Option Nat) (Pl Mk : Nat → Nat) (G : Nat → Nat → Int32) (Sz : Nat → Nat) (Kp : Nat → Int32) (th : Int32)   : vCt l yX4_thrown cX4_thrown 1 (some .int) 0 0 0 0 D vCl (vTy k) sb [.ref (o 0)] (mW k o B Ln Rm Rd Pl Mk G Sz Kp th) (vDet (some (.int th)) (mW k o B Ln Rm Rd Pl Mk G Sz Kp th)) := by
  refine vOf (by decide +kernel) (Nat.le_of_ble_eq_true rfl) (fun p e s m below meth c X hr _ => ?_)
  refine vAloadN X dX4_thrown_0 0 rfl ?_
  refine vGet X (C := RX4) (T := TX4) (N := 10) (ci := 4) (vcons inM) rfl 0 rfl 9 (by decide) (List.mem_cons_of_mem _ q_751) (fun _ h => h) rfl dX4_thrown_1 ?_
  exact vRetI X hr dX4_thrown_4 ⟨rfl, rfl⟩
set_option maxHeartbeats 4000000 in
set_option maxRecDepth 100000 in
theorem mm_lesserA (l : Launch) (D : va_G) (k : Nat → ClassId) (o : Nat → Nat) (sb : Nat) (B : Nat → Nat → Int32) (Ln Rm : Nat → Nat) (Rd : Nat → Option Nat) (Pl Mk : Nat → Nat) (G : Nat → Nat → Int32) (Sz : Nat → Nat) (Kp : Nat → Int32) (th : Int32) (a b : Nat) (h : a < b) (hb : b < 2 ^ 31) : vCt l yX4_lesser cX4_lesser 3 (some .int) 0 0 0 0 D vCl (vTy k) sb [.ref (o 0), .int (nI (a)), .int (nI (b))] (mW k o B Ln Rm Rd Pl Mk G Sz Kp th) (vDet (some (.int (nI (a)))) (mW k o B Ln Rm Rd Pl Mk G Sz Kp th)) := by
  refine vOf (by decide +kernel) (Nat.le_of_ble_eq_true rfl) (fun p e s m below meth c X hr _ => ?_)
  refine vIloadN X dX4_lesser_0 1 rfl ?_
  refine vIloadN X dX4_lesser_1 2 rfl ?_
  refine vIcmpN_geF X 9 dX4_lesser_2 (by decide) (by omega) (by omega) (by omega) ?_
  refine vIloadN X dX4_lesser_5 1 rfl ?_
  refine vGoto X 10 dX4_lesser_6 (by decide) ?_
  exact vRetI X hr dX4_lesser_10 ⟨rfl, rfl⟩
set_option maxHeartbeats 4000000 in
set_option maxRecDepth 100000 in
theorem mm_lesserB (l : Launch) (D : va_G) (k : Nat → ClassId) (o : Nat → Nat) (sb : Nat) (B : Nat → Nat → Int32) (Ln Rm : Nat → Nat) (Rd : Nat → Option Nat) (Pl Mk : Nat → Nat) (G : Nat → Nat → Int32) (Sz : Nat → Nat) (Kp : Nat → Int32) (th : Int32) (a b : Nat) (h : b ≤ a) (ha : a < 2 ^ 31) : vCt l yX4_lesser cX4_lesser 3 (some .int) 0 0 0 0 D vCl (vTy k) sb [.ref (o 0), .int (nI (a)), .int (nI (b))] (mW k o B Ln Rm Rd Pl Mk G Sz Kp th) (vDet (some (.int (nI (b)))) (mW k o B Ln Rm Rd Pl Mk G Sz Kp th)) := by
  refine vOf (by decide +kernel) (Nat.le_of_ble_eq_true rfl) (fun p e s m below meth c X hr _ => ?_)
  refine vIloadN X dX4_lesser_0 1 rfl ?_
  refine vIloadN X dX4_lesser_1 2 rfl ?_
  refine vIcmpN_geT X 9 dX4_lesser_2 (by decide) (by omega) (by omega) (by omega) ?_
  refine vIloadN X dX4_lesser_9 2 rfl ?_
  exact vRetI X hr dX4_lesser_10 ⟨rfl, rfl⟩
set_option maxHeartbeats 4000000 in
set_option maxRecDepth 100000 in
theorem mm_isRowT (l : Launch) (D : va_G) (k : Nat → ClassId) (o : Nat → Nat) (sb : Nat) (B : Nat → Nat → Int32) (Ln Rm : Nat → Nat) (Rd : Nat → Option Nat) (Pl Mk : Nat → Nat) (G : Nat → Nat → Int32) (Sz : Nat → Nat) (Kp : Nat → Int32) (th : Int32) (r : Nat) (h : r < 4) : vCt l yX4_isRow cX4_isRow 2 (some .boolean) 0 0 0 0 D vCl (vTy k) sb [.ref (o 0), .int (nI (r))] (mW k o B Ln Rm Rd Pl Mk G Sz Kp th) (vDet (some (.int (nI (1)))) (mW k o B Ln Rm Rd Pl Mk G Sz Kp th)) := by
  refine vOf (by decide +kernel) (Nat.le_of_ble_eq_true rfl) (fun p e s m below meth c X hr _ => ?_)
  refine vIconst X dX4_isRow_0 (v := nI (0)) (by decide) ?_
  refine vIloadN X dX4_isRow_1 1 rfl ?_
  refine vIcmpN_gtF X 14 dX4_isRow_2 (by decide) (by omega) (by omega) (by omega) ?_
  refine vIloadN X dX4_isRow_5 1 rfl ?_
  refine vIconst X dX4_isRow_6 (v := nI (3)) (by decide) ?_
  refine vIcmpN_gtF X 14 dX4_isRow_7 (by decide) (by omega) (by omega) (by omega) ?_
  refine vIconst X dX4_isRow_10 (v := nI (1)) (by decide) ?_
  refine vGoto X 15 dX4_isRow_11 (by decide) ?_
  exact vRetZ X hr (by rfl) dX4_isRow_15 ⟨rfl, rfl⟩
