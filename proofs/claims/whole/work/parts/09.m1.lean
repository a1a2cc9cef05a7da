set_option maxHeartbeats 4000000 in
set_option maxRecDepth 100000 in
theorem mm_isWrong0 (l : Launch) (D : va_G) (k : Nat → ClassId) (o : Nat → Nat) (pl : va_W) (sb : Nat) (B : Nat → Nat → Int32) (Ln Rm : Nat → Nat) (Rd : Nat → Option Nat) (Pl Mk : Nat → Nat) (G : Nat → Nat → Int32) (Sz : Nat → Nat) (Kp : Nat → Int32) (th : Int32)   : vCt l yX4_isWrong cX4_isWrong 2 (some .boolean) 0 0 0 0 D vCl (vTy k) sb [.ref (o 0), .int (nI (0))] (mW k o pl B Ln Rm Rd Pl Mk G Sz Kp th) (vDet (some (.int (nI (0)))) (mW k o pl B Ln Rm Rd Pl Mk G Sz Kp (nI 0))) := by
  refine vOf (by decide +kernel) (Nat.le_of_ble_eq_true rfl) (fun p9 e9 s9 m9 below9 meth9 c9 X hret _ => ?_)
  refine vAloadN X dX4_isWrong_0 0 rfl ?_
  refine vIloadN X dX4_isWrong_1 1 rfl ?_
  refine vPut X (C := RX4) (T := TX4) (N := 10) (ci := 4) (ty := .int) (vcons inM) tyX4 tyX4_ok nmX4 rfl 0 rfl 9 (by decide) (List.mem_cons_of_mem _ q_751) (fun _ h => h) rfl (by decide +kernel) rfl rfl (Nat.le_of_ble_eq_true rfl) dX4_isWrong_2 ?_
  refine vWs (ws' := mW k o pl B Ln Rm Rd Pl Mk G Sz Kp (nI (0))) rfl ?_
  refine vIloadN X dX4_isWrong_5 1 rfl ?_
  refine vIfN_eqT X 13 dX4_isWrong_6 (by decide) (by omega) (by omega) ?_
  refine vIconst X dX4_isWrong_13 (v := nI (0)) (by decide) ?_
  exact vRetZ X hret (by rfl) dX4_isWrong_14 ⟨rfl, rfl⟩
set_option maxHeartbeats 4000000 in
set_option maxRecDepth 100000 in
theorem mm_isWrong1 (l : Launch) (D : va_G) (k : Nat → ClassId) (o : Nat → Nat) (pl : va_W) (sb : Nat) (B : Nat → Nat → Int32) (Ln Rm : Nat → Nat) (Rd : Nat → Option Nat) (Pl Mk : Nat → Nat) (G : Nat → Nat → Int32) (Sz : Nat → Nat) (Kp : Nat → Int32) (th : Int32) (n : Nat) (h0 : 0 < n) (hn : n < 10) : vCt l yX4_isWrong cX4_isWrong 2 (some .boolean) 0 0 0 0 D vCl (vTy k) sb [.ref (o 0), .int (nI (n))] (mW k o pl B Ln Rm Rd Pl Mk G Sz Kp th) (vDet (some (.int (nI (1)))) (mW k o pl B Ln Rm Rd Pl Mk G Sz Kp (nI n))) := by
  refine vOf (by decide +kernel) (Nat.le_of_ble_eq_true rfl) (fun p9 e9 s9 m9 below9 meth9 c9 X hret _ => ?_)
  refine vAloadN X dX4_isWrong_0 0 rfl ?_
  refine vIloadN X dX4_isWrong_1 1 rfl ?_
  refine vPut X (C := RX4) (T := TX4) (N := 10) (ci := 4) (ty := .int) (vcons inM) tyX4 tyX4_ok nmX4 rfl 0 rfl 9 (by decide) (List.mem_cons_of_mem _ q_751) (fun _ h => h) rfl (by decide +kernel) rfl rfl (Nat.le_of_ble_eq_true rfl) dX4_isWrong_2 ?_
  refine vWs (ws' := mW k o pl B Ln Rm Rd Pl Mk G Sz Kp (nI (n))) rfl ?_
  refine vIloadN X dX4_isWrong_5 1 rfl ?_
  refine vIfN_eqF X 13 dX4_isWrong_6 (by decide) (by omega) (by omega) ?_
  refine vIconst X dX4_isWrong_9 (v := nI (1)) (by decide) ?_
  refine vGoto X 14 dX4_isWrong_10 (by decide) ?_
  exact vRetZ X hret (by rfl) dX4_isWrong_14 ⟨rfl, rfl⟩
set_option maxHeartbeats 4000000 in
set_option maxRecDepth 100000 in
theorem mm_thrown (l : Launch) (D : va_G) (k : Nat → ClassId) (o : Nat → Nat) (pl : va_W) (sb : Nat) (B : Nat → Nat → Int32) (Ln Rm : Nat → Nat) (Rd : Nat → Option Nat) (Pl Mk : Nat → Nat) (G : Nat → Nat → Int32) (Sz : Nat → Nat) (Kp : Nat → Int32) (th : Int32)   : vCt l yX4_thrown cX4_thrown 1 (some .int) 0 0 0 0 D vCl (vTy k) sb [.ref (o 0)] (mW k o pl B Ln Rm Rd Pl Mk G Sz Kp th) (vDet (some (.int th)) (mW k o pl B Ln Rm Rd Pl Mk G Sz Kp th)) := by
  refine vOf (by decide +kernel) (Nat.le_of_ble_eq_true rfl) (fun p9 e9 s9 m9 below9 meth9 c9 X hret _ => ?_)
  refine vAloadN X dX4_thrown_0 0 rfl ?_
  refine vGet X (C := RX4) (T := TX4) (N := 10) (ci := 4) (vcons inM) rfl 0 rfl 9 (by decide) (List.mem_cons_of_mem _ q_751) (fun _ h => h) rfl dX4_thrown_1 ?_
  exact vRetI X hret dX4_thrown_4 ⟨rfl, rfl⟩
set_option maxHeartbeats 4000000 in
set_option maxRecDepth 100000 in
theorem mm_lesserA (l : Launch) (D : va_G) (k : Nat → ClassId) (o : Nat → Nat) (pl : va_W) (sb : Nat) (B : Nat → Nat → Int32) (Ln Rm : Nat → Nat) (Rd : Nat → Option Nat) (Pl Mk : Nat → Nat) (G : Nat → Nat → Int32) (Sz : Nat → Nat) (Kp : Nat → Int32) (th : Int32) (a b : Nat) (h : a < b) (hb : b < 2 ^ 31) : vCt l yX4_lesser cX4_lesser 3 (some .int) 0 0 0 0 D vCl (vTy k) sb [.ref (o 0), .int (nI (a)), .int (nI (b))] (mW k o pl B Ln Rm Rd Pl Mk G Sz Kp th) (vDet (some (.int (nI (a)))) (mW k o pl B Ln Rm Rd Pl Mk G Sz Kp th)) := by
  refine vOf (by decide +kernel) (Nat.le_of_ble_eq_true rfl) (fun p9 e9 s9 m9 below9 meth9 c9 X hret _ => ?_)
  refine vIloadN X dX4_lesser_0 1 rfl ?_
  refine vIloadN X dX4_lesser_1 2 rfl ?_
  refine vIcmpN_geF X 9 dX4_lesser_2 (by decide) (by omega) (by omega) (by omega) ?_
  refine vIloadN X dX4_lesser_5 1 rfl ?_
  refine vGoto X 10 dX4_lesser_6 (by decide) ?_
  exact vRetI X hret dX4_lesser_10 ⟨rfl, rfl⟩
set_option maxHeartbeats 4000000 in
set_option maxRecDepth 100000 in
theorem mm_lesserB (l : Launch) (D : va_G) (k : Nat → ClassId) (o : Nat → Nat) (pl : va_W) (sb : Nat) (B : Nat → Nat → Int32) (Ln Rm : Nat → Nat) (Rd : Nat → Option Nat) (Pl Mk : Nat → Nat) (G : Nat → Nat → Int32) (Sz : Nat → Nat) (Kp : Nat → Int32) (th : Int32) (a b : Nat) (h : b ≤ a) (ha : a < 2 ^ 31) : vCt l yX4_lesser cX4_lesser 3 (some .int) 0 0 0 0 D vCl (vTy k) sb [.ref (o 0), .int (nI (a)), .int (nI (b))] (mW k o pl B Ln Rm Rd Pl Mk G Sz Kp th) (vDet (some (.int (nI (b)))) (mW k o pl B Ln Rm Rd Pl Mk G Sz Kp th)) := by
  refine vOf (by decide +kernel) (Nat.le_of_ble_eq_true rfl) (fun p9 e9 s9 m9 below9 meth9 c9 X hret _ => ?_)
  refine vIloadN X dX4_lesser_0 1 rfl ?_
  refine vIloadN X dX4_lesser_1 2 rfl ?_
  refine vIcmpN_geT X 9 dX4_lesser_2 (by decide) (by omega) (by omega) (by omega) ?_
  refine vIloadN X dX4_lesser_9 2 rfl ?_
  exact vRetI X hret dX4_lesser_10 ⟨rfl, rfl⟩
theorem mm_lesser (l : Launch) (D : va_G) (k : Nat → ClassId) (o : Nat → Nat) (pl : va_W) (sb : Nat) (B : Nat → Nat → Int32) (Ln Rm : Nat → Nat) (Rd : Nat → Option Nat) (Pl Mk : Nat → Nat) (G : Nat → Nat → Int32) (Sz : Nat → Nat) (Kp : Nat → Int32) (th : Int32) (a b : Nat) (ha : a < 2 ^ 31) (hb : b < 2 ^ 31) : vCt l yX4_lesser cX4_lesser 3 (some .int) 0 0 0 0 D vCl (vTy k) sb [.ref (o 0), .int (nI a), .int (nI b)] (mW k o pl B Ln Rm Rd Pl Mk G Sz Kp th) (vDet (some (.int (nI (min a b)))) (mW k o pl B Ln Rm Rd Pl Mk G Sz Kp th)) := by
  rcases Nat.lt_or_ge a b with h | h
  · rw [Nat.min_eq_left (Nat.le_of_lt h)]; exact mm_lesserA l D k o pl sb B Ln Rm Rd Pl Mk G Sz Kp th a b h hb
  · rw [Nat.min_eq_right h]; exact mm_lesserB l D k o pl sb B Ln Rm Rd Pl Mk G Sz Kp th a b h ha
set_option maxHeartbeats 4000000 in
set_option maxRecDepth 100000 in
theorem mm_isRowT (l : Launch) (D : va_G) (k : Nat → ClassId) (o : Nat → Nat) (pl : va_W) (sb : Nat) (B : Nat → Nat → Int32) (Ln Rm : Nat → Nat) (Rd : Nat → Option Nat) (Pl Mk : Nat → Nat) (G : Nat → Nat → Int32) (Sz : Nat → Nat) (Kp : Nat → Int32) (th : Int32) (r : Nat) (h : r < 4) : vCt l yX4_isRow cX4_isRow 2 (some .boolean) 0 0 0 0 D vCl (vTy k) sb [.ref (o 0), .int (nI (r))] (mW k o pl B Ln Rm Rd Pl Mk G Sz Kp th) (vDet (some (.int (nI (1)))) (mW k o pl B Ln Rm Rd Pl Mk G Sz Kp th)) := by
  refine vOf (by decide +kernel) (Nat.le_of_ble_eq_true rfl) (fun p9 e9 s9 m9 below9 meth9 c9 X hret _ => ?_)
  refine vIconst X dX4_isRow_0 (v := nI (0)) (by decide) ?_
  refine vIloadN X dX4_isRow_1 1 rfl ?_
  refine vIcmpN_gtF X 14 dX4_isRow_2 (by decide) (by omega) (by omega) (by omega) ?_
  refine vIloadN X dX4_isRow_5 1 rfl ?_
  refine vIconst X dX4_isRow_6 (v := nI (3)) (by decide) ?_
  refine vIcmpN_gtF X 14 dX4_isRow_7 (by decide) (by omega) (by omega) (by omega) ?_
  refine vIconst X dX4_isRow_10 (v := nI (1)) (by decide) ?_
  refine vGoto X 15 dX4_isRow_11 (by decide) ?_
  exact vRetZ X hret (by rfl) dX4_isRow_15 ⟨rfl, rfl⟩
set_option maxHeartbeats 4000000 in
set_option maxRecDepth 100000 in
theorem mm_isRowF1 (l : Launch) (D : va_G) (k : Nat → ClassId) (o : Nat → Nat) (pl : va_W) (sb : Nat) (B : Nat → Nat → Int32) (Ln Rm : Nat → Nat) (Rd : Nat → Option Nat) (Pl Mk : Nat → Nat) (G : Nat → Nat → Int32) (Sz : Nat → Nat) (Kp : Nat → Int32) (th : Int32) (x : Int32) (h : x < nI 0) : vCt l yX4_isRow cX4_isRow 2 (some .boolean) 0 0 0 0 D vCl (vTy k) sb [.ref (o 0), .int (x)] (mW k o pl B Ln Rm Rd Pl Mk G Sz Kp th) (vDet (some (.int (nI (0)))) (mW k o pl B Ln Rm Rd Pl Mk G Sz Kp th)) := by
  refine vOf (by decide +kernel) (Nat.le_of_ble_eq_true rfl) (fun p9 e9 s9 m9 below9 meth9 c9 X hret _ => ?_)
  refine vIconst X dX4_isRow_0 (v := nI (0)) (by decide) ?_
  refine vIloadN X dX4_isRow_1 1 rfl ?_
  refine vIcmp_gtT X 14 dX4_isRow_2 (by decide) (by first | assumption | exact Int32.not_lt.mpr (by assumption) | exact Int32.not_le.mpr (by assumption) | exact Int32.not_lt.mp (by assumption) | exact Int32.not_le.mp (by assumption) | decide) ?_
  refine vIconst X dX4_isRow_14 (v := nI (0)) (by decide) ?_
  exact vRetZ X hret (by rfl) dX4_isRow_15 ⟨rfl, rfl⟩
set_option maxHeartbeats 4000000 in
set_option maxRecDepth 100000 in
theorem mm_isRowF2 (l : Launch) (D : va_G) (k : Nat → ClassId) (o : Nat → Nat) (pl : va_W) (sb : Nat) (B : Nat → Nat → Int32) (Ln Rm : Nat → Nat) (Rd : Nat → Option Nat) (Pl Mk : Nat → Nat) (G : Nat → Nat → Int32) (Sz : Nat → Nat) (Kp : Nat → Int32) (th : Int32) (x : Int32) (h : nI 0 ≤ x) (h2 : nI 3 < x) : vCt l yX4_isRow cX4_isRow 2 (some .boolean) 0 0 0 0 D vCl (vTy k) sb [.ref (o 0), .int (x)] (mW k o pl B Ln Rm Rd Pl Mk G Sz Kp th) (vDet (some (.int (nI (0)))) (mW k o pl B Ln Rm Rd Pl Mk G Sz Kp th)) := by
  refine vOf (by decide +kernel) (Nat.le_of_ble_eq_true rfl) (fun p9 e9 s9 m9 below9 meth9 c9 X hret _ => ?_)
  refine vIconst X dX4_isRow_0 (v := nI (0)) (by decide) ?_
  refine vIloadN X dX4_isRow_1 1 rfl ?_
  refine vIcmp_gtF X 14 dX4_isRow_2 (by decide) (Int32.not_lt.mpr h) ?_
  refine vIloadN X dX4_isRow_5 1 rfl ?_
  refine vIconst X dX4_isRow_6 (v := nI (3)) (by decide) ?_
  refine vIcmp_gtT X 14 dX4_isRow_7 (by decide) (by first | assumption | exact Int32.not_lt.mpr (by assumption) | exact Int32.not_le.mpr (by assumption) | exact Int32.not_lt.mp (by assumption) | exact Int32.not_le.mp (by assumption) | decide) ?_
  refine vIconst X dX4_isRow_14 (v := nI (0)) (by decide) ?_
  exact vRetZ X hret (by rfl) dX4_isRow_15 ⟨rfl, rfl⟩
set_option maxHeartbeats 4000000 in
set_option maxRecDepth 100000 in
theorem mm_isOtherT (l : Launch) (D : va_G) (k : Nat → ClassId) (o : Nat → Nat) (pl : va_W) (sb : Nat) (B : Nat → Nat → Int32) (Ln Rm : Nat → Nat) (Rd : Nat → Option Nat) (Pl Mk : Nat → Nat) (G : Nat → Nat → Int32) (Sz : Nat → Nat) (Kp : Nat → Int32) (th : Int32) (g : Nat) (h : g < 3) : vCt l yX4_isOther cX4_isOther 2 (some .boolean) 0 0 0 0 D vCl (vTy k) sb [.ref (o 0), .int (nI (g))] (mW k o pl B Ln Rm Rd Pl Mk G Sz Kp th) (vDet (some (.int (nI (1)))) (mW k o pl B Ln Rm Rd Pl Mk G Sz Kp th)) := by
  refine vOf (by decide +kernel) (Nat.le_of_ble_eq_true rfl) (fun p9 e9 s9 m9 below9 meth9 c9 X hret _ => ?_)
  refine vIconst X dX4_isOther_0 (v := nI (0)) (by decide) ?_
  refine vIloadN X dX4_isOther_1 1 rfl ?_
  refine vIcmpN_gtF X 14 dX4_isOther_2 (by decide) (by omega) (by omega) (by omega) ?_
  refine vIloadN X dX4_isOther_5 1 rfl ?_
  refine vIconst X dX4_isOther_6 (v := nI (2)) (by decide) ?_
  refine vIcmpN_gtF X 14 dX4_isOther_7 (by decide) (by omega) (by omega) (by omega) ?_
  refine vIconst X dX4_isOther_10 (v := nI (1)) (by decide) ?_
  refine vGoto X 15 dX4_isOther_11 (by decide) ?_
  exact vRetZ X hret (by rfl) dX4_isOther_15 ⟨rfl, rfl⟩
set_option maxHeartbeats 4000000 in
set_option maxRecDepth 100000 in
theorem mm_isOtherF1 (l : Launch) (D : va_G) (k : Nat → ClassId) (o : Nat → Nat) (pl : va_W) (sb : Nat) (B : Nat → Nat → Int32) (Ln Rm : Nat → Nat) (Rd : Nat → Option Nat) (Pl Mk : Nat → Nat) (G : Nat → Nat → Int32) (Sz : Nat → Nat) (Kp : Nat → Int32) (th : Int32) (x : Int32) (h : x < nI 0) : vCt l yX4_isOther cX4_isOther 2 (some .boolean) 0 0 0 0 D vCl (vTy k) sb [.ref (o 0), .int (x)] (mW k o pl B Ln Rm Rd Pl Mk G Sz Kp th) (vDet (some (.int (nI (0)))) (mW k o pl B Ln Rm Rd Pl Mk G Sz Kp th)) := by
  refine vOf (by decide +kernel) (Nat.le_of_ble_eq_true rfl) (fun p9 e9 s9 m9 below9 meth9 c9 X hret _ => ?_)
  refine vIconst X dX4_isOther_0 (v := nI (0)) (by decide) ?_
  refine vIloadN X dX4_isOther_1 1 rfl ?_
  refine vIcmp_gtT X 14 dX4_isOther_2 (by decide) (by first | assumption | exact Int32.not_lt.mpr (by assumption) | exact Int32.not_le.mpr (by assumption) | exact Int32.not_lt.mp (by assumption) | exact Int32.not_le.mp (by assumption) | decide) ?_
  refine vIconst X dX4_isOther_14 (v := nI (0)) (by decide) ?_
  exact vRetZ X hret (by rfl) dX4_isOther_15 ⟨rfl, rfl⟩
set_option maxHeartbeats 4000000 in
set_option maxRecDepth 100000 in
theorem mm_isOtherF2 (l : Launch) (D : va_G) (k : Nat → ClassId) (o : Nat → Nat) (pl : va_W) (sb : Nat) (B : Nat → Nat → Int32) (Ln Rm : Nat → Nat) (Rd : Nat → Option Nat) (Pl Mk : Nat → Nat) (G : Nat → Nat → Int32) (Sz : Nat → Nat) (Kp : Nat → Int32) (th : Int32) (x : Int32) (h : nI 0 ≤ x) (h2 : nI 2 < x) : vCt l yX4_isOther cX4_isOther 2 (some .boolean) 0 0 0 0 D vCl (vTy k) sb [.ref (o 0), .int (x)] (mW k o pl B Ln Rm Rd Pl Mk G Sz Kp th) (vDet (some (.int (nI (0)))) (mW k o pl B Ln Rm Rd Pl Mk G Sz Kp th)) := by
  refine vOf (by decide +kernel) (Nat.le_of_ble_eq_true rfl) (fun p9 e9 s9 m9 below9 meth9 c9 X hret _ => ?_)
  refine vIconst X dX4_isOther_0 (v := nI (0)) (by decide) ?_
  refine vIloadN X dX4_isOther_1 1 rfl ?_
  refine vIcmp_gtF X 14 dX4_isOther_2 (by decide) (Int32.not_lt.mpr h) ?_
  refine vIloadN X dX4_isOther_5 1 rfl ?_
  refine vIconst X dX4_isOther_6 (v := nI (2)) (by decide) ?_
  refine vIcmp_gtT X 14 dX4_isOther_7 (by decide) (by first | assumption | exact Int32.not_lt.mpr (by assumption) | exact Int32.not_le.mpr (by assumption) | exact Int32.not_lt.mp (by assumption) | exact Int32.not_le.mp (by assumption) | decide) ?_
  refine vIconst X dX4_isOther_14 (v := nI (0)) (by decide) ?_
  exact vRetZ X hret (by rfl) dX4_isOther_15 ⟨rfl, rfl⟩
def vRow (x : Int32) : Prop := nI 0 ≤ x ∧ x ≤ nI 3
theorem mm_isRowF (l : Launch) (D : va_G) (k : Nat → ClassId) (o : Nat → Nat) (pl : va_W) (sb : Nat) (B : Nat → Nat → Int32) (Ln Rm : Nat → Nat) (Rd : Nat → Option Nat) (Pl Mk : Nat → Nat) (G : Nat → Nat → Int32) (Sz : Nat → Nat) (Kp : Nat → Int32) (th : Int32) (x : Int32) (h : ¬ vRow x) : vCt l yX4_isRow cX4_isRow 2 (some .boolean) 0 0 0 0 D vCl (vTy k) sb [.ref (o 0), .int x] (mW k o pl B Ln Rm Rd Pl Mk G Sz Kp th) (vDet (some (.int (nI (0)))) (mW k o pl B Ln Rm Rd Pl Mk G Sz Kp th)) := by
  by_cases h1 : nI 0 ≤ x
  · exact mm_isRowF2 l D k o pl sb B Ln Rm Rd Pl Mk G Sz Kp th x h1 (Int32.not_le.mp (fun q => h ⟨h1, q⟩))
  · exact mm_isRowF1 l D k o pl sb B Ln Rm Rd Pl Mk G Sz Kp th x (Int32.not_le.mp h1)
def vOther (x : Int32) : Prop := nI 0 ≤ x ∧ x ≤ nI 2
theorem mm_isOtherF (l : Launch) (D : va_G) (k : Nat → ClassId) (o : Nat → Nat) (pl : va_W) (sb : Nat) (B : Nat → Nat → Int32) (Ln Rm : Nat → Nat) (Rd : Nat → Option Nat) (Pl Mk : Nat → Nat) (G : Nat → Nat → Int32) (Sz : Nat → Nat) (Kp : Nat → Int32) (th : Int32) (x : Int32) (h : ¬ vOther x) : vCt l yX4_isOther cX4_isOther 2 (some .boolean) 0 0 0 0 D vCl (vTy k) sb [.ref (o 0), .int x] (mW k o pl B Ln Rm Rd Pl Mk G Sz Kp th) (vDet (some (.int (nI (0)))) (mW k o pl B Ln Rm Rd Pl Mk G Sz Kp th)) := by
  by_cases h1 : nI 0 ≤ x
  · exact mm_isOtherF2 l D k o pl sb B Ln Rm Rd Pl Mk G Sz Kp th x h1 (Int32.not_le.mp (fun q => h ⟨h1, q⟩))
  · exact mm_isOtherF1 l D k o pl sb B Ln Rm Rd Pl Mk G Sz Kp th x (Int32.not_le.mp h1)
set_option maxHeartbeats 4000000 in
set_option maxRecDepth 100000 in
theorem mm_long0 (l : Launch) (D : va_G) (k : Nat → ClassId) (o : Nat → Nat) (pl : va_W) (sb : Nat) (B : Nat → Nat → Int32) (Ln Rm : Nat → Nat) (Rd : Nat → Option Nat) (Pl Mk : Nat → Nat) (G : Nat → Nat → Int32) (Sz : Nat → Nat) (Kp : Nat → Int32) (th : Int32) (r : Nat) (h : r < 4) (hR : Rm r < 8) : vCt l yX4_long0 cX4_long0 2 (some .int) 0 0 0 0 D vCl (vTy k) sb [.ref (o 0), .int (nI (r))] (mW k o pl B Ln Rm Rd Pl Mk G Sz Kp th) (vDet (some (.int (nI (Ln (Rm r))))) (mW k o pl B Ln Rm Rd Pl Mk G Sz Kp th)) := by
  refine vOf (by decide +kernel) (Nat.le_of_ble_eq_true rfl) (fun p9 e9 s9 m9 below9 meth9 c9 X hret _ => ?_)
  refine vAloadN X dX4_long0_0 0 rfl ?_
  refine vGet X (C := RX4) (T := TX4) (N := 10) (ci := 4) (vcons inM) rfl 0 rfl 1 (by decide) (List.mem_cons_of_mem _ q_743) (fun _ h => h) rfl dX4_long0_1 ?_
  refine vAloadN X dX4_long0_4 0 rfl ?_
  refine vGet X (C := RX4) (T := TX4) (N := 10) (ci := 4) (vcons inM) rfl 0 rfl 2 (by decide) (List.mem_cons_of_mem _ q_744) (fun _ h => h) rfl dX4_long0_5 ?_
  refine vIloadN X dX4_long0_8 1 rfl ?_
  refine vIaload X (v := nI (Rm (r))) 3 1 rfl rfl rfl (by omega) (by decide) rfl dX4_long0_9 ?_
  refine vIaload X (v := nI (Ln (Rm (r)))) 2 1 rfl rfl rfl (by omega) (by decide) rfl dX4_long0_10 ?_
  exact vRetI X hret dX4_long0_11 ⟨rfl, rfl⟩
theorem vpartF {f n L : Nat} (hf : f < 2 ^ 31) (hn : n < 2 ^ 31) (hL : L ≤ 256) (h : L < f + n) : ¬ nI f ≤ nI L - nI n := by
  intro q
  have h1 := Int32.le_iff_toInt_le.mp q
  rw [Int32.toInt_sub, nI_toInt hf, nI_toInt hn, nI_toInt (by omega)] at h1
  rw [Int.bmod_eq_of_le (by omega) (by omega)] at h1
  omega
set_option maxHeartbeats 4000000 in
set_option maxRecDepth 100000 in
theorem mm_isPartT (l : Launch) (D : va_G) (k : Nat → ClassId) (o : Nat → Nat) (pl : va_W) (sb : Nat) (B : Nat → Nat → Int32) (Ln Rm : Nat → Nat) (Rd : Nat → Option Nat) (Pl Mk : Nat → Nat) (G : Nat → Nat → Int32) (Sz : Nat → Nat) (Kp : Nat → Int32) (th : Int32) (r f n : Nat) (h : r < 4) (hR : Rm r < 8) (hL : Ln (Rm r) ≤ 256) (hp : f + n ≤ Ln (Rm r)) : vCt l yX4_isPart cX4_isPart 4 (some .boolean) 1 21 0 0 D vCl (vTy k) sb [.ref (o 0), .int (nI (r)), .int (nI (f)), .int (nI (n))] (mW k o pl B Ln Rm Rd Pl Mk G Sz Kp th) (vDet (some (.int (nI (1)))) (mW k o pl B Ln Rm Rd Pl Mk G Sz Kp th)) := by
  refine vOf (by decide +kernel) (Nat.le_of_ble_eq_true rfl) (fun p9 e9 s9 m9 below9 meth9 c9 X hret _ => ?_)
  refine vAloadN X dX4_isPart_0 0 rfl ?_
  refine vIloadN X dX4_isPart_1 1 rfl ?_
  refine vCallVd X [] (mm_isRowT l D k o pl sb B Ln Rm Rd Pl Mk G Sz Kp th r (by omega)) (vGV q_782 q_784 q_7 q_29 q_785) ⟨by decide, by decide, (show _ = some 1 from by decide +kernel)⟩ ⟨Nat.le_of_ble_eq_true rfl, Nat.le_of_ble_eq_true rfl⟩ 0 4 rfl rfl rfl rfl (Nat.le_of_ble_eq_true rfl) dX4_isPart_2 ⟨Nat.zero_le _, Nat.zero_le _⟩ ?_
  refine vIfN_eqF X 31 dX4_isPart_5 (by decide) (by omega) (by omega) ?_
  refine vIloadN X dX4_isPart_8 2 rfl ?_
  refine vIfN_ltF X 31 dX4_isPart_9 (by decide) (by omega) (by omega) ?_
  refine vIloadN X dX4_isPart_12 3 rfl ?_
  refine vIfN_ltF X 31 dX4_isPart_13 (by decide) (by omega) (by omega) ?_
  refine vIloadN X dX4_isPart_16 2 rfl ?_
  refine vAloadN X dX4_isPart_17 0 rfl ?_
  refine vIloadN X dX4_isPart_18 1 rfl ?_
  refine vCallVd X [.int (nI (f))] (mm_long0 l D k o pl sb B Ln Rm Rd Pl Mk G Sz Kp th r (by omega) (by omega)) (vGV q_790 q_792 q_9 q_29 q_793) ⟨by decide, by decide, (show _ = some 1 from by decide +kernel)⟩ ⟨Nat.le_of_ble_eq_true rfl, Nat.le_of_ble_eq_true rfl⟩ 0 4 rfl rfl rfl rfl (Nat.le_of_ble_eq_true rfl) dX4_isPart_19 ⟨Nat.zero_le _, Nat.zero_le _⟩ ?_
  refine vIloadN X dX4_isPart_22 3 rfl ?_
  refine vIsub X dX4_isPart_23 (v := nI ((Ln (Rm r)) - (n))) (pk_sub (by omega)) ?_
  refine vIcmpN_gtF X 31 dX4_isPart_24 (by decide) (by omega) (by omega) (by omega) ?_
  refine vIconst X dX4_isPart_27 (v := nI (1)) (by decide) ?_
  refine vGoto X 32 dX4_isPart_28 (by decide) ?_
  exact vRetZ X hret (by rfl) dX4_isPart_32 ⟨rfl, rfl⟩
set_option maxHeartbeats 4000000 in
set_option maxRecDepth 100000 in
theorem mm_isPartF1 (l : Launch) (D : va_G) (k : Nat → ClassId) (o : Nat → Nat) (pl : va_W) (sb : Nat) (B : Nat → Nat → Int32) (Ln Rm : Nat → Nat) (Rd : Nat → Option Nat) (Pl Mk : Nat → Nat) (G : Nat → Nat → Int32) (Sz : Nat → Nat) (Kp : Nat → Int32) (th : Int32) (x f n : Int32) (hx : ¬ vRow x) : vCt l yX4_isPart cX4_isPart 4 (some .boolean) 1 21 0 0 D vCl (vTy k) sb [.ref (o 0), .int (x), .int (f), .int (n)] (mW k o pl B Ln Rm Rd Pl Mk G Sz Kp th) (vDet (some (.int (nI (0)))) (mW k o pl B Ln Rm Rd Pl Mk G Sz Kp th)) := by
  refine vOf (by decide +kernel) (Nat.le_of_ble_eq_true rfl) (fun p9 e9 s9 m9 below9 meth9 c9 X hret _ => ?_)
  refine vAloadN X dX4_isPart_0 0 rfl ?_
  refine vIloadN X dX4_isPart_1 1 rfl ?_
  refine vCallVd X [] (mm_isRowF l D k o pl sb B Ln Rm Rd Pl Mk G Sz Kp th x hx) (vGV q_782 q_784 q_7 q_29 q_785) ⟨by decide, by decide, (show _ = some 1 from by decide +kernel)⟩ ⟨Nat.le_of_ble_eq_true rfl, Nat.le_of_ble_eq_true rfl⟩ 0 4 rfl rfl rfl rfl (Nat.le_of_ble_eq_true rfl) dX4_isPart_2 ⟨Nat.zero_le _, Nat.zero_le _⟩ ?_
  refine vIfN_eqT X 31 dX4_isPart_5 (by decide) (by omega) (by omega) ?_
  refine vIconst X dX4_isPart_31 (v := nI (0)) (by decide) ?_
  exact vRetZ X hret (by rfl) dX4_isPart_32 ⟨rfl, rfl⟩
set_option maxHeartbeats 4000000 in
set_option maxRecDepth 100000 in
theorem mm_isPartF2 (l : Launch) (D : va_G) (k : Nat → ClassId) (o : Nat → Nat) (pl : va_W) (sb : Nat) (B : Nat → Nat → Int32) (Ln Rm : Nat → Nat) (Rd : Nat → Option Nat) (Pl Mk : Nat → Nat) (G : Nat → Nat → Int32) (Sz : Nat → Nat) (Kp : Nat → Int32) (th : Int32) (r : Nat) (f n : Int32) (h : r < 4) (hf : f < nI 0) : vCt l yX4_isPart cX4_isPart 4 (some .boolean) 1 21 0 0 D vCl (vTy k) sb [.ref (o 0), .int (nI (r)), .int (f), .int (n)] (mW k o pl B Ln Rm Rd Pl Mk G Sz Kp th) (vDet (some (.int (nI (0)))) (mW k o pl B Ln Rm Rd Pl Mk G Sz Kp th)) := by
  refine vOf (by decide +kernel) (Nat.le_of_ble_eq_true rfl) (fun p9 e9 s9 m9 below9 meth9 c9 X hret _ => ?_)
  refine vAloadN X dX4_isPart_0 0 rfl ?_
  refine vIloadN X dX4_isPart_1 1 rfl ?_
  refine vCallVd X [] (mm_isRowT l D k o pl sb B Ln Rm Rd Pl Mk G Sz Kp th r (by omega)) (vGV q_782 q_784 q_7 q_29 q_785) ⟨by decide, by decide, (show _ = some 1 from by decide +kernel)⟩ ⟨Nat.le_of_ble_eq_true rfl, Nat.le_of_ble_eq_true rfl⟩ 0 4 rfl rfl rfl rfl (Nat.le_of_ble_eq_true rfl) dX4_isPart_2 ⟨Nat.zero_le _, Nat.zero_le _⟩ ?_
  refine vIfN_eqF X 31 dX4_isPart_5 (by decide) (by omega) (by omega) ?_
  refine vIloadN X dX4_isPart_8 2 rfl ?_
  refine vIf_ltT X 31 dX4_isPart_9 (by decide) (by first | assumption | exact Int32.not_lt.mpr (by assumption) | exact Int32.not_le.mpr (by assumption) | exact Int32.not_lt.mp (by assumption) | exact Int32.not_le.mp (by assumption) | decide) ?_
  refine vIconst X dX4_isPart_31 (v := nI (0)) (by decide) ?_
  exact vRetZ X hret (by rfl) dX4_isPart_32 ⟨rfl, rfl⟩
set_option maxHeartbeats 4000000 in
set_option maxRecDepth 100000 in
theorem mm_isPartF3 (l : Launch) (D : va_G) (k : Nat → ClassId) (o : Nat → Nat) (pl : va_W) (sb : Nat) (B : Nat → Nat → Int32) (Ln Rm : Nat → Nat) (Rd : Nat → Option Nat) (Pl Mk : Nat → Nat) (G : Nat → Nat → Int32) (Sz : Nat → Nat) (Kp : Nat → Int32) (th : Int32) (r f : Nat) (n : Int32) (h : r < 4) (hf : f < 2 ^ 31) (hn : n < nI 0) : vCt l yX4_isPart cX4_isPart 4 (some .boolean) 1 21 0 0 D vCl (vTy k) sb [.ref (o 0), .int (nI (r)), .int (nI (f)), .int (n)] (mW k o pl B Ln Rm Rd Pl Mk G Sz Kp th) (vDet (some (.int (nI (0)))) (mW k o pl B Ln Rm Rd Pl Mk G Sz Kp th)) := by
  refine vOf (by decide +kernel) (Nat.le_of_ble_eq_true rfl) (fun p9 e9 s9 m9 below9 meth9 c9 X hret _ => ?_)
  refine vAloadN X dX4_isPart_0 0 rfl ?_
  refine vIloadN X dX4_isPart_1 1 rfl ?_
  refine vCallVd X [] (mm_isRowT l D k o pl sb B Ln Rm Rd Pl Mk G Sz Kp th r (by omega)) (vGV q_782 q_784 q_7 q_29 q_785) ⟨by decide, by decide, (show _ = some 1 from by decide +kernel)⟩ ⟨Nat.le_of_ble_eq_true rfl, Nat.le_of_ble_eq_true rfl⟩ 0 4 rfl rfl rfl rfl (Nat.le_of_ble_eq_true rfl) dX4_isPart_2 ⟨Nat.zero_le _, Nat.zero_le _⟩ ?_
  refine vIfN_eqF X 31 dX4_isPart_5 (by decide) (by omega) (by omega) ?_
  refine vIloadN X dX4_isPart_8 2 rfl ?_
  refine vIfN_ltF X 31 dX4_isPart_9 (by decide) (by omega) (by omega) ?_
  refine vIloadN X dX4_isPart_12 3 rfl ?_
  refine vIf_ltT X 31 dX4_isPart_13 (by decide) (by first | assumption | exact Int32.not_lt.mpr (by assumption) | exact Int32.not_le.mpr (by assumption) | exact Int32.not_lt.mp (by assumption) | exact Int32.not_le.mp (by assumption) | decide) ?_
  refine vIconst X dX4_isPart_31 (v := nI (0)) (by decide) ?_
  exact vRetZ X hret (by rfl) dX4_isPart_32 ⟨rfl, rfl⟩
set_option maxHeartbeats 4000000 in
set_option maxRecDepth 100000 in
theorem mm_isPartF4 (l : Launch) (D : va_G) (k : Nat → ClassId) (o : Nat → Nat) (pl : va_W) (sb : Nat) (B : Nat → Nat → Int32) (Ln Rm : Nat → Nat) (Rd : Nat → Option Nat) (Pl Mk : Nat → Nat) (G : Nat → Nat → Int32) (Sz : Nat → Nat) (Kp : Nat → Int32) (th : Int32) (r f n : Nat) (h : r < 4) (hR : Rm r < 8) (hL : Ln (Rm r) ≤ 256) (hf : f < 2 ^ 31) (hn : n < 2 ^ 31) (hp : Ln (Rm r) < f + n) : vCt l yX4_isPart cX4_isPart 4 (some .boolean) 1 21 0 0 D vCl (vTy k) sb [.ref (o 0), .int (nI (r)), .int (nI (f)), .int (nI (n))] (mW k o pl B Ln Rm Rd Pl Mk G Sz Kp th) (vDet (some (.int (nI (0)))) (mW k o pl B Ln Rm Rd Pl Mk G Sz Kp th)) := by
  refine vOf (by decide +kernel) (Nat.le_of_ble_eq_true rfl) (fun p9 e9 s9 m9 below9 meth9 c9 X hret _ => ?_)
  refine vAloadN X dX4_isPart_0 0 rfl ?_
  refine vIloadN X dX4_isPart_1 1 rfl ?_
  refine vCallVd X [] (mm_isRowT l D k o pl sb B Ln Rm Rd Pl Mk G Sz Kp th r (by omega)) (vGV q_782 q_784 q_7 q_29 q_785) ⟨by decide, by decide, (show _ = some 1 from by decide +kernel)⟩ ⟨Nat.le_of_ble_eq_true rfl, Nat.le_of_ble_eq_true rfl⟩ 0 4 rfl rfl rfl rfl (Nat.le_of_ble_eq_true rfl) dX4_isPart_2 ⟨Nat.zero_le _, Nat.zero_le _⟩ ?_
  refine vIfN_eqF X 31 dX4_isPart_5 (by decide) (by omega) (by omega) ?_
  refine vIloadN X dX4_isPart_8 2 rfl ?_
  refine vIfN_ltF X 31 dX4_isPart_9 (by decide) (by omega) (by omega) ?_
  refine vIloadN X dX4_isPart_12 3 rfl ?_
  refine vIfN_ltF X 31 dX4_isPart_13 (by decide) (by omega) (by omega) ?_
  refine vIloadN X dX4_isPart_16 2 rfl ?_
  refine vAloadN X dX4_isPart_17 0 rfl ?_
  refine vIloadN X dX4_isPart_18 1 rfl ?_
  refine vCallVd X [.int (nI (f))] (mm_long0 l D k o pl sb B Ln Rm Rd Pl Mk G Sz Kp th r (by omega) (by omega)) (vGV q_790 q_792 q_9 q_29 q_793) ⟨by decide, by decide, (show _ = some 1 from by decide +kernel)⟩ ⟨Nat.le_of_ble_eq_true rfl, Nat.le_of_ble_eq_true rfl⟩ 0 4 rfl rfl rfl rfl (Nat.le_of_ble_eq_true rfl) dX4_isPart_19 ⟨Nat.zero_le _, Nat.zero_le _⟩ ?_
  refine vIloadN X dX4_isPart_22 3 rfl ?_
  refine vIsub X dX4_isPart_23 (v := (nI (Ln (Rm r))) - (nI (n))) rfl ?_
  refine vIcmp_gtT X 31 dX4_isPart_24 (by decide) (Int32.not_le.mp (vpartF hf hn hL hp)) ?_
  refine vIconst X dX4_isPart_31 (v := nI (0)) (by decide) ?_
  exact vRetZ X hret (by rfl) dX4_isPart_32 ⟨rfl, rfl⟩
