set_option maxHeartbeats 4000000 in
set_option maxRecDepth 100000 in
theorem mL_find {p9 : Program} {l : Launch} {e9 : Env} {s9 : State} {m9 : MethodId} {args9 : Array Value} {below9 : List Frame} {meth9 : Method} {c9 : Code} {Q9 : State → Prop} (D : va_G) (k : Nat → ClassId) (o : Nat → Nat) (pl : va_W) (sb : Nat) (B : Nat → Nat → Int32) (Ln Rm : Nat → Nat) (Rd : Nat → Option Nat) (Pl Mk : Nat → Nat) (G : Nat → Nat → Int32) (Sz : Nat → Nat) (Kp : Nat → Int32) (th : Int32) (g a n : Nat) (v : Int32) (hg : g < 3) (hgRd : Rd g = some a) (ha : a < 8) (hla : Ln a ≤ 256) (hpl : Pl g ≤ Ln a) (hn : n ≤ Ln a - Pl g) (hnv : ∀ j, j < n → ¬ (B a (Pl g + j)) &&& nI 255 = v) (X : vCX p9 s9 m9 args9 meth9 c9 cX4_find 5 yX4_find.cls (Cond.code yX4_find cX4_find 5 (some .int) :: vGW) D vCl (vTy k) sb) (hex : vV p9 l e9 ({ frames := 2, cells := 0, slots := 0, locals := 42 }) s9 m9 args9 below9 meth9 c9 5 D vCl sb Q9 (mW k o pl B Ln Rm Rd (va_up Pl g (Pl g + n)) Mk G Sz Kp th) 0 0 15 [(4, .int (nI (0))), (3, .int (nI (n))), (0, .ref (o 0)), (1, .int (nI (g))), (2, .int (v))] []) : ∀ (z i : Nat) (P1 : Nat → Nat), i + z = n → P1 = va_up Pl g (Pl g + i) → vV p9 l e9 ({ frames := 2, cells := 0, slots := 0, locals := 42 }) s9 m9 args9 below9 meth9 c9 5 D vCl sb Q9 (mW k o pl B Ln Rm Rd P1 Mk G Sz Kp th) 0 0 15 [(4, .int (nI (0))), (3, .int (nI (i))), (0, .ref (o 0)), (1, .int (nI (g))), (2, .int (v))] [] := by
  intro z
  induction z with
  | zero =>
    intro i P1 hi hP1
    have hin : n = i := by omega
    subst hin
    subst hP1
    exact hex
  | succ z ih =>
    intro i P1 hi hP1
    have hPg : P1 g = Pl g + i := by rw [hP1, va_up_eq]
    refine vIload X dX4_find_15 0 rfl ?_
    refine vIfN_neF X 64 dX4_find_17 (by decide) (by omega) (by omega) ?_
    refine vAloadN X dX4_find_20 2 rfl ?_
    refine vIloadN X dX4_find_21 3 rfl ?_
    refine vCallVd X [] (mm_leftOf l D k o pl sb B Ln Rm Rd P1 Mk G Sz Kp th g a (Pl g + i) (by omega) hgRd (by omega) (by omega) hPg (by omega)) (vGV q_879 q_881 q_17 q_29 q_882) ⟨by decide, by decide, (show _ = some 1 from by decide +kernel)⟩ ⟨Nat.le_of_ble_eq_true rfl, Nat.le_of_ble_eq_true rfl⟩ 0 4 rfl rfl rfl rfl (Nat.le_of_ble_eq_true rfl) dX4_find_22 ⟨Nat.zero_le _, Nat.zero_le _⟩ ?_
    refine vIfN_leF X 64 dX4_find_25 (by decide) (by omega) (by omega) ?_
    refine vAloadN X dX4_find_28 2 rfl ?_
    refine vIloadN X dX4_find_29 3 rfl ?_
    refine vCallVd X [] (mm_next l D k o pl sb B Ln Rm Rd P1 Mk G Sz Kp th g a (Pl g + i) (by omega) hgRd (by omega) hPg (by omega)) (vGV q_911 q_913 q_22 q_29 q_914) ⟨by decide, by decide, (show _ = some 1 from by decide +kernel)⟩ ⟨Nat.le_of_ble_eq_true rfl, Nat.le_of_ble_eq_true rfl⟩ 0 4 rfl rfl rfl rfl (Nat.le_of_ble_eq_true rfl) dX4_find_30 ⟨Nat.zero_le _, Nat.zero_le _⟩ ?_
    refine vSipush X dX4_find_33 (v := nI (255)) (by decide) ?_
    refine vIand X dX4_find_36 (v := (B a (Pl g + i)) &&& (nI (255))) rfl ?_
    refine vIloadN X dX4_find_37 4 rfl ?_
    refine vIcmp_neT X 45 dX4_find_38 (by decide) (hnv i (by omega)) ?_
    refine vIconst X dX4_find_45 (v := nI (0)) (by decide) ?_
    refine vIstore X [(4, .int (nI (0))), (3, .int (nI (i))), (0, .ref (o 0)), (1, .int (nI (g))), (2, .int (v))] dX4_find_46 (by decide) rfl ?_
    refine vAloadN X dX4_find_48 2 rfl ?_
    refine vGet X (C := RX4) (T := TX4) (N := 10) (ci := 4) (vcons inM) rfl 0 rfl 4 (by decide) (List.mem_cons_of_mem _ q_746) (fun _ h => h) rfl dX4_find_49 ?_
    refine vIloadN X dX4_find_52 3 rfl ?_
    refine vDup2 X dX4_find_53 rfl rfl ?_
    refine vIaload X (v := nI (Pl g + i)) 5 1 rfl rfl rfl (by omega) (by decide) (congrArg nI hPg) dX4_find_54 ?_
    refine vIconst X dX4_find_55 (v := nI (1)) (by decide) ?_
    refine vIadd X dX4_find_56 (v := nI ((Pl g + i) + (1))) (nI_add _ _) ?_
    refine vIastore X (g := (fun q => nI ((va_up P1 (g) ((Pl g + i) + (1))) q))) 5 1 rfl rfl rfl (by omega) (by decide) (nI_up _ _ _) dX4_find_57 ?_
    refine vWs (ws' := mW k o pl B Ln Rm Rd (va_up P1 (g) ((Pl g + i) + (1))) Mk G Sz Kp th) rfl ?_
    refine vIinc X [(3, .int (nI (i + 1))), (4, .int (nI (0))), (0, .ref (o 0)), (1, .int (nI (g))), (2, .int (v))] dX4_find_58 1 rfl (nI_inc _) (by decide) rfl ?_
    refine vGoto X 15 dX4_find_61 (by decide) ?_
    refine vSub [1, 0, 2, 3, 4] [(4, .int (nI (0))), (3, .int (nI (i + 1))), (0, .ref (o 0)), (1, .int (nI (g))), (2, .int (v))] rfl ?_
    exact ih (i + 1) _ (by omega) (by rw [hP1, va_up_up]; rfl)
set_option maxHeartbeats 4000000 in
set_option maxRecDepth 100000 in
theorem mm_find0a (l : Launch) (D : va_G) (k : Nat → ClassId) (o : Nat → Nat) (pl : va_W) (sb : Nat) (B : Nat → Nat → Int32) (Ln Rm : Nat → Nat) (Rd : Nat → Option Nat) (Pl Mk : Nat → Nat) (G : Nat → Nat → Int32) (Sz : Nat → Nat) (Kp : Nat → Int32) (th : Int32) (g a n : Nat) (v : Int32) (hg : g < 3) (hgRd : Rd g = some a) (ha : a < 8) (hla : Ln a ≤ 256) (hpl : Pl g ≤ Ln a) (hn : n ≤ Ln a - Pl g) (hnv : ∀ j, j < n → ¬ (B a (Pl g + j)) &&& nI 255 = v) (he : n = Ln a - Pl g) : vCt l yX4_find cX4_find 5 (some .int) 2 42 0 0 D vCl (vTy k) sb [.ref (o 0), .int (nI (g)), .int (v)] (mW k o pl B Ln Rm Rd Pl Mk G Sz Kp th) (vDet (some (.int ((-1 : Int32) - (nI n)))) (mW k o pl B Ln Rm Rd (va_up Pl g (Pl g + n)) Mk G Sz Kp (nI 0))) := by
  refine vOf (by decide +kernel) (Nat.le_of_ble_eq_true rfl) (fun p9 e9 s9 m9 below9 meth9 c9 X hret _ => ?_)
  refine vAloadN X dX4_find_0 0 rfl ?_
  refine vIloadN X dX4_find_1 1 rfl ?_
  refine vCallVd X [] (mm_isShut0 l D k o pl sb B Ln Rm Rd Pl Mk G Sz Kp th g a hg hgRd ha) (vGV q_891 q_893 q_18 q_29 q_894) ⟨by decide, by decide, (show _ = some 1 from by decide +kernel)⟩ ⟨Nat.le_of_ble_eq_true rfl, Nat.le_of_ble_eq_true rfl⟩ 0 4 rfl rfl rfl rfl (Nat.le_of_ble_eq_true rfl) dX4_find_2 ⟨Nat.zero_le _, Nat.zero_le _⟩ ?_
  refine vIfN_eqT X 10 dX4_find_5 (by decide) (by omega) (by omega) ?_
  refine vIconst X dX4_find_10 (v := nI (0)) (by decide) ?_
  refine vIstoreN X [(3, .int (nI (0))), (0, .ref (o 0)), (1, .int (nI (g))), (2, .int (v))] dX4_find_11 (by decide) rfl ?_
  refine vIconst X dX4_find_12 (v := nI (0)) (by decide) ?_
  refine vIstore X [(4, .int (nI (0))), (3, .int (nI (0))), (0, .ref (o 0)), (1, .int (nI (g))), (2, .int (v))] dX4_find_13 (by decide) rfl ?_
  refine vSub [0, 1, 2, 3, 4] [(4, .int (nI (0))), (3, .int (nI (0))), (0, .ref (o 0)), (1, .int (nI (g))), (2, .int (v))] rfl ?_
  refine mL_find D k o pl sb B Ln Rm Rd Pl Mk G Sz Kp (nI 0) g a n v hg hgRd ha hla hpl hn hnv X ?_ (n) 0 _ (by omega) (va_up_id _ _ _ rfl)
  refine vIload X dX4_find_15 0 rfl ?_
  refine vIfN_neF X 64 dX4_find_17 (by decide) (by omega) (by omega) ?_
  refine vAloadN X dX4_find_20 2 rfl ?_
  refine vIloadN X dX4_find_21 3 rfl ?_
  refine vCallVd X [] (mm_leftOf l D k o pl sb B Ln Rm Rd (va_up Pl g (Pl g + n)) Mk G Sz Kp (nI 0) g a (Pl g + n) (by omega) hgRd (by omega) (by omega) (va_up_eq _ _ _) (by omega)) (vGV q_879 q_881 q_17 q_29 q_882) ⟨by decide, by decide, (show _ = some 1 from by decide +kernel)⟩ ⟨Nat.le_of_ble_eq_true rfl, Nat.le_of_ble_eq_true rfl⟩ 0 4 rfl rfl rfl rfl (Nat.le_of_ble_eq_true rfl) dX4_find_22 ⟨Nat.zero_le _, Nat.zero_le _⟩ ?_
  refine vIfN_leT X 64 dX4_find_25 (by decide) (by omega) (by omega) ?_
  refine vIload X dX4_find_64 0 rfl ?_
  refine vIfN_eqT X 73 dX4_find_66 (by decide) (by omega) (by omega) ?_
  refine vIconst X dX4_find_73 (v := (-1 : Int32)) (by decide) ?_
  refine vIloadN X dX4_find_74 1 rfl ?_
  refine vIsub X dX4_find_75 (v := ((-1 : Int32)) - (nI (n))) rfl ?_
  exact vRetI X hret dX4_find_76 ⟨rfl, rfl⟩
set_option maxHeartbeats 4000000 in
set_option maxRecDepth 100000 in
theorem mm_find0b (l : Launch) (D : va_G) (k : Nat → ClassId) (o : Nat → Nat) (pl : va_W) (sb : Nat) (B : Nat → Nat → Int32) (Ln Rm : Nat → Nat) (Rd : Nat → Option Nat) (Pl Mk : Nat → Nat) (G : Nat → Nat → Int32) (Sz : Nat → Nat) (Kp : Nat → Int32) (th : Int32) (g a n : Nat) (v : Int32) (hg : g < 3) (hgRd : Rd g = some a) (ha : a < 8) (hla : Ln a ≤ 256) (hpl : Pl g ≤ Ln a) (hn : n ≤ Ln a - Pl g) (hnv : ∀ j, j < n → ¬ (B a (Pl g + j)) &&& nI 255 = v) (he : n < Ln a - Pl g) (hb : (B a (Pl g + n)) &&& nI 255 = v) : vCt l yX4_find cX4_find 5 (some .int) 2 42 0 0 D vCl (vTy k) sb [.ref (o 0), .int (nI (g)), .int (v)] (mW k o pl B Ln Rm Rd Pl Mk G Sz Kp th) (vDet (some (.int (nI (n + 1)))) (mW k o pl B Ln Rm Rd (va_up Pl g (Pl g + (n + 1))) Mk G Sz Kp (nI 0))) := by
  refine vOf (by decide +kernel) (Nat.le_of_ble_eq_true rfl) (fun p9 e9 s9 m9 below9 meth9 c9 X hret _ => ?_)
  refine vAloadN X dX4_find_0 0 rfl ?_
  refine vIloadN X dX4_find_1 1 rfl ?_
  refine vCallVd X [] (mm_isShut0 l D k o pl sb B Ln Rm Rd Pl Mk G Sz Kp th g a hg hgRd ha) (vGV q_891 q_893 q_18 q_29 q_894) ⟨by decide, by decide, (show _ = some 1 from by decide +kernel)⟩ ⟨Nat.le_of_ble_eq_true rfl, Nat.le_of_ble_eq_true rfl⟩ 0 4 rfl rfl rfl rfl (Nat.le_of_ble_eq_true rfl) dX4_find_2 ⟨Nat.zero_le _, Nat.zero_le _⟩ ?_
  refine vIfN_eqT X 10 dX4_find_5 (by decide) (by omega) (by omega) ?_
  refine vIconst X dX4_find_10 (v := nI (0)) (by decide) ?_
  refine vIstoreN X [(3, .int (nI (0))), (0, .ref (o 0)), (1, .int (nI (g))), (2, .int (v))] dX4_find_11 (by decide) rfl ?_
  refine vIconst X dX4_find_12 (v := nI (0)) (by decide) ?_
  refine vIstore X [(4, .int (nI (0))), (3, .int (nI (0))), (0, .ref (o 0)), (1, .int (nI (g))), (2, .int (v))] dX4_find_13 (by decide) rfl ?_
  refine vSub [0, 1, 2, 3, 4] [(4, .int (nI (0))), (3, .int (nI (0))), (0, .ref (o 0)), (1, .int (nI (g))), (2, .int (v))] rfl ?_
  refine mL_find D k o pl sb B Ln Rm Rd Pl Mk G Sz Kp (nI 0) g a n v hg hgRd ha hla hpl hn hnv X ?_ (n) 0 _ (by omega) (va_up_id _ _ _ rfl)
  refine vIload X dX4_find_15 0 rfl ?_
  refine vIfN_neF X 64 dX4_find_17 (by decide) (by omega) (by omega) ?_
  refine vAloadN X dX4_find_20 2 rfl ?_
  refine vIloadN X dX4_find_21 3 rfl ?_
  refine vCallVd X [] (mm_leftOf l D k o pl sb B Ln Rm Rd (va_up Pl g (Pl g + n)) Mk G Sz Kp (nI 0) g a (Pl g + n) (by omega) hgRd (by omega) (by omega) (va_up_eq _ _ _) (by omega)) (vGV q_879 q_881 q_17 q_29 q_882) ⟨by decide, by decide, (show _ = some 1 from by decide +kernel)⟩ ⟨Nat.le_of_ble_eq_true rfl, Nat.le_of_ble_eq_true rfl⟩ 0 4 rfl rfl rfl rfl (Nat.le_of_ble_eq_true rfl) dX4_find_22 ⟨Nat.zero_le _, Nat.zero_le _⟩ ?_
  refine vIfN_leF X 64 dX4_find_25 (by decide) (by omega) (by omega) ?_
  refine vAloadN X dX4_find_28 2 rfl ?_
  refine vIloadN X dX4_find_29 3 rfl ?_
  refine vCallVd X [] (mm_next l D k o pl sb B Ln Rm Rd (va_up Pl g (Pl g + n)) Mk G Sz Kp (nI 0) g a (Pl g + n) (by omega) hgRd (by omega) (va_up_eq _ _ _) (by omega)) (vGV q_911 q_913 q_22 q_29 q_914) ⟨by decide, by decide, (show _ = some 1 from by decide +kernel)⟩ ⟨Nat.le_of_ble_eq_true rfl, Nat.le_of_ble_eq_true rfl⟩ 0 4 rfl rfl rfl rfl (Nat.le_of_ble_eq_true rfl) dX4_find_30 ⟨Nat.zero_le _, Nat.zero_le _⟩ ?_
  refine vSipush X dX4_find_33 (v := nI (255)) (by decide) ?_
  refine vIand X dX4_find_36 (v := (B a (Pl g + n)) &&& (nI (255))) rfl ?_
  refine vIloadN X dX4_find_37 4 rfl ?_
  refine vIcmp_neF X 45 dX4_find_38 (by decide) (by simpa using hb) ?_
  refine vIconst X dX4_find_41 (v := nI (1)) (by decide) ?_
  refine vGoto X 46 dX4_find_42 (by decide) ?_
  refine vIstore X [(4, .int (nI (1))), (3, .int (nI (n))), (0, .ref (o 0)), (1, .int (nI (g))), (2, .int (v))] dX4_find_46 (by decide) rfl ?_
  refine vAloadN X dX4_find_48 2 rfl ?_
  refine vGet X (C := RX4) (T := TX4) (N := 10) (ci := 4) (vcons inM) rfl 0 rfl 4 (by decide) (List.mem_cons_of_mem _ q_746) (fun _ h => h) rfl dX4_find_49 ?_
  refine vIloadN X dX4_find_52 3 rfl ?_
  refine vDup2 X dX4_find_53 rfl rfl ?_
  refine vIaload X (v := nI (Pl g + n)) 5 1 rfl rfl rfl (by omega) (by decide) (congrArg nI (va_up_eq _ _ _)) dX4_find_54 ?_
  refine vIconst X dX4_find_55 (v := nI (1)) (by decide) ?_
  refine vIadd X dX4_find_56 (v := nI ((Pl g + n) + (1))) (nI_add _ _) ?_
  refine vIastore X (g := (fun q => nI ((va_up (va_up Pl g (Pl g + n)) (g) ((Pl g + n) + (1))) q))) 5 1 rfl rfl rfl (by omega) (by decide) (nI_up _ _ _) dX4_find_57 ?_
  refine vWs (ws' := mW k o pl B Ln Rm Rd (va_up (va_up Pl g (Pl g + n)) (g) ((Pl g + n) + (1))) Mk G Sz Kp (nI 0)) rfl ?_
  refine vIinc X [(3, .int (nI (n + 1))), (4, .int (nI (1))), (0, .ref (o 0)), (1, .int (nI (g))), (2, .int (v))] dX4_find_58 1 rfl (nI_inc _) (by decide) rfl ?_
  refine vGoto X 15 dX4_find_61 (by decide) ?_
  refine vIload X dX4_find_15 1 rfl ?_
  refine vIfN_neT X 64 dX4_find_17 (by decide) (by omega) (by omega) ?_
  refine vIload X dX4_find_64 1 rfl ?_
  refine vIfN_eqF X 73 dX4_find_66 (by decide) (by omega) (by omega) ?_
  refine vIloadN X dX4_find_69 0 rfl ?_
  refine vGoto X 76 dX4_find_70 (by decide) ?_
  exact vRetI X hret dX4_find_76 ⟨rfl, by rw [va_up_up]; rfl⟩
theorem lgc_neg {x : Int64} (h : x < lN 0) : ¬ (0 : Int32) ≤ lg_cmp x (lN 0) := by
  have h1 : ¬ lN 0 < x := fun q => by
    have a := Int64.lt_iff_toInt_lt.mp h
    have b := Int64.lt_iff_toInt_lt.mp q
    omega
  have h3 : ¬ x = lN 0 := fun q => by rw [q] at h; exact absurd h (by decide)
  simp only [lg_cmp, h1, h3, if_false]
  decide
theorem lgc_ge {a b : Nat} (ha : a < 2 ^ 63) (hb : b < 2 ^ 63) (h : b ≤ a) : (0 : Int32) ≤ lg_cmp (lN a) (lN b) := by
  rcases Nat.lt_or_ge b a with q | q
  · have h2 : lN b < lN a := (pk_lLT hb ha).mpr q
    simp only [lg_cmp, h2, if_true, gt_iff_lt]; decide
  · have h3 : a = b := by omega
    subst h3
    have h2 : ¬ lN a < lN a := fun q => by
      have := (pk_lLT ha ha).mp q
      omega
    simp only [lg_cmp, h2, if_false, if_true, gt_iff_lt]; decide
theorem lgc_lt {a b : Nat} (ha : a < 2 ^ 63) (hb : b < 2 ^ 63) (h : a < b) : ¬ (0 : Int32) ≤ lg_cmp (lN a) (lN b) := by
  have h1 : lN a < lN b := (pk_lLT ha hb).mpr h
  have h2 : ¬ lN b < lN a := fun q => by
    have := (pk_lLT hb ha).mp q
    omega
  have h3 : ¬ lN a = lN b := fun q => by
    have := (pk_lEQ ha hb).mp q
    omega
  simp only [lg_cmp, h2, h3, if_false]
  decide
theorem va_up4 {L : Nat → Nat} {g u x y x2 y2 : Nat} (h : ¬ g = u) : va_up (va_up (va_up (va_up L g x) u y) g x2) u y2 = va_up (va_up L g x2) u y2 := by
  funext q
  by_cases q1 : q = u
  · simp [va_up, q1]
  · by_cases q2 : q = g
    · simp [va_up, q2, h]
    · simp [va_up, q1, q2]
theorem va_up2_id {L : Nat → Nat} {g u : Nat} (h : ¬ g = u) : L = va_up (va_up L g (L g + 0)) u (L u + 0) := by
  funext q
  by_cases q1 : q = u
  · simp [va_up, q1]
  · by_cases q2 : q = g
    · simp [va_up, q2, h]
    · simp [va_up, q1, q2]
set_option maxHeartbeats 4000000 in
set_option maxRecDepth 100000 in
theorem mm_skip1 (l : Launch) (D : va_G) (k : Nat → ClassId) (o : Nat → Nat) (pl : va_W) (sb : Nat) (B : Nat → Nat → Int32) (Ln Rm : Nat → Nat) (Rd : Nat → Option Nat) (Pl Mk : Nat → Nat) (G : Nat → Nat → Int32) (Sz : Nat → Nat) (Kp : Nat → Int32) (th : Int32) (x : Int32) (v : Int64) (hx : ¬ vOther x) : vCt l yX4_skip cX4_skip 5 (some .long) 1 21 0 0 D vCl (vTy k) sb [.ref (o 0), .int (x), .long (v)] (mW k o pl B Ln Rm Rd Pl Mk G Sz Kp th) (vDet (some (.long (lN 0))) (mW k o pl B Ln Rm Rd Pl Mk G Sz Kp (nI (1)))) := by
  refine vOf (by decide +kernel) (Nat.le_of_ble_eq_true rfl) (fun p9 e9 s9 m9 below9 meth9 c9 X hret _ => ?_)
  refine vAloadN X dX4_skip_0 0 rfl ?_
  refine vAloadN X dX4_skip_1 0 rfl ?_
  refine vIloadN X dX4_skip_2 1 rfl ?_
  refine vCallVd X [.ref (o 0)] (mm_isOtherF l D k o pl sb B Ln Rm Rd Pl Mk G Sz Kp th x hx) (vGV q_838 q_840 q_14 q_29 q_841) ⟨by decide, by decide, (show _ = some 1 from by decide +kernel)⟩ ⟨Nat.le_of_ble_eq_true rfl, Nat.le_of_ble_eq_true rfl⟩ 0 4 rfl rfl rfl rfl (Nat.le_of_ble_eq_true rfl) dX4_skip_3 ⟨Nat.zero_le _, Nat.zero_le _⟩ ?_
  refine vIfN_neF X 13 dX4_skip_6 (by decide) (by omega) (by omega) ?_
  refine vIconst X dX4_skip_9 (v := nI (1)) (by decide) ?_
  refine vGoto X 37 dX4_skip_10 (by decide) ?_
  refine vCallVd X [] (mm_isWrong1 l D k o pl sb B Ln Rm Rd Pl Mk G Sz Kp th 1 (by decide) (by decide)) (vGV q_786 q_788 q_8 q_29 q_789) ⟨by decide, by decide, (show _ = some 1 from by decide +kernel)⟩ ⟨Nat.le_of_ble_eq_true rfl, Nat.le_of_ble_eq_true rfl⟩ 0 4 rfl rfl rfl rfl (Nat.le_of_ble_eq_true rfl) dX4_skip_37 ⟨Nat.zero_le _, Nat.zero_le _⟩ ?_
  refine vIfN_eqF X 45 dX4_skip_40 (by decide) (by omega) (by omega) ?_
  refine vLconst X dX4_skip_43 (v := lN 0) (by decide) ?_
  exact vRetL X hret dX4_skip_44 ⟨rfl, rfl⟩
set_option maxHeartbeats 4000000 in
set_option maxRecDepth 100000 in
theorem mm_skip2 (l : Launch) (D : va_G) (k : Nat → ClassId) (o : Nat → Nat) (pl : va_W) (sb : Nat) (B : Nat → Nat → Int32) (Ln Rm : Nat → Nat) (Rd : Nat → Option Nat) (Pl Mk : Nat → Nat) (G : Nat → Nat → Int32) (Sz : Nat → Nat) (Kp : Nat → Int32) (th : Int32) (g : Nat) (v : Int64) (hg : g < 3) (hv : v < lN 0) : vCt l yX4_skip cX4_skip 5 (some .long) 1 21 0 0 D vCl (vTy k) sb [.ref (o 0), .int (nI (g)), .long (v)] (mW k o pl B Ln Rm Rd Pl Mk G Sz Kp th) (vDet (some (.long (lN 0))) (mW k o pl B Ln Rm Rd Pl Mk G Sz Kp (nI (2)))) := by
  refine vOf (by decide +kernel) (Nat.le_of_ble_eq_true rfl) (fun p9 e9 s9 m9 below9 meth9 c9 X hret _ => ?_)
  refine vAloadN X dX4_skip_0 0 rfl ?_
  refine vAloadN X dX4_skip_1 0 rfl ?_
  refine vIloadN X dX4_skip_2 1 rfl ?_
  refine vCallVd X [.ref (o 0)] (mm_isOtherT l D k o pl sb B Ln Rm Rd Pl Mk G Sz Kp th g (by omega)) (vGV q_838 q_840 q_14 q_29 q_841) ⟨by decide, by decide, (show _ = some 1 from by decide +kernel)⟩ ⟨Nat.le_of_ble_eq_true rfl, Nat.le_of_ble_eq_true rfl⟩ 0 4 rfl rfl rfl rfl (Nat.le_of_ble_eq_true rfl) dX4_skip_3 ⟨Nat.zero_le _, Nat.zero_le _⟩ ?_
  refine vIfN_neT X 13 dX4_skip_6 (by decide) (by omega) (by omega) ?_
  refine vLloadN X dX4_skip_13 2 rfl ?_
  refine vLconst X dX4_skip_14 (v := lN 0) (by decide) ?_
  refine vLcmp X dX4_skip_15 ?_
  refine vIf_geF X 23 dX4_skip_16 (by decide) (lgc_neg hv) ?_
  refine vIconst X dX4_skip_19 (v := nI (2)) (by decide) ?_
  refine vGoto X 37 dX4_skip_20 (by decide) ?_
  refine vCallVd X [] (mm_isWrong1 l D k o pl sb B Ln Rm Rd Pl Mk G Sz Kp th 2 (by decide) (by decide)) (vGV q_786 q_788 q_8 q_29 q_789) ⟨by decide, by decide, (show _ = some 1 from by decide +kernel)⟩ ⟨Nat.le_of_ble_eq_true rfl, Nat.le_of_ble_eq_true rfl⟩ 0 4 rfl rfl rfl rfl (Nat.le_of_ble_eq_true rfl) dX4_skip_37 ⟨Nat.zero_le _, Nat.zero_le _⟩ ?_
  refine vIfN_eqF X 45 dX4_skip_40 (by decide) (by omega) (by omega) ?_
  refine vLconst X dX4_skip_43 (v := lN 0) (by decide) ?_
  exact vRetL X hret dX4_skip_44 ⟨rfl, rfl⟩
set_option maxHeartbeats 4000000 in
set_option maxRecDepth 100000 in
theorem mm_skip3 (l : Launch) (D : va_G) (k : Nat → ClassId) (o : Nat → Nat) (pl : va_W) (sb : Nat) (B : Nat → Nat → Int32) (Ln Rm : Nat → Nat) (Rd : Nat → Option Nat) (Pl Mk : Nat → Nat) (G : Nat → Nat → Int32) (Sz : Nat → Nat) (Kp : Nat → Int32) (th : Int32) (g m : Nat) (hg : g < 3) (hm : m < 2 ^ 63) (hgRd : Rd g = none) : vCt l yX4_skip cX4_skip 5 (some .long) 1 21 0 0 D vCl (vTy k) sb [.ref (o 0), .int (nI (g)), .long (lN (m))] (mW k o pl B Ln Rm Rd Pl Mk G Sz Kp th) (vDet (some (.long (lN 0))) (mW k o pl B Ln Rm Rd Pl Mk G Sz Kp (nI (3)))) := by
  refine vOf (by decide +kernel) (Nat.le_of_ble_eq_true rfl) (fun p9 e9 s9 m9 below9 meth9 c9 X hret _ => ?_)
  refine vAloadN X dX4_skip_0 0 rfl ?_
  refine vAloadN X dX4_skip_1 0 rfl ?_
  refine vIloadN X dX4_skip_2 1 rfl ?_
  refine vCallVd X [.ref (o 0)] (mm_isOtherT l D k o pl sb B Ln Rm Rd Pl Mk G Sz Kp th g (by omega)) (vGV q_838 q_840 q_14 q_29 q_841) ⟨by decide, by decide, (show _ = some 1 from by decide +kernel)⟩ ⟨Nat.le_of_ble_eq_true rfl, Nat.le_of_ble_eq_true rfl⟩ 0 4 rfl rfl rfl rfl (Nat.le_of_ble_eq_true rfl) dX4_skip_3 ⟨Nat.zero_le _, Nat.zero_le _⟩ ?_
  refine vIfN_neT X 13 dX4_skip_6 (by decide) (by omega) (by omega) ?_
  refine vLloadN X dX4_skip_13 2 rfl ?_
  refine vLconst X dX4_skip_14 (v := lN 0) (by decide) ?_
  refine vLcmp X dX4_skip_15 ?_
  refine vIf_geT X 23 dX4_skip_16 (by decide) (lgc_ge hm (by omega) (by omega)) ?_
  refine vAloadN X dX4_skip_23 0 rfl ?_
  refine vGet X (C := RX4) (T := TX4) (N := 10) (ci := 4) (vcons inM) rfl 0 rfl 3 (by decide) (List.mem_cons_of_mem _ q_745) (fun _ h => h) rfl dX4_skip_24 ?_
  refine vIloadN X dX4_skip_27 1 rfl ?_
  refine vIaload X (v := (-1 : Int32)) 4 1 rfl rfl rfl (by omega) (by decide) (oI_none hgRd) dX4_skip_28 ?_
  refine vIf_geF X 36 dX4_skip_29 (by decide) (by first | assumption | exact Int32.not_lt.mpr (by assumption) | exact Int32.not_le.mpr (by assumption) | exact Int32.not_lt.mp (by assumption) | exact Int32.not_le.mp (by assumption) | decide) ?_
  refine vIconst X dX4_skip_32 (v := nI (3)) (by decide) ?_
  refine vGoto X 37 dX4_skip_33 (by decide) ?_
  refine vCallVd X [] (mm_isWrong1 l D k o pl sb B Ln Rm Rd Pl Mk G Sz Kp th 3 (by decide) (by decide)) (vGV q_786 q_788 q_8 q_29 q_789) ⟨by decide, by decide, (show _ = some 1 from by decide +kernel)⟩ ⟨Nat.le_of_ble_eq_true rfl, Nat.le_of_ble_eq_true rfl⟩ 0 4 rfl rfl rfl rfl (Nat.le_of_ble_eq_true rfl) dX4_skip_37 ⟨Nat.zero_le _, Nat.zero_le _⟩ ?_
  refine vIfN_eqF X 45 dX4_skip_40 (by decide) (by omega) (by omega) ?_
  refine vLconst X dX4_skip_43 (v := lN 0) (by decide) ?_
  exact vRetL X hret dX4_skip_44 ⟨rfl, rfl⟩
set_option maxHeartbeats 4000000 in
set_option maxRecDepth 100000 in
theorem mm_skip0a (l : Launch) (D : va_G) (k : Nat → ClassId) (o : Nat → Nat) (pl : va_W) (sb : Nat) (B : Nat → Nat → Int32) (Ln Rm : Nat → Nat) (Rd : Nat → Option Nat) (Pl Mk : Nat → Nat) (G : Nat → Nat → Int32) (Sz : Nat → Nat) (Kp : Nat → Int32) (th : Int32) (g a m : Nat) (hg : g < 3) (hgRd : Rd g = some a) (ha : a < 8) (hla : Ln a ≤ 256) (hpl : Pl g ≤ Ln a) (hm : m < 2 ^ 63) (h : m < Ln a - Pl g) : vCt l yX4_skip cX4_skip 5 (some .long) 1 21 0 0 D vCl (vTy k) sb [.ref (o 0), .int (nI (g)), .long (lN (m))] (mW k o pl B Ln Rm Rd Pl Mk G Sz Kp th) (vDet (some (.long (lN m))) (mW k o pl B Ln Rm Rd (va_up Pl (g) ((Pl (g)) + (m))) Mk G Sz Kp (nI (0)))) := by
  refine vOf (by decide +kernel) (Nat.le_of_ble_eq_true rfl) (fun p9 e9 s9 m9 below9 meth9 c9 X hret _ => ?_)
  refine vAloadN X dX4_skip_0 0 rfl ?_
  refine vAloadN X dX4_skip_1 0 rfl ?_
  refine vIloadN X dX4_skip_2 1 rfl ?_
  refine vCallVd X [.ref (o 0)] (mm_isOtherT l D k o pl sb B Ln Rm Rd Pl Mk G Sz Kp th g (by omega)) (vGV q_838 q_840 q_14 q_29 q_841) ⟨by decide, by decide, (show _ = some 1 from by decide +kernel)⟩ ⟨Nat.le_of_ble_eq_true rfl, Nat.le_of_ble_eq_true rfl⟩ 0 4 rfl rfl rfl rfl (Nat.le_of_ble_eq_true rfl) dX4_skip_3 ⟨Nat.zero_le _, Nat.zero_le _⟩ ?_
  refine vIfN_neT X 13 dX4_skip_6 (by decide) (by omega) (by omega) ?_
  refine vLloadN X dX4_skip_13 2 rfl ?_
  refine vLconst X dX4_skip_14 (v := lN 0) (by decide) ?_
  refine vLcmp X dX4_skip_15 ?_
  refine vIf_geT X 23 dX4_skip_16 (by decide) (lgc_ge hm (by omega) (by omega)) ?_
  refine vAloadN X dX4_skip_23 0 rfl ?_
  refine vGet X (C := RX4) (T := TX4) (N := 10) (ci := 4) (vcons inM) rfl 0 rfl 3 (by decide) (List.mem_cons_of_mem _ q_745) (fun _ h => h) rfl dX4_skip_24 ?_
  refine vIloadN X dX4_skip_27 1 rfl ?_
  refine vIaload X (v := nI (a)) 4 1 rfl rfl rfl (by omega) (by decide) (oI_some hgRd) dX4_skip_28 ?_
  refine vIfN_geT X 36 dX4_skip_29 (by decide) (by omega) (by omega) ?_
  refine vIconst X dX4_skip_36 (v := nI (0)) (by decide) ?_
  refine vCallVd X [] (mm_isWrong0 l D k o pl sb B Ln Rm Rd Pl Mk G Sz Kp th ) (vGV q_786 q_788 q_8 q_29 q_789) ⟨by decide, by decide, (show _ = some 1 from by decide +kernel)⟩ ⟨Nat.le_of_ble_eq_true rfl, Nat.le_of_ble_eq_true rfl⟩ 0 4 rfl rfl rfl rfl (Nat.le_of_ble_eq_true rfl) dX4_skip_37 ⟨Nat.zero_le _, Nat.zero_le _⟩ ?_
  refine vIfN_eqT X 45 dX4_skip_40 (by decide) (by omega) (by omega) ?_
  refine vLloadN X dX4_skip_45 2 rfl ?_
  refine vAloadN X dX4_skip_46 0 rfl ?_
  refine vIloadN X dX4_skip_47 1 rfl ?_
  refine vCallVd X [.long (lN (m))] (mm_leftOf l D k o pl sb B Ln Rm Rd Pl Mk G Sz Kp (nI (0)) g a (Pl (g)) (by omega) hgRd (by omega) (by omega) rfl (by omega)) (vGV q_879 q_881 q_17 q_29 q_882) ⟨by decide, by decide, (show _ = some 1 from by decide +kernel)⟩ ⟨Nat.le_of_ble_eq_true rfl, Nat.le_of_ble_eq_true rfl⟩ 0 4 rfl rfl rfl rfl (Nat.le_of_ble_eq_true rfl) dX4_skip_48 ⟨Nat.zero_le _, Nat.zero_le _⟩ ?_
  refine vI2l X dX4_skip_51 (v := lN ((Ln a) - (Pl (g)))) (nI_l (by omega)) ?_
  refine vLcmp X dX4_skip_52 ?_
  refine vIf_geF X 61 dX4_skip_53 (by decide) (lgc_lt hm (by omega) (by omega)) ?_
  refine vLloadN X dX4_skip_56 2 rfl ?_
  refine vL2i X dX4_skip_57 (v := nI (m)) (lN_i _) ?_
  refine vGoto X 66 dX4_skip_58 (by decide) ?_
  refine vIstore X [(4, .int (nI (m))), (0, .ref (o 0)), (1, .int (nI (g))), (2, .long (lN (m)))] dX4_skip_66 (by decide) rfl ?_
  refine vAloadN X dX4_skip_68 1 rfl ?_
  refine vGet X (C := RX4) (T := TX4) (N := 10) (ci := 4) (vcons inM) rfl 0 rfl 4 (by decide) (List.mem_cons_of_mem _ q_746) (fun _ h => h) rfl dX4_skip_69 ?_
  refine vIloadN X dX4_skip_72 2 rfl ?_
  refine vDup2 X dX4_skip_73 rfl rfl ?_
  refine vIaload X (v := nI (Pl (g))) 5 1 rfl rfl rfl (by omega) (by decide) rfl dX4_skip_74 ?_
  refine vIload X dX4_skip_75 0 rfl ?_
  refine vIadd X dX4_skip_77 (v := nI ((Pl (g)) + (m))) (nI_add _ _) ?_
  refine vIastore X (g := (fun q => nI ((va_up Pl (g) ((Pl (g)) + (m))) q))) 5 1 rfl rfl rfl (by omega) (by decide) (nI_up _ _ _) dX4_skip_78 ?_
  refine vWs (ws' := mW k o pl B Ln Rm Rd (va_up Pl (g) ((Pl (g)) + (m))) Mk G Sz Kp (nI (0))) rfl ?_
  refine vIload X dX4_skip_79 0 rfl ?_
  refine vI2l X dX4_skip_81 (v := lN (m)) (nI_l (by omega)) ?_
  exact vRetL X hret dX4_skip_82 ⟨rfl, rfl⟩
set_option maxHeartbeats 4000000 in
set_option maxRecDepth 100000 in
theorem mm_skip0b (l : Launch) (D : va_G) (k : Nat → ClassId) (o : Nat → Nat) (pl : va_W) (sb : Nat) (B : Nat → Nat → Int32) (Ln Rm : Nat → Nat) (Rd : Nat → Option Nat) (Pl Mk : Nat → Nat) (G : Nat → Nat → Int32) (Sz : Nat → Nat) (Kp : Nat → Int32) (th : Int32) (g a m : Nat) (hg : g < 3) (hgRd : Rd g = some a) (ha : a < 8) (hla : Ln a ≤ 256) (hpl : Pl g ≤ Ln a) (hm : m < 2 ^ 63) (h : Ln a - Pl g ≤ m) : vCt l yX4_skip cX4_skip 5 (some .long) 1 21 0 0 D vCl (vTy k) sb [.ref (o 0), .int (nI (g)), .long (lN (m))] (mW k o pl B Ln Rm Rd Pl Mk G Sz Kp th) (vDet (some (.long (lN (Ln a - Pl g)))) (mW k o pl B Ln Rm Rd (va_up Pl (g) ((Pl (g)) + ((Ln a) - (Pl (g))))) Mk G Sz Kp (nI (0)))) := by
  refine vOf (by decide +kernel) (Nat.le_of_ble_eq_true rfl) (fun p9 e9 s9 m9 below9 meth9 c9 X hret _ => ?_)
  refine vAloadN X dX4_skip_0 0 rfl ?_
  refine vAloadN X dX4_skip_1 0 rfl ?_
  refine vIloadN X dX4_skip_2 1 rfl ?_
  refine vCallVd X [.ref (o 0)] (mm_isOtherT l D k o pl sb B Ln Rm Rd Pl Mk G Sz Kp th g (by omega)) (vGV q_838 q_840 q_14 q_29 q_841) ⟨by decide, by decide, (show _ = some 1 from by decide +kernel)⟩ ⟨Nat.le_of_ble_eq_true rfl, Nat.le_of_ble_eq_true rfl⟩ 0 4 rfl rfl rfl rfl (Nat.le_of_ble_eq_true rfl) dX4_skip_3 ⟨Nat.zero_le _, Nat.zero_le _⟩ ?_
  refine vIfN_neT X 13 dX4_skip_6 (by decide) (by omega) (by omega) ?_
  refine vLloadN X dX4_skip_13 2 rfl ?_
  refine vLconst X dX4_skip_14 (v := lN 0) (by decide) ?_
  refine vLcmp X dX4_skip_15 ?_
  refine vIf_geT X 23 dX4_skip_16 (by decide) (lgc_ge hm (by omega) (by omega)) ?_
  refine vAloadN X dX4_skip_23 0 rfl ?_
  refine vGet X (C := RX4) (T := TX4) (N := 10) (ci := 4) (vcons inM) rfl 0 rfl 3 (by decide) (List.mem_cons_of_mem _ q_745) (fun _ h => h) rfl dX4_skip_24 ?_
  refine vIloadN X dX4_skip_27 1 rfl ?_
  refine vIaload X (v := nI (a)) 4 1 rfl rfl rfl (by omega) (by decide) (oI_some hgRd) dX4_skip_28 ?_
  refine vIfN_geT X 36 dX4_skip_29 (by decide) (by omega) (by omega) ?_
  refine vIconst X dX4_skip_36 (v := nI (0)) (by decide) ?_
  refine vCallVd X [] (mm_isWrong0 l D k o pl sb B Ln Rm Rd Pl Mk G Sz Kp th ) (vGV q_786 q_788 q_8 q_29 q_789) ⟨by decide, by decide, (show _ = some 1 from by decide +kernel)⟩ ⟨Nat.le_of_ble_eq_true rfl, Nat.le_of_ble_eq_true rfl⟩ 0 4 rfl rfl rfl rfl (Nat.le_of_ble_eq_true rfl) dX4_skip_37 ⟨Nat.zero_le _, Nat.zero_le _⟩ ?_
  refine vIfN_eqT X 45 dX4_skip_40 (by decide) (by omega) (by omega) ?_
  refine vLloadN X dX4_skip_45 2 rfl ?_
  refine vAloadN X dX4_skip_46 0 rfl ?_
  refine vIloadN X dX4_skip_47 1 rfl ?_
  refine vCallVd X [.long (lN (m))] (mm_leftOf l D k o pl sb B Ln Rm Rd Pl Mk G Sz Kp (nI (0)) g a (Pl (g)) (by omega) hgRd (by omega) (by omega) rfl (by omega)) (vGV q_879 q_881 q_17 q_29 q_882) ⟨by decide, by decide, (show _ = some 1 from by decide +kernel)⟩ ⟨Nat.le_of_ble_eq_true rfl, Nat.le_of_ble_eq_true rfl⟩ 0 4 rfl rfl rfl rfl (Nat.le_of_ble_eq_true rfl) dX4_skip_48 ⟨Nat.zero_le _, Nat.zero_le _⟩ ?_
  refine vI2l X dX4_skip_51 (v := lN ((Ln a) - (Pl (g)))) (nI_l (by omega)) ?_
  refine vLcmp X dX4_skip_52 ?_
  refine vIf_geT X 61 dX4_skip_53 (by decide) (lgc_ge hm (by omega) (by omega)) ?_
  refine vAloadN X dX4_skip_61 0 rfl ?_
  refine vIloadN X dX4_skip_62 1 rfl ?_
  refine vCallVd X [] (mm_leftOf l D k o pl sb B Ln Rm Rd Pl Mk G Sz Kp (nI (0)) g a (Pl (g)) (by omega) hgRd (by omega) (by omega) rfl (by omega)) (vGV q_879 q_881 q_17 q_29 q_882) ⟨by decide, by decide, (show _ = some 1 from by decide +kernel)⟩ ⟨Nat.le_of_ble_eq_true rfl, Nat.le_of_ble_eq_true rfl⟩ 0 4 rfl rfl rfl rfl (Nat.le_of_ble_eq_true rfl) dX4_skip_63 ⟨Nat.zero_le _, Nat.zero_le _⟩ ?_
  refine vIstore X [(4, .int (nI ((Ln a) - (Pl (g))))), (0, .ref (o 0)), (1, .int (nI (g))), (2, .long (lN (m)))] dX4_skip_66 (by decide) rfl ?_
  refine vAloadN X dX4_skip_68 1 rfl ?_
  refine vGet X (C := RX4) (T := TX4) (N := 10) (ci := 4) (vcons inM) rfl 0 rfl 4 (by decide) (List.mem_cons_of_mem _ q_746) (fun _ h => h) rfl dX4_skip_69 ?_
  refine vIloadN X dX4_skip_72 2 rfl ?_
  refine vDup2 X dX4_skip_73 rfl rfl ?_
  refine vIaload X (v := nI (Pl (g))) 5 1 rfl rfl rfl (by omega) (by decide) rfl dX4_skip_74 ?_
  refine vIload X dX4_skip_75 0 rfl ?_
  refine vIadd X dX4_skip_77 (v := nI ((Pl (g)) + ((Ln a) - (Pl (g))))) (nI_add _ _) ?_
  refine vIastore X (g := (fun q => nI ((va_up Pl (g) ((Pl (g)) + ((Ln a) - (Pl (g))))) q))) 5 1 rfl rfl rfl (by omega) (by decide) (nI_up _ _ _) dX4_skip_78 ?_
  refine vWs (ws' := mW k o pl B Ln Rm Rd (va_up Pl (g) ((Pl (g)) + ((Ln a) - (Pl (g))))) Mk G Sz Kp (nI (0))) rfl ?_
  refine vIload X dX4_skip_79 0 rfl ?_
  refine vI2l X dX4_skip_81 (v := lN ((Ln a) - (Pl (g)))) (nI_l (by omega)) ?_
  exact vRetL X hret dX4_skip_82 ⟨rfl, rfl⟩
set_option maxHeartbeats 4000000 in
set_option maxRecDepth 100000 in
theorem mL_pour {p9 : Program} {l : Launch} {e9 : Env} {s9 : State} {m9 : MethodId} {args9 : Array Value} {below9 : List Frame} {meth9 : Method} {c9 : Code} {Q9 : State → Prop} (D : va_G) (k : Nat → ClassId) (o : Nat → Nat) (pl : va_W) (sb : Nat) (B : Nat → Nat → Int32) (Ln Rm : Nat → Nat) (Rd : Nat → Option Nat) (Pl Mk : Nat → Nat) (G : Nat → Nat → Int32) (Sz : Nat → Nat) (Kp : Nat → Int32) (th : Int32) (g u n : Nat) (hu : u < 3) (hs : Sz u + n ≤ 256) (hK : ∀ j, j < n → lb (Kp j) = Kp j) (X : vCX p9 s9 m9 args9 meth9 c9 cX4_pour 5 yX4_pour.cls (Cond.code yX4_pour cX4_pour 5 (some .int) :: vGW) D vCl (vTy k) sb) (hex : vV p9 l e9 ({ frames := 2, cells := 0, slots := 0, locals := 46 }) s9 m9 args9 below9 meth9 c9 5 D vCl sb Q9 (mW k o pl B Ln Rm Rd Pl Mk (cpG G u (Sz u) n Kp) (va_up Sz u (Sz u + n)) Kp th) 0 0 96 [(3, .int (nI (n)))] []) : ∀ (z i : Nat) (G1 : Nat → Nat → Int32) (S1 : Nat → Nat), i + z = n → G1 = cpG G u (Sz u) i Kp → S1 = va_up Sz u (Sz u + i) → vV p9 l e9 ({ frames := 2, cells := 0, slots := 0, locals := 46 }) s9 m9 args9 below9 meth9 c9 5 D vCl sb Q9 (mW k o pl B Ln Rm Rd Pl Mk G1 S1 Kp th) 0 0 72 [(4, .int (nI (i))), (3, .int (nI (n))), (0, .ref (o 0)), (1, .int (nI (g))), (2, .int (nI (u)))] [] := by
  intro z
  induction z with
  | zero =>
    intro i G1 S1 hi hG1 hS1
    have hin : n = i := by omega
    subst hin
    subst hG1
    subst hS1
    refine vIload X dX4_pour_72 0 rfl ?_
    refine vIloadN X dX4_pour_74 1 rfl ?_
    refine vIcmpN_geT X 96 dX4_pour_75 (by decide) (by omega) (by omega) (by omega) ?_
    refine vSub [1] [(3, .int (nI (n)))] rfl ?_
    exact hex
  | succ z ih =>
    intro i G1 S1 hi hG1 hS1
    have hSu : S1 u = Sz u + i := by rw [hS1, va_up_eq]
    refine vIload X dX4_pour_72 0 rfl ?_
    refine vIloadN X dX4_pour_74 1 rfl ?_
    refine vIcmpN_geF X 96 dX4_pour_75 (by decide) (by omega) (by omega) (by omega) ?_
    refine vAloadN X dX4_pour_78 2 rfl ?_
    refine vIloadN X dX4_pour_79 4 rfl ?_
    refine vAloadN X dX4_pour_80 2 rfl ?_
    refine vGet X (C := RX4) (T := TX4) (N := 10) (ci := 4) (vcons inM) rfl 0 rfl 8 (by decide) (List.mem_cons_of_mem _ q_750) (fun _ h => h) rfl dX4_pour_81 ?_
    refine vIload X dX4_pour_84 0 rfl ?_
    refine vIaload X (v := Kp (i)) 9 1 rfl rfl rfl (by omega) (by decide) rfl dX4_pour_86 ?_
    refine vCallVd X [] (mm_adds l D k o pl sb B Ln Rm Rd Pl Mk G1 S1 Kp th u (Kp (i)) (by omega) (by omega)) (vGV q_846 q_848 q_16 q_29 q_849) ⟨by decide, by decide, (show _ = some 2 from by decide +kernel)⟩ ⟨Nat.le_of_ble_eq_true rfl, Nat.le_of_ble_eq_true rfl⟩ 0 4 rfl rfl rfl rfl (Nat.le_of_ble_eq_true rfl) dX4_pour_87 ⟨Nat.zero_le _, Nat.zero_le _⟩ ?_
    refine vIinc X [(4, .int (nI (i + 1))), (3, .int (nI (n))), (0, .ref (o 0)), (1, .int (nI (g))), (2, .int (nI (u)))] dX4_pour_90 0 rfl (nI_inc _) (by decide) rfl ?_
    refine vGoto X 72 dX4_pour_93 (by decide) ?_
    refine vSub [0, 1, 2, 3, 4] [(4, .int (nI (i + 1))), (3, .int (nI (n))), (0, .ref (o 0)), (1, .int (nI (g))), (2, .int (nI (u)))] rfl ?_
    exact ih (i + 1) _ _ (by omega) (by rw [hK i (by omega), hSu, hG1]; exact cpG_1 _ _ _ _ _) (by rw [hSu, hS1, va_up_up]; rfl)
set_option maxHeartbeats 4000000 in
set_option maxRecDepth 100000 in
theorem mm_pour1a (l : Launch) (D : va_G) (k : Nat → ClassId) (o : Nat → Nat) (pl : va_W) (sb : Nat) (B : Nat → Nat → Int32) (Ln Rm : Nat → Nat) (Rd : Nat → Option Nat) (Pl Mk : Nat → Nat) (G : Nat → Nat → Int32) (Sz : Nat → Nat) (Kp : Nat → Int32) (th : Int32) (x y : Int32) (hx : ¬ vOther x) : vCt l yX4_pour cX4_pour 5 (some .int) 2 46 0 0 D vCl (vTy k) sb [.ref (o 0), .int (x), .int (y)] (mW k o pl B Ln Rm Rd Pl Mk G Sz Kp th) (vDet (some (.int (nI (0)))) (mW k o pl B Ln Rm Rd Pl Mk G Sz Kp (nI (1)))) := by
  refine vOf (by decide +kernel) (Nat.le_of_ble_eq_true rfl) (fun p9 e9 s9 m9 below9 meth9 c9 X hret _ => ?_)
  refine vAloadN X dX4_pour_0 0 rfl ?_
  refine vAloadN X dX4_pour_1 0 rfl ?_
  refine vIloadN X dX4_pour_2 1 rfl ?_
  refine vCallVd X [.ref (o 0)] (mm_isOtherF l D k o pl sb B Ln Rm Rd Pl Mk G Sz Kp th x hx) (vGV q_838 q_840 q_14 q_29 q_841) ⟨by decide, by decide, (show _ = some 1 from by decide +kernel)⟩ ⟨Nat.le_of_ble_eq_true rfl, Nat.le_of_ble_eq_true rfl⟩ 0 4 rfl rfl rfl rfl (Nat.le_of_ble_eq_true rfl) dX4_pour_3 ⟨Nat.zero_le _, Nat.zero_le _⟩ ?_
  refine vIfN_eqT X 17 dX4_pour_6 (by decide) (by omega) (by omega) ?_
  refine vIconst X dX4_pour_17 (v := nI (1)) (by decide) ?_
  refine vGoto X 52 dX4_pour_18 (by decide) ?_
  refine vCallVd X [] (mm_isWrong1 l D k o pl sb B Ln Rm Rd Pl Mk G Sz Kp th 1 (by decide) (by decide)) (vGV q_786 q_788 q_8 q_29 q_789) ⟨by decide, by decide, (show _ = some 1 from by decide +kernel)⟩ ⟨Nat.le_of_ble_eq_true rfl, Nat.le_of_ble_eq_true rfl⟩ 0 4 rfl rfl rfl rfl (Nat.le_of_ble_eq_true rfl) dX4_pour_52 ⟨Nat.zero_le _, Nat.zero_le _⟩ ?_
  refine vIfN_eqF X 60 dX4_pour_55 (by decide) (by omega) (by omega) ?_
  refine vIconst X dX4_pour_58 (v := nI (0)) (by decide) ?_
  exact vRetI X hret dX4_pour_59 ⟨rfl, rfl⟩
set_option maxHeartbeats 4000000 in
set_option maxRecDepth 100000 in
theorem mm_pour1b (l : Launch) (D : va_G) (k : Nat → ClassId) (o : Nat → Nat) (pl : va_W) (sb : Nat) (B : Nat → Nat → Int32) (Ln Rm : Nat → Nat) (Rd : Nat → Option Nat) (Pl Mk : Nat → Nat) (G : Nat → Nat → Int32) (Sz : Nat → Nat) (Kp : Nat → Int32) (th : Int32) (g : Nat) (y : Int32) (hg : g < 3) (hy : ¬ vOther y) : vCt l yX4_pour cX4_pour 5 (some .int) 2 46 0 0 D vCl (vTy k) sb [.ref (o 0), .int (nI (g)), .int (y)] (mW k o pl B Ln Rm Rd Pl Mk G Sz Kp th) (vDet (some (.int (nI (0)))) (mW k o pl B Ln Rm Rd Pl Mk G Sz Kp (nI (1)))) := by
  refine vOf (by decide +kernel) (Nat.le_of_ble_eq_true rfl) (fun p9 e9 s9 m9 below9 meth9 c9 X hret _ => ?_)
  refine vAloadN X dX4_pour_0 0 rfl ?_
  refine vAloadN X dX4_pour_1 0 rfl ?_
  refine vIloadN X dX4_pour_2 1 rfl ?_
  refine vCallVd X [.ref (o 0)] (mm_isOtherT l D k o pl sb B Ln Rm Rd Pl Mk G Sz Kp th g (by omega)) (vGV q_838 q_840 q_14 q_29 q_841) ⟨by decide, by decide, (show _ = some 1 from by decide +kernel)⟩ ⟨Nat.le_of_ble_eq_true rfl, Nat.le_of_ble_eq_true rfl⟩ 0 4 rfl rfl rfl rfl (Nat.le_of_ble_eq_true rfl) dX4_pour_3 ⟨Nat.zero_le _, Nat.zero_le _⟩ ?_
  refine vIfN_eqF X 17 dX4_pour_6 (by decide) (by omega) (by omega) ?_
  refine vAloadN X dX4_pour_9 0 rfl ?_
  refine vIloadN X dX4_pour_10 2 rfl ?_
  refine vCallVd X [.ref (o 0)] (mm_isOtherF l D k o pl sb B Ln Rm Rd Pl Mk G Sz Kp th y hy) (vGV q_838 q_840 q_14 q_29 q_841) ⟨by decide, by decide, (show _ = some 1 from by decide +kernel)⟩ ⟨Nat.le_of_ble_eq_true rfl, Nat.le_of_ble_eq_true rfl⟩ 0 4 rfl rfl rfl rfl (Nat.le_of_ble_eq_true rfl) dX4_pour_11 ⟨Nat.zero_le _, Nat.zero_le _⟩ ?_
  refine vIfN_neF X 21 dX4_pour_14 (by decide) (by omega) (by omega) ?_
  refine vIconst X dX4_pour_17 (v := nI (1)) (by decide) ?_
  refine vGoto X 52 dX4_pour_18 (by decide) ?_
  refine vCallVd X [] (mm_isWrong1 l D k o pl sb B Ln Rm Rd Pl Mk G Sz Kp th 1 (by decide) (by decide)) (vGV q_786 q_788 q_8 q_29 q_789) ⟨by decide, by decide, (show _ = some 1 from by decide +kernel)⟩ ⟨Nat.le_of_ble_eq_true rfl, Nat.le_of_ble_eq_true rfl⟩ 0 4 rfl rfl rfl rfl (Nat.le_of_ble_eq_true rfl) dX4_pour_52 ⟨Nat.zero_le _, Nat.zero_le _⟩ ?_
  refine vIfN_eqF X 60 dX4_pour_55 (by decide) (by omega) (by omega) ?_
  refine vIconst X dX4_pour_58 (v := nI (0)) (by decide) ?_
  exact vRetI X hret dX4_pour_59 ⟨rfl, rfl⟩
set_option maxHeartbeats 4000000 in
set_option maxRecDepth 100000 in
theorem mm_pour2 (l : Launch) (D : va_G) (k : Nat → ClassId) (o : Nat → Nat) (pl : va_W) (sb : Nat) (B : Nat → Nat → Int32) (Ln Rm : Nat → Nat) (Rd : Nat → Option Nat) (Pl Mk : Nat → Nat) (G : Nat → Nat → Int32) (Sz : Nat → Nat) (Kp : Nat → Int32) (th : Int32) (g u : Nat) (hg : g < 3) (hu : u < 3) (hgRd : Rd g = none) : vCt l yX4_pour cX4_pour 5 (some .int) 2 46 0 0 D vCl (vTy k) sb [.ref (o 0), .int (nI (g)), .int (nI (u))] (mW k o pl B Ln Rm Rd Pl Mk G Sz Kp th) (vDet (some (.int (nI (0)))) (mW k o pl B Ln Rm Rd Pl Mk G Sz Kp (nI (2)))) := by
  refine vOf (by decide +kernel) (Nat.le_of_ble_eq_true rfl) (fun p9 e9 s9 m9 below9 meth9 c9 X hret _ => ?_)
  refine vAloadN X dX4_pour_0 0 rfl ?_
  refine vAloadN X dX4_pour_1 0 rfl ?_
  refine vIloadN X dX4_pour_2 1 rfl ?_
  refine vCallVd X [.ref (o 0)] (mm_isOtherT l D k o pl sb B Ln Rm Rd Pl Mk G Sz Kp th g (by omega)) (vGV q_838 q_840 q_14 q_29 q_841) ⟨by decide, by decide, (show _ = some 1 from by decide +kernel)⟩ ⟨Nat.le_of_ble_eq_true rfl, Nat.le_of_ble_eq_true rfl⟩ 0 4 rfl rfl rfl rfl (Nat.le_of_ble_eq_true rfl) dX4_pour_3 ⟨Nat.zero_le _, Nat.zero_le _⟩ ?_
  refine vIfN_eqF X 17 dX4_pour_6 (by decide) (by omega) (by omega) ?_
  refine vAloadN X dX4_pour_9 0 rfl ?_
  refine vIloadN X dX4_pour_10 2 rfl ?_
  refine vCallVd X [.ref (o 0)] (mm_isOtherT l D k o pl sb B Ln Rm Rd Pl Mk G Sz Kp th u (by omega)) (vGV q_838 q_840 q_14 q_29 q_841) ⟨by decide, by decide, (show _ = some 1 from by decide +kernel)⟩ ⟨Nat.le_of_ble_eq_true rfl, Nat.le_of_ble_eq_true rfl⟩ 0 4 rfl rfl rfl rfl (Nat.le_of_ble_eq_true rfl) dX4_pour_11 ⟨Nat.zero_le _, Nat.zero_le _⟩ ?_
  refine vIfN_neT X 21 dX4_pour_14 (by decide) (by omega) (by omega) ?_
  refine vAloadN X dX4_pour_21 0 rfl ?_
  refine vGet X (C := RX4) (T := TX4) (N := 10) (ci := 4) (vcons inM) rfl 0 rfl 3 (by decide) (List.mem_cons_of_mem _ q_745) (fun _ h => h) rfl dX4_pour_22 ?_
  refine vIloadN X dX4_pour_25 1 rfl ?_
  refine vIaload X (v := (-1 : Int32)) 4 1 rfl rfl rfl (by omega) (by decide) (oI_none hgRd) dX4_pour_26 ?_
  refine vIf_geF X 34 dX4_pour_27 (by decide) (by first | assumption | exact Int32.not_lt.mpr (by assumption) | exact Int32.not_le.mpr (by assumption) | exact Int32.not_lt.mp (by assumption) | exact Int32.not_le.mp (by assumption) | decide) ?_
  refine vIconst X dX4_pour_30 (v := nI (2)) (by decide) ?_
  refine vGoto X 52 dX4_pour_31 (by decide) ?_
  refine vCallVd X [] (mm_isWrong1 l D k o pl sb B Ln Rm Rd Pl Mk G Sz Kp th 2 (by decide) (by decide)) (vGV q_786 q_788 q_8 q_29 q_789) ⟨by decide, by decide, (show _ = some 1 from by decide +kernel)⟩ ⟨Nat.le_of_ble_eq_true rfl, Nat.le_of_ble_eq_true rfl⟩ 0 4 rfl rfl rfl rfl (Nat.le_of_ble_eq_true rfl) dX4_pour_52 ⟨Nat.zero_le _, Nat.zero_le _⟩ ?_
  refine vIfN_eqF X 60 dX4_pour_55 (by decide) (by omega) (by omega) ?_
  refine vIconst X dX4_pour_58 (v := nI (0)) (by decide) ?_
  exact vRetI X hret dX4_pour_59 ⟨rfl, rfl⟩
set_option maxHeartbeats 4000000 in
set_option maxRecDepth 100000 in
theorem mm_pour3 (l : Launch) (D : va_G) (k : Nat → ClassId) (o : Nat → Nat) (pl : va_W) (sb : Nat) (B : Nat → Nat → Int32) (Ln Rm : Nat → Nat) (Rd : Nat → Option Nat) (Pl Mk : Nat → Nat) (G : Nat → Nat → Int32) (Sz : Nat → Nat) (Kp : Nat → Int32) (th : Int32) (g a u : Nat) (hg : g < 3) (hgRd : Rd g = some a) (ha : a < 8) (hla : Ln a ≤ 256) (hpl : Pl g ≤ Ln a) (hu : u < 3) (hsu : Sz u ≤ 256) (hs : 256 < Sz u + (Ln a - Pl g)) : vCt l yX4_pour cX4_pour 5 (some .int) 2 46 0 0 D vCl (vTy k) sb [.ref (o 0), .int (nI (g)), .int (nI (u))] (mW k o pl B Ln Rm Rd Pl Mk G Sz Kp th) (vDet (some (.int (nI (0)))) (mW k o pl B Ln Rm Rd Pl Mk G Sz Kp (nI (3)))) := by
  refine vOf (by decide +kernel) (Nat.le_of_ble_eq_true rfl) (fun p9 e9 s9 m9 below9 meth9 c9 X hret _ => ?_)
  refine vAloadN X dX4_pour_0 0 rfl ?_
  refine vAloadN X dX4_pour_1 0 rfl ?_
  refine vIloadN X dX4_pour_2 1 rfl ?_
  refine vCallVd X [.ref (o 0)] (mm_isOtherT l D k o pl sb B Ln Rm Rd Pl Mk G Sz Kp th g (by omega)) (vGV q_838 q_840 q_14 q_29 q_841) ⟨by decide, by decide, (show _ = some 1 from by decide +kernel)⟩ ⟨Nat.le_of_ble_eq_true rfl, Nat.le_of_ble_eq_true rfl⟩ 0 4 rfl rfl rfl rfl (Nat.le_of_ble_eq_true rfl) dX4_pour_3 ⟨Nat.zero_le _, Nat.zero_le _⟩ ?_
  refine vIfN_eqF X 17 dX4_pour_6 (by decide) (by omega) (by omega) ?_
  refine vAloadN X dX4_pour_9 0 rfl ?_
  refine vIloadN X dX4_pour_10 2 rfl ?_
  refine vCallVd X [.ref (o 0)] (mm_isOtherT l D k o pl sb B Ln Rm Rd Pl Mk G Sz Kp th u (by omega)) (vGV q_838 q_840 q_14 q_29 q_841) ⟨by decide, by decide, (show _ = some 1 from by decide +kernel)⟩ ⟨Nat.le_of_ble_eq_true rfl, Nat.le_of_ble_eq_true rfl⟩ 0 4 rfl rfl rfl rfl (Nat.le_of_ble_eq_true rfl) dX4_pour_11 ⟨Nat.zero_le _, Nat.zero_le _⟩ ?_
  refine vIfN_neT X 21 dX4_pour_14 (by decide) (by omega) (by omega) ?_
  refine vAloadN X dX4_pour_21 0 rfl ?_
  refine vGet X (C := RX4) (T := TX4) (N := 10) (ci := 4) (vcons inM) rfl 0 rfl 3 (by decide) (List.mem_cons_of_mem _ q_745) (fun _ h => h) rfl dX4_pour_22 ?_
  refine vIloadN X dX4_pour_25 1 rfl ?_
  refine vIaload X (v := nI (a)) 4 1 rfl rfl rfl (by omega) (by decide) (oI_some hgRd) dX4_pour_26 ?_
  refine vIfN_geT X 34 dX4_pour_27 (by decide) (by omega) (by omega) ?_
  refine vAloadN X dX4_pour_34 0 rfl ?_
  refine vIloadN X dX4_pour_35 2 rfl ?_
  refine vAloadN X dX4_pour_36 0 rfl ?_
  refine vIloadN X dX4_pour_37 1 rfl ?_
  refine vCallVd X [.int (nI (u)), .ref (o 0), .ref (o 0)] (mm_leftOf l D k o pl sb B Ln Rm Rd Pl Mk G Sz Kp th g a (Pl (g)) (by omega) hgRd (by omega) (by omega) rfl (by omega)) (vGV q_879 q_881 q_17 q_29 q_882) ⟨by decide, by decide, (show _ = some 1 from by decide +kernel)⟩ ⟨Nat.le_of_ble_eq_true rfl, Nat.le_of_ble_eq_true rfl⟩ 0 4 rfl rfl rfl rfl (Nat.le_of_ble_eq_true rfl) dX4_pour_38 ⟨Nat.zero_le _, Nat.zero_le _⟩ ?_
  refine vCallVd X [.ref (o 0)] (mm_isFullT l D k o pl sb B Ln Rm Rd Pl Mk G Sz Kp th u ((Ln a) - (Pl (g))) (by omega) (by omega) (by omega) (by omega)) (vGV q_842 q_844 q_15 q_29 q_845) ⟨by decide, by decide, (show _ = some 2 from by decide +kernel)⟩ ⟨Nat.le_of_ble_eq_true rfl, Nat.le_of_ble_eq_true rfl⟩ 0 4 rfl rfl rfl rfl (Nat.le_of_ble_eq_true rfl) dX4_pour_41 ⟨Nat.zero_le _, Nat.zero_le _⟩ ?_
  refine vIfN_eqF X 51 dX4_pour_44 (by decide) (by omega) (by omega) ?_
  refine vIconst X dX4_pour_47 (v := nI (3)) (by decide) ?_
  refine vGoto X 52 dX4_pour_48 (by decide) ?_
  refine vCallVd X [] (mm_isWrong1 l D k o pl sb B Ln Rm Rd Pl Mk G Sz Kp th 3 (by decide) (by decide)) (vGV q_786 q_788 q_8 q_29 q_789) ⟨by decide, by decide, (show _ = some 1 from by decide +kernel)⟩ ⟨Nat.le_of_ble_eq_true rfl, Nat.le_of_ble_eq_true rfl⟩ 0 4 rfl rfl rfl rfl (Nat.le_of_ble_eq_true rfl) dX4_pour_52 ⟨Nat.zero_le _, Nat.zero_le _⟩ ?_
  refine vIfN_eqF X 60 dX4_pour_55 (by decide) (by omega) (by omega) ?_
  refine vIconst X dX4_pour_58 (v := nI (0)) (by decide) ?_
  exact vRetI X hret dX4_pour_59 ⟨rfl, rfl⟩
set_option maxHeartbeats 4000000 in
set_option maxRecDepth 100000 in
theorem mm_pour0 (l : Launch) (D : va_G) (k : Nat → ClassId) (o : Nat → Nat) (pl : va_W) (sb : Nat) (B : Nat → Nat → Int32) (Ln Rm : Nat → Nat) (Rd : Nat → Option Nat) (Pl Mk : Nat → Nat) (G : Nat → Nat → Int32) (Sz : Nat → Nat) (Kp : Nat → Int32) (th : Int32) (g a u n : Nat) (hg : g < 3) (hgRd : Rd g = some a) (ha : a < 8) (hla : Ln a ≤ 256) (hpl : Pl g ≤ Ln a) (hu : u < 3) (hn : n = Ln a - Pl g) (hs : Sz u + n ≤ 256) (hBF : ∀ a b, lb (B a b) = B a b) : vCt l yX4_pour cX4_pour 5 (some .int) 2 46 0 0 D vCl (vTy k) sb [.ref (o 0), .int (nI (g)), .int (nI (u))] (mW k o pl B Ln Rm Rd Pl Mk G Sz Kp th) (vDet (some (.int (nI (n)))) (mW k o pl B Ln Rm Rd (va_up Pl g (Pl g + n)) Mk (cpG G u (Sz u) n (fun j => B a (Pl g + j))) (va_up Sz u (Sz u + n)) (cpK Kp n (fun j => B a (Pl g + j))) (nI 0))) := by
  refine vOf (by decide +kernel) (Nat.le_of_ble_eq_true rfl) (fun p9 e9 s9 m9 below9 meth9 c9 X hret _ => ?_)
  refine vAloadN X dX4_pour_0 0 rfl ?_
  refine vAloadN X dX4_pour_1 0 rfl ?_
  refine vIloadN X dX4_pour_2 1 rfl ?_
  refine vCallVd X [.ref (o 0)] (mm_isOtherT l D k o pl sb B Ln Rm Rd Pl Mk G Sz Kp th g (by omega)) (vGV q_838 q_840 q_14 q_29 q_841) ⟨by decide, by decide, (show _ = some 1 from by decide +kernel)⟩ ⟨Nat.le_of_ble_eq_true rfl, Nat.le_of_ble_eq_true rfl⟩ 0 4 rfl rfl rfl rfl (Nat.le_of_ble_eq_true rfl) dX4_pour_3 ⟨Nat.zero_le _, Nat.zero_le _⟩ ?_
  refine vIfN_eqF X 17 dX4_pour_6 (by decide) (by omega) (by omega) ?_
  refine vAloadN X dX4_pour_9 0 rfl ?_
  refine vIloadN X dX4_pour_10 2 rfl ?_
  refine vCallVd X [.ref (o 0)] (mm_isOtherT l D k o pl sb B Ln Rm Rd Pl Mk G Sz Kp th u (by omega)) (vGV q_838 q_840 q_14 q_29 q_841) ⟨by decide, by decide, (show _ = some 1 from by decide +kernel)⟩ ⟨Nat.le_of_ble_eq_true rfl, Nat.le_of_ble_eq_true rfl⟩ 0 4 rfl rfl rfl rfl (Nat.le_of_ble_eq_true rfl) dX4_pour_11 ⟨Nat.zero_le _, Nat.zero_le _⟩ ?_
  refine vIfN_neT X 21 dX4_pour_14 (by decide) (by omega) (by omega) ?_
  refine vAloadN X dX4_pour_21 0 rfl ?_
  refine vGet X (C := RX4) (T := TX4) (N := 10) (ci := 4) (vcons inM) rfl 0 rfl 3 (by decide) (List.mem_cons_of_mem _ q_745) (fun _ h => h) rfl dX4_pour_22 ?_
  refine vIloadN X dX4_pour_25 1 rfl ?_
  refine vIaload X (v := nI (a)) 4 1 rfl rfl rfl (by omega) (by decide) (oI_some hgRd) dX4_pour_26 ?_
  refine vIfN_geT X 34 dX4_pour_27 (by decide) (by omega) (by omega) ?_
  refine vAloadN X dX4_pour_34 0 rfl ?_
  refine vIloadN X dX4_pour_35 2 rfl ?_
  refine vAloadN X dX4_pour_36 0 rfl ?_
  refine vIloadN X dX4_pour_37 1 rfl ?_
  refine vCallVd X [.int (nI (u)), .ref (o 0), .ref (o 0)] (mm_leftOf l D k o pl sb B Ln Rm Rd Pl Mk G Sz Kp th g a (Pl (g)) (by omega) hgRd (by omega) (by omega) rfl (by omega)) (vGV q_879 q_881 q_17 q_29 q_882) ⟨by decide, by decide, (show _ = some 1 from by decide +kernel)⟩ ⟨Nat.le_of_ble_eq_true rfl, Nat.le_of_ble_eq_true rfl⟩ 0 4 rfl rfl rfl rfl (Nat.le_of_ble_eq_true rfl) dX4_pour_38 ⟨Nat.zero_le _, Nat.zero_le _⟩ ?_
  refine vCallVd X [.ref (o 0)] (mm_isFullF l D k o pl sb B Ln Rm Rd Pl Mk G Sz Kp th u ((Ln a) - (Pl (g))) (by omega) (by omega)) (vGV q_842 q_844 q_15 q_29 q_845) ⟨by decide, by decide, (show _ = some 2 from by decide +kernel)⟩ ⟨Nat.le_of_ble_eq_true rfl, Nat.le_of_ble_eq_true rfl⟩ 0 4 rfl rfl rfl rfl (Nat.le_of_ble_eq_true rfl) dX4_pour_41 ⟨Nat.zero_le _, Nat.zero_le _⟩ ?_
  refine vIfN_eqT X 51 dX4_pour_44 (by decide) (by omega) (by omega) ?_
  refine vIconst X dX4_pour_51 (v := nI (0)) (by decide) ?_
  refine vCallVd X [] (mm_isWrong0 l D k o pl sb B Ln Rm Rd Pl Mk G Sz Kp th ) (vGV q_786 q_788 q_8 q_29 q_789) ⟨by decide, by decide, (show _ = some 1 from by decide +kernel)⟩ ⟨Nat.le_of_ble_eq_true rfl, Nat.le_of_ble_eq_true rfl⟩ 0 4 rfl rfl rfl rfl (Nat.le_of_ble_eq_true rfl) dX4_pour_52 ⟨Nat.zero_le _, Nat.zero_le _⟩ ?_
  refine vIfN_eqT X 60 dX4_pour_55 (by decide) (by omega) (by omega) ?_
  refine vAloadN X dX4_pour_60 0 rfl ?_
  refine vIloadN X dX4_pour_61 1 rfl ?_
  refine vSipush X dX4_pour_62 (v := nI (256)) (by decide) ?_
  refine vCallVd X [] (mm_keeps l D k o pl sb B Ln Rm Rd Pl Mk G Sz Kp (nI (0)) g a (256) n hg hgRd (by omega) (by omega) (by omega) (by omega) (by omega)) (vGV q_903 q_905 q_20 q_29 q_906) ⟨by decide, by decide, (show _ = some 2 from by decide +kernel)⟩ ⟨Nat.le_of_ble_eq_true rfl, Nat.le_of_ble_eq_true rfl⟩ 0 4 rfl rfl rfl rfl (Nat.le_of_ble_eq_true rfl) dX4_pour_65 ⟨Nat.zero_le _, Nat.zero_le _⟩ ?_
  refine vIstoreN X [(3, .int (nI (n))), (0, .ref (o 0)), (1, .int (nI (g))), (2, .int (nI (u)))] dX4_pour_68 (by decide) rfl ?_
  refine vIconst X dX4_pour_69 (v := nI (0)) (by decide) ?_
  refine vIstore X [(4, .int (nI (0))), (3, .int (nI (n))), (0, .ref (o 0)), (1, .int (nI (g))), (2, .int (nI (u)))] dX4_pour_70 (by decide) rfl ?_
  refine vSub [0, 1, 2, 3, 4] [(4, .int (nI (0))), (3, .int (nI (n))), (0, .ref (o 0)), (1, .int (nI (g))), (2, .int (nI (u)))] rfl ?_
  refine mL_pour D k o pl sb B Ln Rm Rd (va_up Pl g (Pl g + n)) Mk G Sz (cpK Kp n (fun j => B a (Pl g + j))) (nI (0)) g u n hu (by omega) (fun j hj => by simp only [cpK, if_pos hj, hBF]) X ?_ (n) 0 _ _ (by omega) (cpG_0 _ _ _ _) (va_up_id _ _ _ rfl)
  refine vIloadN X dX4_pour_96 0 rfl ?_
  exact vRetI X hret dX4_pour_97 ⟨rfl, by rw [cpG_K]⟩
set_option maxHeartbeats 4000000 in
set_option maxRecDepth 100000 in
theorem mm_pourParts1a (l : Launch) (D : va_G) (k : Nat → ClassId) (o : Nat → Nat) (pl : va_W) (sb : Nat) (B : Nat → Nat → Int32) (Ln Rm : Nat → Nat) (Rd : Nat → Option Nat) (Pl Mk : Nat → Nat) (G : Nat → Nat → Int32) (Sz : Nat → Nat) (Kp : Nat → Int32) (th : Int32) (x y v : Int32) (hx : ¬ vOther x) : vCt l yX4_pourParts cX4_pourParts 4 (some .int) 3 70 0 0 D vCl (vTy k) sb [.ref (o 0), .int (x), .int (y), .int (v)] (mW k o pl B Ln Rm Rd Pl Mk G Sz Kp th) (vDet (some (.int (nI (0)))) (mW k o pl B Ln Rm Rd Pl Mk G Sz Kp (nI (1)))) := by
  refine vOf (by decide +kernel) (Nat.le_of_ble_eq_true rfl) (fun p9 e9 s9 m9 below9 meth9 c9 X hret _ => ?_)
  refine vAloadN X dX4_pourParts_0 0 rfl ?_
  refine vAloadN X dX4_pourParts_1 0 rfl ?_
  refine vIloadN X dX4_pourParts_2 1 rfl ?_
  refine vCallVd X [.ref (o 0)] (mm_isOtherF l D k o pl sb B Ln Rm Rd Pl Mk G Sz Kp th x hx) (vGV q_838 q_840 q_14 q_29 q_841) ⟨by decide, by decide, (show _ = some 1 from by decide +kernel)⟩ ⟨Nat.le_of_ble_eq_true rfl, Nat.le_of_ble_eq_true rfl⟩ 0 4 rfl rfl rfl rfl (Nat.le_of_ble_eq_true rfl) dX4_pourParts_3 ⟨Nat.zero_le _, Nat.zero_le _⟩ ?_
  refine vIfN_eqT X 17 dX4_pourParts_6 (by decide) (by omega) (by omega) ?_
  refine vIconst X dX4_pourParts_17 (v := nI (1)) (by decide) ?_
  refine vGoto X 67 dX4_pourParts_18 (by decide) ?_
  refine vCallVd X [] (mm_isWrong1 l D k o pl sb B Ln Rm Rd Pl Mk G Sz Kp th 1 (by decide) (by decide)) (vGV q_786 q_788 q_8 q_29 q_789) ⟨by decide, by decide, (show _ = some 1 from by decide +kernel)⟩ ⟨Nat.le_of_ble_eq_true rfl, Nat.le_of_ble_eq_true rfl⟩ 0 4 rfl rfl rfl rfl (Nat.le_of_ble_eq_true rfl) dX4_pourParts_67 ⟨Nat.zero_le _, Nat.zero_le _⟩ ?_
  refine vIfN_eqF X 75 dX4_pourParts_70 (by decide) (by omega) (by omega) ?_
  refine vIconst X dX4_pourParts_73 (v := nI (0)) (by decide) ?_
  exact vRetI X hret dX4_pourParts_74 ⟨rfl, rfl⟩
set_option maxHeartbeats 4000000 in
set_option maxRecDepth 100000 in
theorem mm_pourParts1b (l : Launch) (D : va_G) (k : Nat → ClassId) (o : Nat → Nat) (pl : va_W) (sb : Nat) (B : Nat → Nat → Int32) (Ln Rm : Nat → Nat) (Rd : Nat → Option Nat) (Pl Mk : Nat → Nat) (G : Nat → Nat → Int32) (Sz : Nat → Nat) (Kp : Nat → Int32) (th : Int32) (g : Nat) (y v : Int32) (hg : g < 3) (hy : ¬ vOther y) : vCt l yX4_pourParts cX4_pourParts 4 (some .int) 3 70 0 0 D vCl (vTy k) sb [.ref (o 0), .int (nI (g)), .int (y), .int (v)] (mW k o pl B Ln Rm Rd Pl Mk G Sz Kp th) (vDet (some (.int (nI (0)))) (mW k o pl B Ln Rm Rd Pl Mk G Sz Kp (nI (1)))) := by
  refine vOf (by decide +kernel) (Nat.le_of_ble_eq_true rfl) (fun p9 e9 s9 m9 below9 meth9 c9 X hret _ => ?_)
  refine vAloadN X dX4_pourParts_0 0 rfl ?_
  refine vAloadN X dX4_pourParts_1 0 rfl ?_
  refine vIloadN X dX4_pourParts_2 1 rfl ?_
  refine vCallVd X [.ref (o 0)] (mm_isOtherT l D k o pl sb B Ln Rm Rd Pl Mk G Sz Kp th g (by omega)) (vGV q_838 q_840 q_14 q_29 q_841) ⟨by decide, by decide, (show _ = some 1 from by decide +kernel)⟩ ⟨Nat.le_of_ble_eq_true rfl, Nat.le_of_ble_eq_true rfl⟩ 0 4 rfl rfl rfl rfl (Nat.le_of_ble_eq_true rfl) dX4_pourParts_3 ⟨Nat.zero_le _, Nat.zero_le _⟩ ?_
  refine vIfN_eqF X 17 dX4_pourParts_6 (by decide) (by omega) (by omega) ?_
  refine vAloadN X dX4_pourParts_9 0 rfl ?_
  refine vIloadN X dX4_pourParts_10 2 rfl ?_
  refine vCallVd X [.ref (o 0)] (mm_isOtherF l D k o pl sb B Ln Rm Rd Pl Mk G Sz Kp th y hy) (vGV q_838 q_840 q_14 q_29 q_841) ⟨by decide, by decide, (show _ = some 1 from by decide +kernel)⟩ ⟨Nat.le_of_ble_eq_true rfl, Nat.le_of_ble_eq_true rfl⟩ 0 4 rfl rfl rfl rfl (Nat.le_of_ble_eq_true rfl) dX4_pourParts_11 ⟨Nat.zero_le _, Nat.zero_le _⟩ ?_
  refine vIfN_neF X 21 dX4_pourParts_14 (by decide) (by omega) (by omega) ?_
  refine vIconst X dX4_pourParts_17 (v := nI (1)) (by decide) ?_
  refine vGoto X 67 dX4_pourParts_18 (by decide) ?_
  refine vCallVd X [] (mm_isWrong1 l D k o pl sb B Ln Rm Rd Pl Mk G Sz Kp th 1 (by decide) (by decide)) (vGV q_786 q_788 q_8 q_29 q_789) ⟨by decide, by decide, (show _ = some 1 from by decide +kernel)⟩ ⟨Nat.le_of_ble_eq_true rfl, Nat.le_of_ble_eq_true rfl⟩ 0 4 rfl rfl rfl rfl (Nat.le_of_ble_eq_true rfl) dX4_pourParts_67 ⟨Nat.zero_le _, Nat.zero_le _⟩ ?_
  refine vIfN_eqF X 75 dX4_pourParts_70 (by decide) (by omega) (by omega) ?_
  refine vIconst X dX4_pourParts_73 (v := nI (0)) (by decide) ?_
  exact vRetI X hret dX4_pourParts_74 ⟨rfl, rfl⟩
set_option maxHeartbeats 4000000 in
set_option maxRecDepth 100000 in
theorem mm_pourParts2a (l : Launch) (D : va_G) (k : Nat → ClassId) (o : Nat → Nat) (pl : va_W) (sb : Nat) (B : Nat → Nat → Int32) (Ln Rm : Nat → Nat) (Rd : Nat → Option Nat) (Pl Mk : Nat → Nat) (G : Nat → Nat → Int32) (Sz : Nat → Nat) (Kp : Nat → Int32) (th : Int32) (g u : Nat) (v : Int32) (hg : g < 3) (hu : u < 3) (hv : v < nI 1) : vCt l yX4_pourParts cX4_pourParts 4 (some .int) 3 70 0 0 D vCl (vTy k) sb [.ref (o 0), .int (nI (g)), .int (nI (u)), .int (v)] (mW k o pl B Ln Rm Rd Pl Mk G Sz Kp th) (vDet (some (.int (nI (0)))) (mW k o pl B Ln Rm Rd Pl Mk G Sz Kp (nI (2)))) := by
  refine vOf (by decide +kernel) (Nat.le_of_ble_eq_true rfl) (fun p9 e9 s9 m9 below9 meth9 c9 X hret _ => ?_)
  refine vAloadN X dX4_pourParts_0 0 rfl ?_
  refine vAloadN X dX4_pourParts_1 0 rfl ?_
  refine vIloadN X dX4_pourParts_2 1 rfl ?_
  refine vCallVd X [.ref (o 0)] (mm_isOtherT l D k o pl sb B Ln Rm Rd Pl Mk G Sz Kp th g (by omega)) (vGV q_838 q_840 q_14 q_29 q_841) ⟨by decide, by decide, (show _ = some 1 from by decide +kernel)⟩ ⟨Nat.le_of_ble_eq_true rfl, Nat.le_of_ble_eq_true rfl⟩ 0 4 rfl rfl rfl rfl (Nat.le_of_ble_eq_true rfl) dX4_pourParts_3 ⟨Nat.zero_le _, Nat.zero_le _⟩ ?_
  refine vIfN_eqF X 17 dX4_pourParts_6 (by decide) (by omega) (by omega) ?_
  refine vAloadN X dX4_pourParts_9 0 rfl ?_
  refine vIloadN X dX4_pourParts_10 2 rfl ?_
  refine vCallVd X [.ref (o 0)] (mm_isOtherT l D k o pl sb B Ln Rm Rd Pl Mk G Sz Kp th u (by omega)) (vGV q_838 q_840 q_14 q_29 q_841) ⟨by decide, by decide, (show _ = some 1 from by decide +kernel)⟩ ⟨Nat.le_of_ble_eq_true rfl, Nat.le_of_ble_eq_true rfl⟩ 0 4 rfl rfl rfl rfl (Nat.le_of_ble_eq_true rfl) dX4_pourParts_11 ⟨Nat.zero_le _, Nat.zero_le _⟩ ?_
  refine vIfN_neT X 21 dX4_pourParts_14 (by decide) (by omega) (by omega) ?_
  refine vIloadN X dX4_pourParts_21 3 rfl ?_
  refine vIconst X dX4_pourParts_22 (v := nI (1)) (by decide) ?_
  refine vIcmp_ltT X 32 dX4_pourParts_23 (by decide) (by first | assumption | exact Int32.not_lt.mpr (by assumption) | exact Int32.not_le.mpr (by assumption) | exact Int32.not_lt.mp (by assumption) | exact Int32.not_le.mp (by assumption) | decide) ?_
  refine vIconst X dX4_pourParts_32 (v := nI (2)) (by decide) ?_
  refine vGoto X 67 dX4_pourParts_33 (by decide) ?_
  refine vCallVd X [] (mm_isWrong1 l D k o pl sb B Ln Rm Rd Pl Mk G Sz Kp th 2 (by decide) (by decide)) (vGV q_786 q_788 q_8 q_29 q_789) ⟨by decide, by decide, (show _ = some 1 from by decide +kernel)⟩ ⟨Nat.le_of_ble_eq_true rfl, Nat.le_of_ble_eq_true rfl⟩ 0 4 rfl rfl rfl rfl (Nat.le_of_ble_eq_true rfl) dX4_pourParts_67 ⟨Nat.zero_le _, Nat.zero_le _⟩ ?_
  refine vIfN_eqF X 75 dX4_pourParts_70 (by decide) (by omega) (by omega) ?_
  refine vIconst X dX4_pourParts_73 (v := nI (0)) (by decide) ?_
  exact vRetI X hret dX4_pourParts_74 ⟨rfl, rfl⟩
set_option maxHeartbeats 4000000 in
set_option maxRecDepth 100000 in
theorem mm_pourParts2b (l : Launch) (D : va_G) (k : Nat → ClassId) (o : Nat → Nat) (pl : va_W) (sb : Nat) (B : Nat → Nat → Int32) (Ln Rm : Nat → Nat) (Rd : Nat → Option Nat) (Pl Mk : Nat → Nat) (G : Nat → Nat → Int32) (Sz : Nat → Nat) (Kp : Nat → Int32) (th : Int32) (g u : Nat) (v : Int32) (hg : g < 3) (hu : u < 3) (hv0 : nI 1 ≤ v) (hv : nI 64 < v) : vCt l yX4_pourParts cX4_pourParts 4 (some .int) 3 70 0 0 D vCl (vTy k) sb [.ref (o 0), .int (nI (g)), .int (nI (u)), .int (v)] (mW k o pl B Ln Rm Rd Pl Mk G Sz Kp th) (vDet (some (.int (nI (0)))) (mW k o pl B Ln Rm Rd Pl Mk G Sz Kp (nI (2)))) := by
  refine vOf (by decide +kernel) (Nat.le_of_ble_eq_true rfl) (fun p9 e9 s9 m9 below9 meth9 c9 X hret _ => ?_)
  refine vAloadN X dX4_pourParts_0 0 rfl ?_
  refine vAloadN X dX4_pourParts_1 0 rfl ?_
  refine vIloadN X dX4_pourParts_2 1 rfl ?_
  refine vCallVd X [.ref (o 0)] (mm_isOtherT l D k o pl sb B Ln Rm Rd Pl Mk G Sz Kp th g (by omega)) (vGV q_838 q_840 q_14 q_29 q_841) ⟨by decide, by decide, (show _ = some 1 from by decide +kernel)⟩ ⟨Nat.le_of_ble_eq_true rfl, Nat.le_of_ble_eq_true rfl⟩ 0 4 rfl rfl rfl rfl (Nat.le_of_ble_eq_true rfl) dX4_pourParts_3 ⟨Nat.zero_le _, Nat.zero_le _⟩ ?_
  refine vIfN_eqF X 17 dX4_pourParts_6 (by decide) (by omega) (by omega) ?_
  refine vAloadN X dX4_pourParts_9 0 rfl ?_
  refine vIloadN X dX4_pourParts_10 2 rfl ?_
  refine vCallVd X [.ref (o 0)] (mm_isOtherT l D k o pl sb B Ln Rm Rd Pl Mk G Sz Kp th u (by omega)) (vGV q_838 q_840 q_14 q_29 q_841) ⟨by decide, by decide, (show _ = some 1 from by decide +kernel)⟩ ⟨Nat.le_of_ble_eq_true rfl, Nat.le_of_ble_eq_true rfl⟩ 0 4 rfl rfl rfl rfl (Nat.le_of_ble_eq_true rfl) dX4_pourParts_11 ⟨Nat.zero_le _, Nat.zero_le _⟩ ?_
  refine vIfN_neT X 21 dX4_pourParts_14 (by decide) (by omega) (by omega) ?_
  refine vIloadN X dX4_pourParts_21 3 rfl ?_
  refine vIconst X dX4_pourParts_22 (v := nI (1)) (by decide) ?_
  refine vIcmp_ltF X 32 dX4_pourParts_23 (by decide) (by first | assumption | exact Int32.not_lt.mpr (by assumption) | exact Int32.not_le.mpr (by assumption) | exact Int32.not_lt.mp (by assumption) | exact Int32.not_le.mp (by assumption) | decide) ?_
  refine vIloadN X dX4_pourParts_26 3 rfl ?_
  refine vBipush X dX4_pourParts_27 (v := nI (64)) (by decide) ?_
  refine vIcmp_leF X 36 dX4_pourParts_29 (by decide) (by first | assumption | exact Int32.not_lt.mpr (by assumption) | exact Int32.not_le.mpr (by assumption) | exact Int32.not_lt.mp (by assumption) | exact Int32.not_le.mp (by assumption) | decide) ?_
  refine vIconst X dX4_pourParts_32 (v := nI (2)) (by decide) ?_
  refine vGoto X 67 dX4_pourParts_33 (by decide) ?_
  refine vCallVd X [] (mm_isWrong1 l D k o pl sb B Ln Rm Rd Pl Mk G Sz Kp th 2 (by decide) (by decide)) (vGV q_786 q_788 q_8 q_29 q_789) ⟨by decide, by decide, (show _ = some 1 from by decide +kernel)⟩ ⟨Nat.le_of_ble_eq_true rfl, Nat.le_of_ble_eq_true rfl⟩ 0 4 rfl rfl rfl rfl (Nat.le_of_ble_eq_true rfl) dX4_pourParts_67 ⟨Nat.zero_le _, Nat.zero_le _⟩ ?_
  refine vIfN_eqF X 75 dX4_pourParts_70 (by decide) (by omega) (by omega) ?_
  refine vIconst X dX4_pourParts_73 (v := nI (0)) (by decide) ?_
  exact vRetI X hret dX4_pourParts_74 ⟨rfl, rfl⟩
set_option maxHeartbeats 4000000 in
set_option maxRecDepth 100000 in
theorem mm_pourParts3 (l : Launch) (D : va_G) (k : Nat → ClassId) (o : Nat → Nat) (pl : va_W) (sb : Nat) (B : Nat → Nat → Int32) (Ln Rm : Nat → Nat) (Rd : Nat → Option Nat) (Pl Mk : Nat → Nat) (G : Nat → Nat → Int32) (Sz : Nat → Nat) (Kp : Nat → Int32) (th : Int32) (g u d : Nat) (hg : g < 3) (hu : u < 3) (hd1 : 1 ≤ d) (hd : d ≤ 64) (hgRd : Rd g = none) : vCt l yX4_pourParts cX4_pourParts 4 (some .int) 3 70 0 0 D vCl (vTy k) sb [.ref (o 0), .int (nI (g)), .int (nI (u)), .int (nI (d))] (mW k o pl B Ln Rm Rd Pl Mk G Sz Kp th) (vDet (some (.int (nI (0)))) (mW k o pl B Ln Rm Rd Pl Mk G Sz Kp (nI (3)))) := by
  refine vOf (by decide +kernel) (Nat.le_of_ble_eq_true rfl) (fun p9 e9 s9 m9 below9 meth9 c9 X hret _ => ?_)
  refine vAloadN X dX4_pourParts_0 0 rfl ?_
  refine vAloadN X dX4_pourParts_1 0 rfl ?_
  refine vIloadN X dX4_pourParts_2 1 rfl ?_
  refine vCallVd X [.ref (o 0)] (mm_isOtherT l D k o pl sb B Ln Rm Rd Pl Mk G Sz Kp th g (by omega)) (vGV q_838 q_840 q_14 q_29 q_841) ⟨by decide, by decide, (show _ = some 1 from by decide +kernel)⟩ ⟨Nat.le_of_ble_eq_true rfl, Nat.le_of_ble_eq_true rfl⟩ 0 4 rfl rfl rfl rfl (Nat.le_of_ble_eq_true rfl) dX4_pourParts_3 ⟨Nat.zero_le _, Nat.zero_le _⟩ ?_
  refine vIfN_eqF X 17 dX4_pourParts_6 (by decide) (by omega) (by omega) ?_
  refine vAloadN X dX4_pourParts_9 0 rfl ?_
  refine vIloadN X dX4_pourParts_10 2 rfl ?_
  refine vCallVd X [.ref (o 0)] (mm_isOtherT l D k o pl sb B Ln Rm Rd Pl Mk G Sz Kp th u (by omega)) (vGV q_838 q_840 q_14 q_29 q_841) ⟨by decide, by decide, (show _ = some 1 from by decide +kernel)⟩ ⟨Nat.le_of_ble_eq_true rfl, Nat.le_of_ble_eq_true rfl⟩ 0 4 rfl rfl rfl rfl (Nat.le_of_ble_eq_true rfl) dX4_pourParts_11 ⟨Nat.zero_le _, Nat.zero_le _⟩ ?_
  refine vIfN_neT X 21 dX4_pourParts_14 (by decide) (by omega) (by omega) ?_
  refine vIloadN X dX4_pourParts_21 3 rfl ?_
  refine vIconst X dX4_pourParts_22 (v := nI (1)) (by decide) ?_
  refine vIcmpN_ltF X 32 dX4_pourParts_23 (by decide) (by omega) (by omega) (by omega) ?_
  refine vIloadN X dX4_pourParts_26 3 rfl ?_
  refine vBipush X dX4_pourParts_27 (v := nI (64)) (by decide) ?_
  refine vIcmpN_leT X 36 dX4_pourParts_29 (by decide) (by omega) (by omega) (by omega) ?_
  refine vAloadN X dX4_pourParts_36 0 rfl ?_
  refine vGet X (C := RX4) (T := TX4) (N := 10) (ci := 4) (vcons inM) rfl 0 rfl 3 (by decide) (List.mem_cons_of_mem _ q_745) (fun _ h => h) rfl dX4_pourParts_37 ?_
  refine vIloadN X dX4_pourParts_40 1 rfl ?_
  refine vIaload X (v := (-1 : Int32)) 4 1 rfl rfl rfl (by omega) (by decide) (oI_none hgRd) dX4_pourParts_41 ?_
  refine vIf_geF X 49 dX4_pourParts_42 (by decide) (by first | assumption | exact Int32.not_lt.mpr (by assumption) | exact Int32.not_le.mpr (by assumption) | exact Int32.not_lt.mp (by assumption) | exact Int32.not_le.mp (by assumption) | decide) ?_
  refine vIconst X dX4_pourParts_45 (v := nI (3)) (by decide) ?_
  refine vGoto X 67 dX4_pourParts_46 (by decide) ?_
  refine vCallVd X [] (mm_isWrong1 l D k o pl sb B Ln Rm Rd Pl Mk G Sz Kp th 3 (by decide) (by decide)) (vGV q_786 q_788 q_8 q_29 q_789) ⟨by decide, by decide, (show _ = some 1 from by decide +kernel)⟩ ⟨Nat.le_of_ble_eq_true rfl, Nat.le_of_ble_eq_true rfl⟩ 0 4 rfl rfl rfl rfl (Nat.le_of_ble_eq_true rfl) dX4_pourParts_67 ⟨Nat.zero_le _, Nat.zero_le _⟩ ?_
  refine vIfN_eqF X 75 dX4_pourParts_70 (by decide) (by omega) (by omega) ?_
  refine vIconst X dX4_pourParts_73 (v := nI (0)) (by decide) ?_
  exact vRetI X hret dX4_pourParts_74 ⟨rfl, rfl⟩
set_option maxHeartbeats 4000000 in
set_option maxRecDepth 100000 in
theorem mm_pourParts4 (l : Launch) (D : va_G) (k : Nat → ClassId) (o : Nat → Nat) (pl : va_W) (sb : Nat) (B : Nat → Nat → Int32) (Ln Rm : Nat → Nat) (Rd : Nat → Option Nat) (Pl Mk : Nat → Nat) (G : Nat → Nat → Int32) (Sz : Nat → Nat) (Kp : Nat → Int32) (th : Int32) (g a u d : Nat) (hg : g < 3) (hgRd : Rd g = some a) (ha : a < 8) (hla : Ln a ≤ 256) (hpl : Pl g ≤ Ln a) (hu : u < 3) (hd1 : 1 ≤ d) (hd : d ≤ 64) (hsu : Sz u ≤ 256) (hs : 256 < Sz u + (Ln a - Pl g)) : vCt l yX4_pourParts cX4_pourParts 4 (some .int) 3 70 0 0 D vCl (vTy k) sb [.ref (o 0), .int (nI (g)), .int (nI (u)), .int (nI (d))] (mW k o pl B Ln Rm Rd Pl Mk G Sz Kp th) (vDet (some (.int (nI (0)))) (mW k o pl B Ln Rm Rd Pl Mk G Sz Kp (nI (4)))) := by
  refine vOf (by decide +kernel) (Nat.le_of_ble_eq_true rfl) (fun p9 e9 s9 m9 below9 meth9 c9 X hret _ => ?_)
  refine vAloadN X dX4_pourParts_0 0 rfl ?_
  refine vAloadN X dX4_pourParts_1 0 rfl ?_
  refine vIloadN X dX4_pourParts_2 1 rfl ?_
  refine vCallVd X [.ref (o 0)] (mm_isOtherT l D k o pl sb B Ln Rm Rd Pl Mk G Sz Kp th g (by omega)) (vGV q_838 q_840 q_14 q_29 q_841) ⟨by decide, by decide, (show _ = some 1 from by decide +kernel)⟩ ⟨Nat.le_of_ble_eq_true rfl, Nat.le_of_ble_eq_true rfl⟩ 0 4 rfl rfl rfl rfl (Nat.le_of_ble_eq_true rfl) dX4_pourParts_3 ⟨Nat.zero_le _, Nat.zero_le _⟩ ?_
  refine vIfN_eqF X 17 dX4_pourParts_6 (by decide) (by omega) (by omega) ?_
  refine vAloadN X dX4_pourParts_9 0 rfl ?_
  refine vIloadN X dX4_pourParts_10 2 rfl ?_
  refine vCallVd X [.ref (o 0)] (mm_isOtherT l D k o pl sb B Ln Rm Rd Pl Mk G Sz Kp th u (by omega)) (vGV q_838 q_840 q_14 q_29 q_841) ⟨by decide, by decide, (show _ = some 1 from by decide +kernel)⟩ ⟨Nat.le_of_ble_eq_true rfl, Nat.le_of_ble_eq_true rfl⟩ 0 4 rfl rfl rfl rfl (Nat.le_of_ble_eq_true rfl) dX4_pourParts_11 ⟨Nat.zero_le _, Nat.zero_le _⟩ ?_
  refine vIfN_neT X 21 dX4_pourParts_14 (by decide) (by omega) (by omega) ?_
  refine vIloadN X dX4_pourParts_21 3 rfl ?_
  refine vIconst X dX4_pourParts_22 (v := nI (1)) (by decide) ?_
  refine vIcmpN_ltF X 32 dX4_pourParts_23 (by decide) (by omega) (by omega) (by omega) ?_
  refine vIloadN X dX4_pourParts_26 3 rfl ?_
  refine vBipush X dX4_pourParts_27 (v := nI (64)) (by decide) ?_
  refine vIcmpN_leT X 36 dX4_pourParts_29 (by decide) (by omega) (by omega) (by omega) ?_
  refine vAloadN X dX4_pourParts_36 0 rfl ?_
  refine vGet X (C := RX4) (T := TX4) (N := 10) (ci := 4) (vcons inM) rfl 0 rfl 3 (by decide) (List.mem_cons_of_mem _ q_745) (fun _ h => h) rfl dX4_pourParts_37 ?_
  refine vIloadN X dX4_pourParts_40 1 rfl ?_
  refine vIaload X (v := nI (a)) 4 1 rfl rfl rfl (by omega) (by decide) (oI_some hgRd) dX4_pourParts_41 ?_
  refine vIfN_geT X 49 dX4_pourParts_42 (by decide) (by omega) (by omega) ?_
  refine vAloadN X dX4_pourParts_49 0 rfl ?_
  refine vIloadN X dX4_pourParts_50 2 rfl ?_
  refine vAloadN X dX4_pourParts_51 0 rfl ?_
  refine vIloadN X dX4_pourParts_52 1 rfl ?_
  refine vCallVd X [.int (nI (u)), .ref (o 0), .ref (o 0)] (mm_leftOf l D k o pl sb B Ln Rm Rd Pl Mk G Sz Kp th g a (Pl (g)) (by omega) hgRd (by omega) (by omega) rfl (by omega)) (vGV q_879 q_881 q_17 q_29 q_882) ⟨by decide, by decide, (show _ = some 1 from by decide +kernel)⟩ ⟨Nat.le_of_ble_eq_true rfl, Nat.le_of_ble_eq_true rfl⟩ 0 4 rfl rfl rfl rfl (Nat.le_of_ble_eq_true rfl) dX4_pourParts_53 ⟨Nat.zero_le _, Nat.zero_le _⟩ ?_
  refine vCallVd X [.ref (o 0)] (mm_isFullT l D k o pl sb B Ln Rm Rd Pl Mk G Sz Kp th u ((Ln a) - (Pl (g))) (by omega) (by omega) (by omega) (by omega)) (vGV q_842 q_844 q_15 q_29 q_845) ⟨by decide, by decide, (show _ = some 2 from by decide +kernel)⟩ ⟨Nat.le_of_ble_eq_true rfl, Nat.le_of_ble_eq_true rfl⟩ 0 4 rfl rfl rfl rfl (Nat.le_of_ble_eq_true rfl) dX4_pourParts_56 ⟨Nat.zero_le _, Nat.zero_le _⟩ ?_
  refine vIfN_eqF X 66 dX4_pourParts_59 (by decide) (by omega) (by omega) ?_
  refine vIconst X dX4_pourParts_62 (v := nI (4)) (by decide) ?_
  refine vGoto X 67 dX4_pourParts_63 (by decide) ?_
  refine vCallVd X [] (mm_isWrong1 l D k o pl sb B Ln Rm Rd Pl Mk G Sz Kp th 4 (by decide) (by decide)) (vGV q_786 q_788 q_8 q_29 q_789) ⟨by decide, by decide, (show _ = some 1 from by decide +kernel)⟩ ⟨Nat.le_of_ble_eq_true rfl, Nat.le_of_ble_eq_true rfl⟩ 0 4 rfl rfl rfl rfl (Nat.le_of_ble_eq_true rfl) dX4_pourParts_67 ⟨Nat.zero_le _, Nat.zero_le _⟩ ?_
  refine vIfN_eqF X 75 dX4_pourParts_70 (by decide) (by omega) (by omega) ?_
  refine vIconst X dX4_pourParts_73 (v := nI (0)) (by decide) ?_
  exact vRetI X hret dX4_pourParts_74 ⟨rfl, rfl⟩
set_option maxHeartbeats 4000000 in
set_option maxRecDepth 100000 in
theorem mm_pourParts0 (l : Launch) (D : va_G) (k : Nat → ClassId) (o : Nat → Nat) (pl : va_W) (sb : Nat) (B : Nat → Nat → Int32) (Ln Rm : Nat → Nat) (Rd : Nat → Option Nat) (Pl Mk : Nat → Nat) (G : Nat → Nat → Int32) (Sz : Nat → Nat) (Kp : Nat → Int32) (th : Int32) (g a u n d : Nat) (hg : g < 3) (hgRd : Rd g = some a) (ha : a < 8) (hla : Ln a ≤ 256) (hpl : Pl g ≤ Ln a) (hu : u < 3) (hd1 : 1 ≤ d) (hd : d ≤ 64) (hn : n = Ln a - Pl g) (hs : Sz u + n ≤ 256) (hBF : ∀ a b, lb (B a b) = B a b) : vCt l yX4_pourParts cX4_pourParts 4 (some .int) 3 70 0 0 D vCl (vTy k) sb [.ref (o 0), .int (nI (g)), .int (nI (u)), .int (nI (d))] (mW k o pl B Ln Rm Rd Pl Mk G Sz Kp th) (vDet (some (.int (nI ((n + d - 1) / d)))) (mW k o pl B Ln Rm Rd (va_up Pl g (Pl g + n)) Mk (cpG G u (Sz u) n (fun j => B a (Pl g + j))) (va_up Sz u (Sz u + n)) (cpK Kp n (fun j => B a (Pl g + j))) (nI 0))) := by
  refine vOf (by decide +kernel) (Nat.le_of_ble_eq_true rfl) (fun p9 e9 s9 m9 below9 meth9 c9 X hret _ => ?_)
  refine vAloadN X dX4_pourParts_0 0 rfl ?_
  refine vAloadN X dX4_pourParts_1 0 rfl ?_
  refine vIloadN X dX4_pourParts_2 1 rfl ?_
  refine vCallVd X [.ref (o 0)] (mm_isOtherT l D k o pl sb B Ln Rm Rd Pl Mk G Sz Kp th g (by omega)) (vGV q_838 q_840 q_14 q_29 q_841) ⟨by decide, by decide, (show _ = some 1 from by decide +kernel)⟩ ⟨Nat.le_of_ble_eq_true rfl, Nat.le_of_ble_eq_true rfl⟩ 0 4 rfl rfl rfl rfl (Nat.le_of_ble_eq_true rfl) dX4_pourParts_3 ⟨Nat.zero_le _, Nat.zero_le _⟩ ?_
  refine vIfN_eqF X 17 dX4_pourParts_6 (by decide) (by omega) (by omega) ?_
  refine vAloadN X dX4_pourParts_9 0 rfl ?_
  refine vIloadN X dX4_pourParts_10 2 rfl ?_
  refine vCallVd X [.ref (o 0)] (mm_isOtherT l D k o pl sb B Ln Rm Rd Pl Mk G Sz Kp th u (by omega)) (vGV q_838 q_840 q_14 q_29 q_841) ⟨by decide, by decide, (show _ = some 1 from by decide +kernel)⟩ ⟨Nat.le_of_ble_eq_true rfl, Nat.le_of_ble_eq_true rfl⟩ 0 4 rfl rfl rfl rfl (Nat.le_of_ble_eq_true rfl) dX4_pourParts_11 ⟨Nat.zero_le _, Nat.zero_le _⟩ ?_
  refine vIfN_neT X 21 dX4_pourParts_14 (by decide) (by omega) (by omega) ?_
  refine vIloadN X dX4_pourParts_21 3 rfl ?_
  refine vIconst X dX4_pourParts_22 (v := nI (1)) (by decide) ?_
  refine vIcmpN_ltF X 32 dX4_pourParts_23 (by decide) (by omega) (by omega) (by omega) ?_
  refine vIloadN X dX4_pourParts_26 3 rfl ?_
  refine vBipush X dX4_pourParts_27 (v := nI (64)) (by decide) ?_
  refine vIcmpN_leT X 36 dX4_pourParts_29 (by decide) (by omega) (by omega) (by omega) ?_
  refine vAloadN X dX4_pourParts_36 0 rfl ?_
  refine vGet X (C := RX4) (T := TX4) (N := 10) (ci := 4) (vcons inM) rfl 0 rfl 3 (by decide) (List.mem_cons_of_mem _ q_745) (fun _ h => h) rfl dX4_pourParts_37 ?_
  refine vIloadN X dX4_pourParts_40 1 rfl ?_
  refine vIaload X (v := nI (a)) 4 1 rfl rfl rfl (by omega) (by decide) (oI_some hgRd) dX4_pourParts_41 ?_
  refine vIfN_geT X 49 dX4_pourParts_42 (by decide) (by omega) (by omega) ?_
  refine vAloadN X dX4_pourParts_49 0 rfl ?_
  refine vIloadN X dX4_pourParts_50 2 rfl ?_
  refine vAloadN X dX4_pourParts_51 0 rfl ?_
  refine vIloadN X dX4_pourParts_52 1 rfl ?_
  refine vCallVd X [.int (nI (u)), .ref (o 0), .ref (o 0)] (mm_leftOf l D k o pl sb B Ln Rm Rd Pl Mk G Sz Kp th g a (Pl (g)) (by omega) hgRd (by omega) (by omega) rfl (by omega)) (vGV q_879 q_881 q_17 q_29 q_882) ⟨by decide, by decide, (show _ = some 1 from by decide +kernel)⟩ ⟨Nat.le_of_ble_eq_true rfl, Nat.le_of_ble_eq_true rfl⟩ 0 4 rfl rfl rfl rfl (Nat.le_of_ble_eq_true rfl) dX4_pourParts_53 ⟨Nat.zero_le _, Nat.zero_le _⟩ ?_
  refine vCallVd X [.ref (o 0)] (mm_isFullF l D k o pl sb B Ln Rm Rd Pl Mk G Sz Kp th u ((Ln a) - (Pl (g))) (by omega) (by omega)) (vGV q_842 q_844 q_15 q_29 q_845) ⟨by decide, by decide, (show _ = some 2 from by decide +kernel)⟩ ⟨Nat.le_of_ble_eq_true rfl, Nat.le_of_ble_eq_true rfl⟩ 0 4 rfl rfl rfl rfl (Nat.le_of_ble_eq_true rfl) dX4_pourParts_56 ⟨Nat.zero_le _, Nat.zero_le _⟩ ?_
  refine vIfN_eqT X 66 dX4_pourParts_59 (by decide) (by omega) (by omega) ?_
  refine vIconst X dX4_pourParts_66 (v := nI (0)) (by decide) ?_
  refine vCallVd X [] (mm_isWrong0 l D k o pl sb B Ln Rm Rd Pl Mk G Sz Kp th ) (vGV q_786 q_788 q_8 q_29 q_789) ⟨by decide, by decide, (show _ = some 1 from by decide +kernel)⟩ ⟨Nat.le_of_ble_eq_true rfl, Nat.le_of_ble_eq_true rfl⟩ 0 4 rfl rfl rfl rfl (Nat.le_of_ble_eq_true rfl) dX4_pourParts_67 ⟨Nat.zero_le _, Nat.zero_le _⟩ ?_
  refine vIfN_eqT X 75 dX4_pourParts_70 (by decide) (by omega) (by omega) ?_
  refine vAloadN X dX4_pourParts_75 0 rfl ?_
  refine vIloadN X dX4_pourParts_76 1 rfl ?_
  refine vIloadN X dX4_pourParts_77 2 rfl ?_
  refine vCallVd X [] (mm_pour0 l D k o pl sb B Ln Rm Rd Pl Mk G Sz Kp (nI (0)) g a u n hg hgRd ha hla hpl hu hn hs hBF) (vGV q_959 q_952 q_953 q_29 q_954) ⟨by decide, by decide, (show _ = some 2 from by decide +kernel)⟩ ⟨Nat.le_of_ble_eq_true rfl, Nat.le_of_ble_eq_true rfl⟩ 0 4 rfl rfl rfl rfl (Nat.le_of_ble_eq_true rfl) dX4_pourParts_78 ⟨Nat.zero_le _, Nat.zero_le _⟩ ?_
  refine vIloadN X dX4_pourParts_81 3 rfl ?_
  refine vIadd X dX4_pourParts_82 (v := nI ((n) + (d))) (nI_add _ _) ?_
  refine vIconst X dX4_pourParts_83 (v := nI (1)) (by decide) ?_
  refine vIsub X dX4_pourParts_84 (v := nI (((n) + (d)) - (1))) (pk_sub (by omega)) ?_
  refine vIloadN X dX4_pourParts_85 3 rfl ?_
  refine vIdiv X dX4_pourParts_86 (v := nI ((((n) + (d)) - (1)) / (d))) (nI_ne0 (by omega) (by omega)) (pk_div (by omega) (by omega) (by omega)) ?_
  exact vRetI X hret dX4_pourParts_87 ⟨rfl, rfl⟩
set_option maxHeartbeats 4000000 in
set_option maxRecDepth 100000 in
theorem mL_alike {p9 : Program} {l : Launch} {e9 : Env} {s9 : State} {m9 : MethodId} {args9 : Array Value} {below9 : List Frame} {meth9 : Method} {c9 : Code} {Q9 : State → Prop} (D : va_G) (k : Nat → ClassId) (o : Nat → Nat) (pl : va_W) (sb : Nat) (B : Nat → Nat → Int32) (Ln Rm : Nat → Nat) (Rd : Nat → Option Nat) (Pl Mk : Nat → Nat) (G : Nat → Nat → Int32) (Sz : Nat → Nat) (Kp : Nat → Int32) (th : Int32) (g u a b n : Nat) (hg : g < 3) (hu : u < 3) (hgu : ¬ g = u) (hgRd : Rd g = some a) (huRd : Rd u = some b) (ha : a < 8) (hb : b < 8) (hla : Ln a ≤ 256) (hlb : Ln b ≤ 256) (hpl : Pl g ≤ Ln a) (hpu : Pl u ≤ Ln b) (hn : n ≤ Ln a - Pl g) (hn2 : n ≤ Ln b - Pl u) (hnv : ∀ j, j < n → B a (Pl g + j) = B b (Pl u + j)) (X : vCX p9 s9 m9 args9 meth9 c9 cX4_alike 4 yX4_alike.cls (Cond.code yX4_alike cX4_alike 4 (some .int) :: vGW) D vCl (vTy k) sb) (hex : vV p9 l e9 ({ frames := 1, cells := 0, slots := 0, locals := 21 }) s9 m9 args9 below9 meth9 c9 4 D vCl sb Q9 (mW k o pl B Ln Rm Rd (va_up (va_up Pl g (Pl g + n)) u (Pl u + n)) Mk G Sz Kp th) 0 0 63 [(3, .int (nI (n))), (0, .ref (o 0)), (1, .int (nI (g))), (2, .int (nI (u)))] []) : ∀ (z i : Nat) (P1 : Nat → Nat), i + z = n → P1 = va_up (va_up Pl g (Pl g + i)) u (Pl u + i) → vV p9 l e9 ({ frames := 1, cells := 0, slots := 0, locals := 21 }) s9 m9 args9 below9 meth9 c9 4 D vCl sb Q9 (mW k o pl B Ln Rm Rd P1 Mk G Sz Kp th) 0 0 63 [(3, .int (nI (i))), (0, .ref (o 0)), (1, .int (nI (g))), (2, .int (nI (u)))] [] := by
  intro z
  induction z with
  | zero =>
    intro i P1 hi hP1
    have hin : n = i := by omega
    subst hin
    subst hP1
    exact hex
  | succ z ih =>
    intro i P1 hi hP1
    have hPu : P1 u = Pl u + i := by rw [hP1, va_up_eq]
    have hPg : P1 g = Pl g + i := by rw [hP1, va_up_nq _ hgu, va_up_eq]
    refine vAloadN X dX4_alike_63 1 rfl ?_
    refine vIloadN X dX4_alike_64 2 rfl ?_
    refine vCallVd X [] (mm_leftOf l D k o pl sb B Ln Rm Rd P1 Mk G Sz Kp th g a (Pl g + i) (by omega) hgRd (by omega) (by omega) hPg (by omega)) (vGV q_879 q_881 q_17 q_29 q_882) ⟨by decide, by decide, (show _ = some 1 from by decide +kernel)⟩ ⟨Nat.le_of_ble_eq_true rfl, Nat.le_of_ble_eq_true rfl⟩ 0 4 rfl rfl rfl rfl (Nat.le_of_ble_eq_true rfl) dX4_alike_65 ⟨Nat.zero_le _, Nat.zero_le _⟩ ?_
    refine vIfN_leF X 118 dX4_alike_68 (by decide) (by omega) (by omega) ?_
    refine vAloadN X dX4_alike_71 1 rfl ?_
    refine vIloadN X dX4_alike_72 3 rfl ?_
    refine vCallVd X [] (mm_leftOf l D k o pl sb B Ln Rm Rd P1 Mk G Sz Kp th u b (Pl u + i) (by omega) huRd (by omega) (by omega) hPu (by omega)) (vGV q_879 q_881 q_17 q_29 q_882) ⟨by decide, by decide, (show _ = some 1 from by decide +kernel)⟩ ⟨Nat.le_of_ble_eq_true rfl, Nat.le_of_ble_eq_true rfl⟩ 0 4 rfl rfl rfl rfl (Nat.le_of_ble_eq_true rfl) dX4_alike_73 ⟨Nat.zero_le _, Nat.zero_le _⟩ ?_
    refine vIfN_leF X 118 dX4_alike_76 (by decide) (by omega) (by omega) ?_
    refine vAloadN X dX4_alike_79 1 rfl ?_
    refine vIloadN X dX4_alike_80 2 rfl ?_
    refine vCallVd X [] (mm_next l D k o pl sb B Ln Rm Rd P1 Mk G Sz Kp th g a (Pl g + i) (by omega) hgRd (by omega) hPg (by omega)) (vGV q_911 q_913 q_22 q_29 q_914) ⟨by decide, by decide, (show _ = some 1 from by decide +kernel)⟩ ⟨Nat.le_of_ble_eq_true rfl, Nat.le_of_ble_eq_true rfl⟩ 0 4 rfl rfl rfl rfl (Nat.le_of_ble_eq_true rfl) dX4_alike_81 ⟨Nat.zero_le _, Nat.zero_le _⟩ ?_
    refine vAloadN X dX4_alike_84 1 rfl ?_
    refine vIloadN X dX4_alike_85 3 rfl ?_
    refine vCallVd X [.int (B a (Pl g + i))] (mm_next l D k o pl sb B Ln Rm Rd P1 Mk G Sz Kp th u b (Pl u + i) (by omega) huRd (by omega) hPu (by omega)) (vGV q_911 q_913 q_22 q_29 q_914) ⟨by decide, by decide, (show _ = some 1 from by decide +kernel)⟩ ⟨Nat.le_of_ble_eq_true rfl, Nat.le_of_ble_eq_true rfl⟩ 0 4 rfl rfl rfl rfl (Nat.le_of_ble_eq_true rfl) dX4_alike_86 ⟨Nat.zero_le _, Nat.zero_le _⟩ ?_
    refine vIcmp_neF X 118 dX4_alike_89 (by decide) (hnv i (by omega)) ?_
    refine vAloadN X dX4_alike_92 1 rfl ?_
    refine vGet X (C := RX4) (T := TX4) (N := 10) (ci := 4) (vcons inM) rfl 0 rfl 4 (by decide) (List.mem_cons_of_mem _ q_746) (fun _ h => h) rfl dX4_alike_93 ?_
    refine vIloadN X dX4_alike_96 2 rfl ?_
    refine vDup2 X dX4_alike_97 rfl rfl ?_
    refine vIaload X (v := nI (Pl g + i)) 5 1 rfl rfl rfl (by omega) (by decide) (congrArg nI hPg) dX4_alike_98 ?_
    refine vIconst X dX4_alike_99 (v := nI (1)) (by decide) ?_
    refine vIadd X dX4_alike_100 (v := nI ((Pl g + i) + (1))) (nI_add _ _) ?_
    refine vIastore X (g := (fun q => nI ((va_up P1 (g) ((Pl g + i) + (1))) q))) 5 1 rfl rfl rfl (by omega) (by decide) (nI_up _ _ _) dX4_alike_101 ?_
    refine vWs (ws' := mW k o pl B Ln Rm Rd (va_up P1 (g) ((Pl g + i) + (1))) Mk G Sz Kp th) rfl ?_
    refine vAloadN X dX4_alike_102 1 rfl ?_
    refine vGet X (C := RX4) (T := TX4) (N := 10) (ci := 4) (vcons inM) rfl 0 rfl 4 (by decide) (List.mem_cons_of_mem _ q_746) (fun _ h => h) rfl dX4_alike_103 ?_
    refine vIloadN X dX4_alike_106 3 rfl ?_
    refine vDup2 X dX4_alike_107 rfl rfl ?_
    refine vIaload X (v := nI (Pl u + i)) 5 1 rfl rfl rfl (by omega) (by decide) (congrArg nI ((va_up_nq _ (by omega)).trans hPu)) dX4_alike_108 ?_
    refine vIconst X dX4_alike_109 (v := nI (1)) (by decide) ?_
    refine vIadd X dX4_alike_110 (v := nI ((Pl u + i) + (1))) (nI_add _ _) ?_
    refine vIastore X (g := (fun q => nI ((va_up (va_up P1 (g) ((Pl g + i) + (1))) (u) ((Pl u + i) + (1))) q))) 5 1 rfl rfl rfl (by omega) (by decide) (nI_up _ _ _) dX4_alike_111 ?_
    refine vWs (ws' := mW k o pl B Ln Rm Rd (va_up (va_up P1 (g) ((Pl g + i) + (1))) (u) ((Pl u + i) + (1))) Mk G Sz Kp th) rfl ?_
    refine vIinc X [(3, .int (nI (i + 1))), (0, .ref (o 0)), (1, .int (nI (g))), (2, .int (nI (u)))] dX4_alike_112 0 rfl (nI_inc _) (by decide) rfl ?_
    refine vGoto X 63 dX4_alike_115 (by decide) ?_
    refine vSub [0, 1, 2, 3] [(3, .int (nI (i + 1))), (0, .ref (o 0)), (1, .int (nI (g))), (2, .int (nI (u)))] rfl ?_
    exact ih (i + 1) _ (by omega) (by rw [hP1, va_up4 hgu]; rfl)
set_option maxHeartbeats 4000000 in
set_option maxRecDepth 100000 in
theorem mm_alike1a (l : Launch) (D : va_G) (k : Nat → ClassId) (o : Nat → Nat) (pl : va_W) (sb : Nat) (B : Nat → Nat → Int32) (Ln Rm : Nat → Nat) (Rd : Nat → Option Nat) (Pl Mk : Nat → Nat) (G : Nat → Nat → Int32) (Sz : Nat → Nat) (Kp : Nat → Int32) (th : Int32) (x y : Int32) (hx : ¬ vOther x) : vCt l yX4_alike cX4_alike 4 (some .int) 1 21 0 0 D vCl (vTy k) sb [.ref (o 0), .int (x), .int (y)] (mW k o pl B Ln Rm Rd Pl Mk G Sz Kp th) (vDet (some (.int (nI (0)))) (mW k o pl B Ln Rm Rd Pl Mk G Sz Kp (nI (1)))) := by
  refine vOf (by decide +kernel) (Nat.le_of_ble_eq_true rfl) (fun p9 e9 s9 m9 below9 meth9 c9 X hret _ => ?_)
  refine vAloadN X dX4_alike_0 0 rfl ?_
  refine vAloadN X dX4_alike_1 0 rfl ?_
  refine vIloadN X dX4_alike_2 1 rfl ?_
  refine vCallVd X [.ref (o 0)] (mm_isOtherF l D k o pl sb B Ln Rm Rd Pl Mk G Sz Kp th x hx) (vGV q_838 q_840 q_14 q_29 q_841) ⟨by decide, by decide, (show _ = some 1 from by decide +kernel)⟩ ⟨Nat.le_of_ble_eq_true rfl, Nat.le_of_ble_eq_true rfl⟩ 0 4 rfl rfl rfl rfl (Nat.le_of_ble_eq_true rfl) dX4_alike_3 ⟨Nat.zero_le _, Nat.zero_le _⟩ ?_
  refine vIfN_eqT X 17 dX4_alike_6 (by decide) (by omega) (by omega) ?_
  refine vIconst X dX4_alike_17 (v := nI (1)) (by decide) ?_
  refine vGoto X 53 dX4_alike_18 (by decide) ?_
  refine vCallVd X [] (mm_isWrong1 l D k o pl sb B Ln Rm Rd Pl Mk G Sz Kp th 1 (by decide) (by decide)) (vGV q_786 q_788 q_8 q_29 q_789) ⟨by decide, by decide, (show _ = some 1 from by decide +kernel)⟩ ⟨Nat.le_of_ble_eq_true rfl, Nat.le_of_ble_eq_true rfl⟩ 0 4 rfl rfl rfl rfl (Nat.le_of_ble_eq_true rfl) dX4_alike_53 ⟨Nat.zero_le _, Nat.zero_le _⟩ ?_
  refine vIfN_eqF X 61 dX4_alike_56 (by decide) (by omega) (by omega) ?_
  refine vIconst X dX4_alike_59 (v := nI (0)) (by decide) ?_
  exact vRetI X hret dX4_alike_60 ⟨rfl, rfl⟩
set_option maxHeartbeats 4000000 in
set_option maxRecDepth 100000 in
theorem mm_alike1b (l : Launch) (D : va_G) (k : Nat → ClassId) (o : Nat → Nat) (pl : va_W) (sb : Nat) (B : Nat → Nat → Int32) (Ln Rm : Nat → Nat) (Rd : Nat → Option Nat) (Pl Mk : Nat → Nat) (G : Nat → Nat → Int32) (Sz : Nat → Nat) (Kp : Nat → Int32) (th : Int32) (g : Nat) (y : Int32) (hg : g < 3) (hy : ¬ vOther y) : vCt l yX4_alike cX4_alike 4 (some .int) 1 21 0 0 D vCl (vTy k) sb [.ref (o 0), .int (nI (g)), .int (y)] (mW k o pl B Ln Rm Rd Pl Mk G Sz Kp th) (vDet (some (.int (nI (0)))) (mW k o pl B Ln Rm Rd Pl Mk G Sz Kp (nI (1)))) := by
  refine vOf (by decide +kernel) (Nat.le_of_ble_eq_true rfl) (fun p9 e9 s9 m9 below9 meth9 c9 X hret _ => ?_)
  refine vAloadN X dX4_alike_0 0 rfl ?_
  refine vAloadN X dX4_alike_1 0 rfl ?_
  refine vIloadN X dX4_alike_2 1 rfl ?_
  refine vCallVd X [.ref (o 0)] (mm_isOtherT l D k o pl sb B Ln Rm Rd Pl Mk G Sz Kp th g (by omega)) (vGV q_838 q_840 q_14 q_29 q_841) ⟨by decide, by decide, (show _ = some 1 from by decide +kernel)⟩ ⟨Nat.le_of_ble_eq_true rfl, Nat.le_of_ble_eq_true rfl⟩ 0 4 rfl rfl rfl rfl (Nat.le_of_ble_eq_true rfl) dX4_alike_3 ⟨Nat.zero_le _, Nat.zero_le _⟩ ?_
  refine vIfN_eqF X 17 dX4_alike_6 (by decide) (by omega) (by omega) ?_
  refine vAloadN X dX4_alike_9 0 rfl ?_
  refine vIloadN X dX4_alike_10 2 rfl ?_
  refine vCallVd X [.ref (o 0)] (mm_isOtherF l D k o pl sb B Ln Rm Rd Pl Mk G Sz Kp th y hy) (vGV q_838 q_840 q_14 q_29 q_841) ⟨by decide, by decide, (show _ = some 1 from by decide +kernel)⟩ ⟨Nat.le_of_ble_eq_true rfl, Nat.le_of_ble_eq_true rfl⟩ 0 4 rfl rfl rfl rfl (Nat.le_of_ble_eq_true rfl) dX4_alike_11 ⟨Nat.zero_le _, Nat.zero_le _⟩ ?_
  refine vIfN_neF X 21 dX4_alike_14 (by decide) (by omega) (by omega) ?_
  refine vIconst X dX4_alike_17 (v := nI (1)) (by decide) ?_
  refine vGoto X 53 dX4_alike_18 (by decide) ?_
  refine vCallVd X [] (mm_isWrong1 l D k o pl sb B Ln Rm Rd Pl Mk G Sz Kp th 1 (by decide) (by decide)) (vGV q_786 q_788 q_8 q_29 q_789) ⟨by decide, by decide, (show _ = some 1 from by decide +kernel)⟩ ⟨Nat.le_of_ble_eq_true rfl, Nat.le_of_ble_eq_true rfl⟩ 0 4 rfl rfl rfl rfl (Nat.le_of_ble_eq_true rfl) dX4_alike_53 ⟨Nat.zero_le _, Nat.zero_le _⟩ ?_
  refine vIfN_eqF X 61 dX4_alike_56 (by decide) (by omega) (by omega) ?_
  refine vIconst X dX4_alike_59 (v := nI (0)) (by decide) ?_
  exact vRetI X hret dX4_alike_60 ⟨rfl, rfl⟩
set_option maxHeartbeats 4000000 in
set_option maxRecDepth 100000 in
theorem mm_alike2 (l : Launch) (D : va_G) (k : Nat → ClassId) (o : Nat → Nat) (pl : va_W) (sb : Nat) (B : Nat → Nat → Int32) (Ln Rm : Nat → Nat) (Rd : Nat → Option Nat) (Pl Mk : Nat → Nat) (G : Nat → Nat → Int32) (Sz : Nat → Nat) (Kp : Nat → Int32) (th : Int32) (g : Nat) (hg : g < 3) : vCt l yX4_alike cX4_alike 4 (some .int) 1 21 0 0 D vCl (vTy k) sb [.ref (o 0), .int (nI (g)), .int (nI (g))] (mW k o pl B Ln Rm Rd Pl Mk G Sz Kp th) (vDet (some (.int (nI (0)))) (mW k o pl B Ln Rm Rd Pl Mk G Sz Kp (nI (2)))) := by
  refine vOf (by decide +kernel) (Nat.le_of_ble_eq_true rfl) (fun p9 e9 s9 m9 below9 meth9 c9 X hret _ => ?_)
  refine vAloadN X dX4_alike_0 0 rfl ?_
  refine vAloadN X dX4_alike_1 0 rfl ?_
  refine vIloadN X dX4_alike_2 1 rfl ?_
  refine vCallVd X [.ref (o 0)] (mm_isOtherT l D k o pl sb B Ln Rm Rd Pl Mk G Sz Kp th g (by omega)) (vGV q_838 q_840 q_14 q_29 q_841) ⟨by decide, by decide, (show _ = some 1 from by decide +kernel)⟩ ⟨Nat.le_of_ble_eq_true rfl, Nat.le_of_ble_eq_true rfl⟩ 0 4 rfl rfl rfl rfl (Nat.le_of_ble_eq_true rfl) dX4_alike_3 ⟨Nat.zero_le _, Nat.zero_le _⟩ ?_
  refine vIfN_eqF X 17 dX4_alike_6 (by decide) (by omega) (by omega) ?_
  refine vAloadN X dX4_alike_9 0 rfl ?_
  refine vIloadN X dX4_alike_10 2 rfl ?_
  refine vCallVd X [.ref (o 0)] (mm_isOtherT l D k o pl sb B Ln Rm Rd Pl Mk G Sz Kp th g (by omega)) (vGV q_838 q_840 q_14 q_29 q_841) ⟨by decide, by decide, (show _ = some 1 from by decide +kernel)⟩ ⟨Nat.le_of_ble_eq_true rfl, Nat.le_of_ble_eq_true rfl⟩ 0 4 rfl rfl rfl rfl (Nat.le_of_ble_eq_true rfl) dX4_alike_11 ⟨Nat.zero_le _, Nat.zero_le _⟩ ?_
  refine vIfN_neT X 21 dX4_alike_14 (by decide) (by omega) (by omega) ?_
  refine vIloadN X dX4_alike_21 1 rfl ?_
  refine vIloadN X dX4_alike_22 2 rfl ?_
  refine vIcmpN_neF X 30 dX4_alike_23 (by decide) (by omega) (by omega) (by omega) ?_
  refine vIconst X dX4_alike_26 (v := nI (2)) (by decide) ?_
  refine vGoto X 53 dX4_alike_27 (by decide) ?_
  refine vCallVd X [] (mm_isWrong1 l D k o pl sb B Ln Rm Rd Pl Mk G Sz Kp th 2 (by decide) (by decide)) (vGV q_786 q_788 q_8 q_29 q_789) ⟨by decide, by decide, (show _ = some 1 from by decide +kernel)⟩ ⟨Nat.le_of_ble_eq_true rfl, Nat.le_of_ble_eq_true rfl⟩ 0 4 rfl rfl rfl rfl (Nat.le_of_ble_eq_true rfl) dX4_alike_53 ⟨Nat.zero_le _, Nat.zero_le _⟩ ?_
  refine vIfN_eqF X 61 dX4_alike_56 (by decide) (by omega) (by omega) ?_
  refine vIconst X dX4_alike_59 (v := nI (0)) (by decide) ?_
  exact vRetI X hret dX4_alike_60 ⟨rfl, rfl⟩
set_option maxHeartbeats 4000000 in
set_option maxRecDepth 100000 in
theorem mm_alike3a (l : Launch) (D : va_G) (k : Nat → ClassId) (o : Nat → Nat) (pl : va_W) (sb : Nat) (B : Nat → Nat → Int32) (Ln Rm : Nat → Nat) (Rd : Nat → Option Nat) (Pl Mk : Nat → Nat) (G : Nat → Nat → Int32) (Sz : Nat → Nat) (Kp : Nat → Int32) (th : Int32) (g u : Nat) (hg : g < 3) (hu : u < 3) (hgu : ¬ g = u) (hgRd : Rd g = none) : vCt l yX4_alike cX4_alike 4 (some .int) 1 21 0 0 D vCl (vTy k) sb [.ref (o 0), .int (nI (g)), .int (nI (u))] (mW k o pl B Ln Rm Rd Pl Mk G Sz Kp th) (vDet (some (.int (nI (0)))) (mW k o pl B Ln Rm Rd Pl Mk G Sz Kp (nI (3)))) := by
  refine vOf (by decide +kernel) (Nat.le_of_ble_eq_true rfl) (fun p9 e9 s9 m9 below9 meth9 c9 X hret _ => ?_)
  refine vAloadN X dX4_alike_0 0 rfl ?_
  refine vAloadN X dX4_alike_1 0 rfl ?_
  refine vIloadN X dX4_alike_2 1 rfl ?_
  refine vCallVd X [.ref (o 0)] (mm_isOtherT l D k o pl sb B Ln Rm Rd Pl Mk G Sz Kp th g (by omega)) (vGV q_838 q_840 q_14 q_29 q_841) ⟨by decide, by decide, (show _ = some 1 from by decide +kernel)⟩ ⟨Nat.le_of_ble_eq_true rfl, Nat.le_of_ble_eq_true rfl⟩ 0 4 rfl rfl rfl rfl (Nat.le_of_ble_eq_true rfl) dX4_alike_3 ⟨Nat.zero_le _, Nat.zero_le _⟩ ?_
  refine vIfN_eqF X 17 dX4_alike_6 (by decide) (by omega) (by omega) ?_
  refine vAloadN X dX4_alike_9 0 rfl ?_
  refine vIloadN X dX4_alike_10 2 rfl ?_
  refine vCallVd X [.ref (o 0)] (mm_isOtherT l D k o pl sb B Ln Rm Rd Pl Mk G Sz Kp th u (by omega)) (vGV q_838 q_840 q_14 q_29 q_841) ⟨by decide, by decide, (show _ = some 1 from by decide +kernel)⟩ ⟨Nat.le_of_ble_eq_true rfl, Nat.le_of_ble_eq_true rfl⟩ 0 4 rfl rfl rfl rfl (Nat.le_of_ble_eq_true rfl) dX4_alike_11 ⟨Nat.zero_le _, Nat.zero_le _⟩ ?_
  refine vIfN_neT X 21 dX4_alike_14 (by decide) (by omega) (by omega) ?_
  refine vIloadN X dX4_alike_21 1 rfl ?_
  refine vIloadN X dX4_alike_22 2 rfl ?_
  refine vIcmpN_neT X 30 dX4_alike_23 (by decide) (by omega) (by omega) (by omega) ?_
  refine vAloadN X dX4_alike_30 0 rfl ?_
  refine vGet X (C := RX4) (T := TX4) (N := 10) (ci := 4) (vcons inM) rfl 0 rfl 3 (by decide) (List.mem_cons_of_mem _ q_745) (fun _ h => h) rfl dX4_alike_31 ?_
  refine vIloadN X dX4_alike_34 1 rfl ?_
  refine vIaload X (v := (-1 : Int32)) 4 1 rfl rfl rfl (by omega) (by decide) (oI_none hgRd) dX4_alike_35 ?_
  refine vIf_ltT X 48 dX4_alike_36 (by decide) (by first | assumption | exact Int32.not_lt.mpr (by assumption) | exact Int32.not_le.mpr (by assumption) | exact Int32.not_lt.mp (by assumption) | exact Int32.not_le.mp (by assumption) | decide) ?_
  refine vIconst X dX4_alike_48 (v := nI (3)) (by decide) ?_
  refine vGoto X 53 dX4_alike_49 (by decide) ?_
  refine vCallVd X [] (mm_isWrong1 l D k o pl sb B Ln Rm Rd Pl Mk G Sz Kp th 3 (by decide) (by decide)) (vGV q_786 q_788 q_8 q_29 q_789) ⟨by decide, by decide, (show _ = some 1 from by decide +kernel)⟩ ⟨Nat.le_of_ble_eq_true rfl, Nat.le_of_ble_eq_true rfl⟩ 0 4 rfl rfl rfl rfl (Nat.le_of_ble_eq_true rfl) dX4_alike_53 ⟨Nat.zero_le _, Nat.zero_le _⟩ ?_
  refine vIfN_eqF X 61 dX4_alike_56 (by decide) (by omega) (by omega) ?_
  refine vIconst X dX4_alike_59 (v := nI (0)) (by decide) ?_
  exact vRetI X hret dX4_alike_60 ⟨rfl, rfl⟩
set_option maxHeartbeats 4000000 in
set_option maxRecDepth 100000 in
theorem mm_alike3b (l : Launch) (D : va_G) (k : Nat → ClassId) (o : Nat → Nat) (pl : va_W) (sb : Nat) (B : Nat → Nat → Int32) (Ln Rm : Nat → Nat) (Rd : Nat → Option Nat) (Pl Mk : Nat → Nat) (G : Nat → Nat → Int32) (Sz : Nat → Nat) (Kp : Nat → Int32) (th : Int32) (g u a : Nat) (hg : g < 3) (hu : u < 3) (hgu : ¬ g = u) (hgRd : Rd g = some a) (ha : a < 8) (huRd : Rd u = none) : vCt l yX4_alike cX4_alike 4 (some .int) 1 21 0 0 D vCl (vTy k) sb [.ref (o 0), .int (nI (g)), .int (nI (u))] (mW k o pl B Ln Rm Rd Pl Mk G Sz Kp th) (vDet (some (.int (nI (0)))) (mW k o pl B Ln Rm Rd Pl Mk G Sz Kp (nI (3)))) := by
  refine vOf (by decide +kernel) (Nat.le_of_ble_eq_true rfl) (fun p9 e9 s9 m9 below9 meth9 c9 X hret _ => ?_)
  refine vAloadN X dX4_alike_0 0 rfl ?_
  refine vAloadN X dX4_alike_1 0 rfl ?_
  refine vIloadN X dX4_alike_2 1 rfl ?_
  refine vCallVd X [.ref (o 0)] (mm_isOtherT l D k o pl sb B Ln Rm Rd Pl Mk G Sz Kp th g (by omega)) (vGV q_838 q_840 q_14 q_29 q_841) ⟨by decide, by decide, (show _ = some 1 from by decide +kernel)⟩ ⟨Nat.le_of_ble_eq_true rfl, Nat.le_of_ble_eq_true rfl⟩ 0 4 rfl rfl rfl rfl (Nat.le_of_ble_eq_true rfl) dX4_alike_3 ⟨Nat.zero_le _, Nat.zero_le _⟩ ?_
  refine vIfN_eqF X 17 dX4_alike_6 (by decide) (by omega) (by omega) ?_
  refine vAloadN X dX4_alike_9 0 rfl ?_
  refine vIloadN X dX4_alike_10 2 rfl ?_
  refine vCallVd X [.ref (o 0)] (mm_isOtherT l D k o pl sb B Ln Rm Rd Pl Mk G Sz Kp th u (by omega)) (vGV q_838 q_840 q_14 q_29 q_841) ⟨by decide, by decide, (show _ = some 1 from by decide +kernel)⟩ ⟨Nat.le_of_ble_eq_true rfl, Nat.le_of_ble_eq_true rfl⟩ 0 4 rfl rfl rfl rfl (Nat.le_of_ble_eq_true rfl) dX4_alike_11 ⟨Nat.zero_le _, Nat.zero_le _⟩ ?_
  refine vIfN_neT X 21 dX4_alike_14 (by decide) (by omega) (by omega) ?_
  refine vIloadN X dX4_alike_21 1 rfl ?_
  refine vIloadN X dX4_alike_22 2 rfl ?_
  refine vIcmpN_neT X 30 dX4_alike_23 (by decide) (by omega) (by omega) (by omega) ?_
  refine vAloadN X dX4_alike_30 0 rfl ?_
  refine vGet X (C := RX4) (T := TX4) (N := 10) (ci := 4) (vcons inM) rfl 0 rfl 3 (by decide) (List.mem_cons_of_mem _ q_745) (fun _ h => h) rfl dX4_alike_31 ?_
  refine vIloadN X dX4_alike_34 1 rfl ?_
  refine vIaload X (v := nI (a)) 4 1 rfl rfl rfl (by omega) (by decide) (oI_some hgRd) dX4_alike_35 ?_
  refine vIfN_ltF X 48 dX4_alike_36 (by decide) (by omega) (by omega) ?_
  refine vAloadN X dX4_alike_39 0 rfl ?_
  refine vGet X (C := RX4) (T := TX4) (N := 10) (ci := 4) (vcons inM) rfl 0 rfl 3 (by decide) (List.mem_cons_of_mem _ q_745) (fun _ h => h) rfl dX4_alike_40 ?_
  refine vIloadN X dX4_alike_43 2 rfl ?_
  refine vIaload X (v := (-1 : Int32)) 4 1 rfl rfl rfl (by omega) (by decide) (oI_none huRd) dX4_alike_44 ?_
  refine vIf_geF X 52 dX4_alike_45 (by decide) (by first | assumption | exact Int32.not_lt.mpr (by assumption) | exact Int32.not_le.mpr (by assumption) | exact Int32.not_lt.mp (by assumption) | exact Int32.not_le.mp (by assumption) | decide) ?_
  refine vIconst X dX4_alike_48 (v := nI (3)) (by decide) ?_
  refine vGoto X 53 dX4_alike_49 (by decide) ?_
  refine vCallVd X [] (mm_isWrong1 l D k o pl sb B Ln Rm Rd Pl Mk G Sz Kp th 3 (by decide) (by decide)) (vGV q_786 q_788 q_8 q_29 q_789) ⟨by decide, by decide, (show _ = some 1 from by decide +kernel)⟩ ⟨Nat.le_of_ble_eq_true rfl, Nat.le_of_ble_eq_true rfl⟩ 0 4 rfl rfl rfl rfl (Nat.le_of_ble_eq_true rfl) dX4_alike_53 ⟨Nat.zero_le _, Nat.zero_le _⟩ ?_
  refine vIfN_eqF X 61 dX4_alike_56 (by decide) (by omega) (by omega) ?_
  refine vIconst X dX4_alike_59 (v := nI (0)) (by decide) ?_
  exact vRetI X hret dX4_alike_60 ⟨rfl, rfl⟩
set_option maxHeartbeats 4000000 in
set_option maxRecDepth 100000 in
theorem mm_alike0a (l : Launch) (D : va_G) (k : Nat → ClassId) (o : Nat → Nat) (pl : va_W) (sb : Nat) (B : Nat → Nat → Int32) (Ln Rm : Nat → Nat) (Rd : Nat → Option Nat) (Pl Mk : Nat → Nat) (G : Nat → Nat → Int32) (Sz : Nat → Nat) (Kp : Nat → Int32) (th : Int32) (g u a b n : Nat) (hg : g < 3) (hu : u < 3) (hgu : ¬ g = u) (hgRd : Rd g = some a) (huRd : Rd u = some b) (ha : a < 8) (hb : b < 8) (hla : Ln a ≤ 256) (hlb : Ln b ≤ 256) (hpl : Pl g ≤ Ln a) (hpu : Pl u ≤ Ln b) (hn : n ≤ Ln a - Pl g) (hn2 : n ≤ Ln b - Pl u) (hnv : ∀ j, j < n → B a (Pl g + j) = B b (Pl u + j)) (he : n = Ln a - Pl g) : vCt l yX4_alike cX4_alike 4 (some .int) 1 21 0 0 D vCl (vTy k) sb [.ref (o 0), .int (nI (g)), .int (nI (u))] (mW k o pl B Ln Rm Rd Pl Mk G Sz Kp th) (vDet (some (.int (nI (n)))) (mW k o pl B Ln Rm Rd (va_up (va_up Pl g (Pl g + n)) u (Pl u + n)) (va_up (va_up Mk g (Pl g + n)) u (Pl u + n)) G Sz Kp (nI 0))) := by
  refine vOf (by decide +kernel) (Nat.le_of_ble_eq_true rfl) (fun p9 e9 s9 m9 below9 meth9 c9 X hret _ => ?_)
  refine vAloadN X dX4_alike_0 0 rfl ?_
  refine vAloadN X dX4_alike_1 0 rfl ?_
  refine vIloadN X dX4_alike_2 1 rfl ?_
  refine vCallVd X [.ref (o 0)] (mm_isOtherT l D k o pl sb B Ln Rm Rd Pl Mk G Sz Kp th g (by omega)) (vGV q_838 q_840 q_14 q_29 q_841) ⟨by decide, by decide, (show _ = some 1 from by decide +kernel)⟩ ⟨Nat.le_of_ble_eq_true rfl, Nat.le_of_ble_eq_true rfl⟩ 0 4 rfl rfl rfl rfl (Nat.le_of_ble_eq_true rfl) dX4_alike_3 ⟨Nat.zero_le _, Nat.zero_le _⟩ ?_
  refine vIfN_eqF X 17 dX4_alike_6 (by decide) (by omega) (by omega) ?_
  refine vAloadN X dX4_alike_9 0 rfl ?_
  refine vIloadN X dX4_alike_10 2 rfl ?_
  refine vCallVd X [.ref (o 0)] (mm_isOtherT l D k o pl sb B Ln Rm Rd Pl Mk G Sz Kp th u (by omega)) (vGV q_838 q_840 q_14 q_29 q_841) ⟨by decide, by decide, (show _ = some 1 from by decide +kernel)⟩ ⟨Nat.le_of_ble_eq_true rfl, Nat.le_of_ble_eq_true rfl⟩ 0 4 rfl rfl rfl rfl (Nat.le_of_ble_eq_true rfl) dX4_alike_11 ⟨Nat.zero_le _, Nat.zero_le _⟩ ?_
  refine vIfN_neT X 21 dX4_alike_14 (by decide) (by omega) (by omega) ?_
  refine vIloadN X dX4_alike_21 1 rfl ?_
  refine vIloadN X dX4_alike_22 2 rfl ?_
  refine vIcmpN_neT X 30 dX4_alike_23 (by decide) (by omega) (by omega) (by omega) ?_
  refine vAloadN X dX4_alike_30 0 rfl ?_
  refine vGet X (C := RX4) (T := TX4) (N := 10) (ci := 4) (vcons inM) rfl 0 rfl 3 (by decide) (List.mem_cons_of_mem _ q_745) (fun _ h => h) rfl dX4_alike_31 ?_
  refine vIloadN X dX4_alike_34 1 rfl ?_
  refine vIaload X (v := nI (a)) 4 1 rfl rfl rfl (by omega) (by decide) (oI_some hgRd) dX4_alike_35 ?_
  refine vIfN_ltF X 48 dX4_alike_36 (by decide) (by omega) (by omega) ?_
  refine vAloadN X dX4_alike_39 0 rfl ?_
  refine vGet X (C := RX4) (T := TX4) (N := 10) (ci := 4) (vcons inM) rfl 0 rfl 3 (by decide) (List.mem_cons_of_mem _ q_745) (fun _ h => h) rfl dX4_alike_40 ?_
  refine vIloadN X dX4_alike_43 2 rfl ?_
  refine vIaload X (v := nI (b)) 4 1 rfl rfl rfl (by omega) (by decide) (oI_some huRd) dX4_alike_44 ?_
  refine vIfN_geT X 52 dX4_alike_45 (by decide) (by omega) (by omega) ?_
  refine vIconst X dX4_alike_52 (v := nI (0)) (by decide) ?_
  refine vCallVd X [] (mm_isWrong0 l D k o pl sb B Ln Rm Rd Pl Mk G Sz Kp th ) (vGV q_786 q_788 q_8 q_29 q_789) ⟨by decide, by decide, (show _ = some 1 from by decide +kernel)⟩ ⟨Nat.le_of_ble_eq_true rfl, Nat.le_of_ble_eq_true rfl⟩ 0 4 rfl rfl rfl rfl (Nat.le_of_ble_eq_true rfl) dX4_alike_53 ⟨Nat.zero_le _, Nat.zero_le _⟩ ?_
  refine vIfN_eqT X 61 dX4_alike_56 (by decide) (by omega) (by omega) ?_
  refine vIconst X dX4_alike_61 (v := nI (0)) (by decide) ?_
  refine vIstoreN X [(3, .int (nI (0))), (0, .ref (o 0)), (1, .int (nI (g))), (2, .int (nI (u)))] dX4_alike_62 (by decide) rfl ?_
  refine vSub [0, 1, 2, 3] [(3, .int (nI (0))), (0, .ref (o 0)), (1, .int (nI (g))), (2, .int (nI (u)))] rfl ?_
  refine mL_alike D k o pl sb B Ln Rm Rd Pl Mk G Sz Kp (nI (0)) g u a b n hg hu hgu hgRd huRd ha hb hla hlb hpl hpu hn hn2 hnv X ?_ (n) 0 _ (by omega) (va_up2_id hgu)
  refine vAloadN X dX4_alike_63 1 rfl ?_
  refine vIloadN X dX4_alike_64 2 rfl ?_
  refine vCallVd X [] (mm_leftOf l D k o pl sb B Ln Rm Rd (va_up (va_up Pl g (Pl g + n)) u (Pl u + n)) Mk G Sz Kp (nI (0)) g a (Pl g + n) (by omega) hgRd (by omega) (by omega) ((va_up_nq _ hgu).trans (va_up_eq _ _ _)) (by omega)) (vGV q_879 q_881 q_17 q_29 q_882) ⟨by decide, by decide, (show _ = some 1 from by decide +kernel)⟩ ⟨Nat.le_of_ble_eq_true rfl, Nat.le_of_ble_eq_true rfl⟩ 0 4 rfl rfl rfl rfl (Nat.le_of_ble_eq_true rfl) dX4_alike_65 ⟨Nat.zero_le _, Nat.zero_le _⟩ ?_
  refine vIfN_leT X 118 dX4_alike_68 (by decide) (by omega) (by omega) ?_
  refine vAloadN X dX4_alike_118 1 rfl ?_
  refine vGet X (C := RX4) (T := TX4) (N := 10) (ci := 4) (vcons inM) rfl 0 rfl 5 (by decide) (List.mem_cons_of_mem _ q_747) (fun _ h => h) rfl dX4_alike_119 ?_
  refine vIloadN X dX4_alike_122 2 rfl ?_
  refine vAloadN X dX4_alike_123 1 rfl ?_
  refine vGet X (C := RX4) (T := TX4) (N := 10) (ci := 4) (vcons inM) rfl 0 rfl 4 (by decide) (List.mem_cons_of_mem _ q_746) (fun _ h => h) rfl dX4_alike_124 ?_
  refine vIloadN X dX4_alike_127 2 rfl ?_
  refine vIaload X (v := nI (Pl g + n)) 5 1 rfl rfl rfl (by omega) (by decide) (congrArg nI ((va_up_nq _ hgu).trans (va_up_eq _ _ _))) dX4_alike_128 ?_
  refine vIastore X (g := (fun q => nI ((va_up Mk (g) (Pl g + n)) q))) 6 1 rfl rfl rfl (by omega) (by decide) (nI_up _ _ _) dX4_alike_129 ?_
  refine vWs (ws' := mW k o pl B Ln Rm Rd (va_up (va_up Pl g (Pl g + n)) u (Pl u + n)) (va_up Mk (g) (Pl g + n)) G Sz Kp (nI (0))) rfl ?_
  refine vAloadN X dX4_alike_130 1 rfl ?_
  refine vGet X (C := RX4) (T := TX4) (N := 10) (ci := 4) (vcons inM) rfl 0 rfl 5 (by decide) (List.mem_cons_of_mem _ q_747) (fun _ h => h) rfl dX4_alike_131 ?_
  refine vIloadN X dX4_alike_134 3 rfl ?_
  refine vAloadN X dX4_alike_135 1 rfl ?_
  refine vGet X (C := RX4) (T := TX4) (N := 10) (ci := 4) (vcons inM) rfl 0 rfl 4 (by decide) (List.mem_cons_of_mem _ q_746) (fun _ h => h) rfl dX4_alike_136 ?_
  refine vIloadN X dX4_alike_139 3 rfl ?_
  refine vIaload X (v := nI (Pl u + n)) 5 1 rfl rfl rfl (by omega) (by decide) (congrArg nI (va_up_eq _ _ _)) dX4_alike_140 ?_
  refine vIastore X (g := (fun q => nI ((va_up (va_up Mk (g) (Pl g + n)) (u) (Pl u + n)) q))) 6 1 rfl rfl rfl (by omega) (by decide) (nI_up _ _ _) dX4_alike_141 ?_
  refine vWs (ws' := mW k o pl B Ln Rm Rd (va_up (va_up Pl g (Pl g + n)) u (Pl u + n)) (va_up (va_up Mk (g) (Pl g + n)) (u) (Pl u + n)) G Sz Kp (nI (0))) rfl ?_
  refine vIloadN X dX4_alike_142 0 rfl ?_
  exact vRetI X hret dX4_alike_143 ⟨rfl, rfl⟩
set_option maxHeartbeats 4000000 in
set_option maxRecDepth 100000 in
theorem mm_alike0b (l : Launch) (D : va_G) (k : Nat → ClassId) (o : Nat → Nat) (pl : va_W) (sb : Nat) (B : Nat → Nat → Int32) (Ln Rm : Nat → Nat) (Rd : Nat → Option Nat) (Pl Mk : Nat → Nat) (G : Nat → Nat → Int32) (Sz : Nat → Nat) (Kp : Nat → Int32) (th : Int32) (g u a b n : Nat) (hg : g < 3) (hu : u < 3) (hgu : ¬ g = u) (hgRd : Rd g = some a) (huRd : Rd u = some b) (ha : a < 8) (hb : b < 8) (hla : Ln a ≤ 256) (hlb : Ln b ≤ 256) (hpl : Pl g ≤ Ln a) (hpu : Pl u ≤ Ln b) (hn : n ≤ Ln a - Pl g) (hn2 : n ≤ Ln b - Pl u) (hnv : ∀ j, j < n → B a (Pl g + j) = B b (Pl u + j)) (hl : n < Ln a - Pl g) (he : n = Ln b - Pl u) : vCt l yX4_alike cX4_alike 4 (some .int) 1 21 0 0 D vCl (vTy k) sb [.ref (o 0), .int (nI (g)), .int (nI (u))] (mW k o pl B Ln Rm Rd Pl Mk G Sz Kp th) (vDet (some (.int (nI (n)))) (mW k o pl B Ln Rm Rd (va_up (va_up Pl g (Pl g + n)) u (Pl u + n)) (va_up (va_up Mk g (Pl g + n)) u (Pl u + n)) G Sz Kp (nI 0))) := by
  refine vOf (by decide +kernel) (Nat.le_of_ble_eq_true rfl) (fun p9 e9 s9 m9 below9 meth9 c9 X hret _ => ?_)
  refine vAloadN X dX4_alike_0 0 rfl ?_
  refine vAloadN X dX4_alike_1 0 rfl ?_
  refine vIloadN X dX4_alike_2 1 rfl ?_
  refine vCallVd X [.ref (o 0)] (mm_isOtherT l D k o pl sb B Ln Rm Rd Pl Mk G Sz Kp th g (by omega)) (vGV q_838 q_840 q_14 q_29 q_841) ⟨by decide, by decide, (show _ = some 1 from by decide +kernel)⟩ ⟨Nat.le_of_ble_eq_true rfl, Nat.le_of_ble_eq_true rfl⟩ 0 4 rfl rfl rfl rfl (Nat.le_of_ble_eq_true rfl) dX4_alike_3 ⟨Nat.zero_le _, Nat.zero_le _⟩ ?_
  refine vIfN_eqF X 17 dX4_alike_6 (by decide) (by omega) (by omega) ?_
  refine vAloadN X dX4_alike_9 0 rfl ?_
  refine vIloadN X dX4_alike_10 2 rfl ?_
  refine vCallVd X [.ref (o 0)] (mm_isOtherT l D k o pl sb B Ln Rm Rd Pl Mk G Sz Kp th u (by omega)) (vGV q_838 q_840 q_14 q_29 q_841) ⟨by decide, by decide, (show _ = some 1 from by decide +kernel)⟩ ⟨Nat.le_of_ble_eq_true rfl, Nat.le_of_ble_eq_true rfl⟩ 0 4 rfl rfl rfl rfl (Nat.le_of_ble_eq_true rfl) dX4_alike_11 ⟨Nat.zero_le _, Nat.zero_le _⟩ ?_
  refine vIfN_neT X 21 dX4_alike_14 (by decide) (by omega) (by omega) ?_
  refine vIloadN X dX4_alike_21 1 rfl ?_
  refine vIloadN X dX4_alike_22 2 rfl ?_
  refine vIcmpN_neT X 30 dX4_alike_23 (by decide) (by omega) (by omega) (by omega) ?_
  refine vAloadN X dX4_alike_30 0 rfl ?_
  refine vGet X (C := RX4) (T := TX4) (N := 10) (ci := 4) (vcons inM) rfl 0 rfl 3 (by decide) (List.mem_cons_of_mem _ q_745) (fun _ h => h) rfl dX4_alike_31 ?_
  refine vIloadN X dX4_alike_34 1 rfl ?_
  refine vIaload X (v := nI (a)) 4 1 rfl rfl rfl (by omega) (by decide) (oI_some hgRd) dX4_alike_35 ?_
  refine vIfN_ltF X 48 dX4_alike_36 (by decide) (by omega) (by omega) ?_
  refine vAloadN X dX4_alike_39 0 rfl ?_
  refine vGet X (C := RX4) (T := TX4) (N := 10) (ci := 4) (vcons inM) rfl 0 rfl 3 (by decide) (List.mem_cons_of_mem _ q_745) (fun _ h => h) rfl dX4_alike_40 ?_
  refine vIloadN X dX4_alike_43 2 rfl ?_
  refine vIaload X (v := nI (b)) 4 1 rfl rfl rfl (by omega) (by decide) (oI_some huRd) dX4_alike_44 ?_
  refine vIfN_geT X 52 dX4_alike_45 (by decide) (by omega) (by omega) ?_
  refine vIconst X dX4_alike_52 (v := nI (0)) (by decide) ?_
  refine vCallVd X [] (mm_isWrong0 l D k o pl sb B Ln Rm Rd Pl Mk G Sz Kp th ) (vGV q_786 q_788 q_8 q_29 q_789) ⟨by decide, by decide, (show _ = some 1 from by decide +kernel)⟩ ⟨Nat.le_of_ble_eq_true rfl, Nat.le_of_ble_eq_true rfl⟩ 0 4 rfl rfl rfl rfl (Nat.le_of_ble_eq_true rfl) dX4_alike_53 ⟨Nat.zero_le _, Nat.zero_le _⟩ ?_
  refine vIfN_eqT X 61 dX4_alike_56 (by decide) (by omega) (by omega) ?_
  refine vIconst X dX4_alike_61 (v := nI (0)) (by decide) ?_
  refine vIstoreN X [(3, .int (nI (0))), (0, .ref (o 0)), (1, .int (nI (g))), (2, .int (nI (u)))] dX4_alike_62 (by decide) rfl ?_
  refine vSub [0, 1, 2, 3] [(3, .int (nI (0))), (0, .ref (o 0)), (1, .int (nI (g))), (2, .int (nI (u)))] rfl ?_
  refine mL_alike D k o pl sb B Ln Rm Rd Pl Mk G Sz Kp (nI (0)) g u a b n hg hu hgu hgRd huRd ha hb hla hlb hpl hpu hn hn2 hnv X ?_ (n) 0 _ (by omega) (va_up2_id hgu)
  refine vAloadN X dX4_alike_63 1 rfl ?_
  refine vIloadN X dX4_alike_64 2 rfl ?_
  refine vCallVd X [] (mm_leftOf l D k o pl sb B Ln Rm Rd (va_up (va_up Pl g (Pl g + n)) u (Pl u + n)) Mk G Sz Kp (nI (0)) g a (Pl g + n) (by omega) hgRd (by omega) (by omega) ((va_up_nq _ hgu).trans (va_up_eq _ _ _)) (by omega)) (vGV q_879 q_881 q_17 q_29 q_882) ⟨by decide, by decide, (show _ = some 1 from by decide +kernel)⟩ ⟨Nat.le_of_ble_eq_true rfl, Nat.le_of_ble_eq_true rfl⟩ 0 4 rfl rfl rfl rfl (Nat.le_of_ble_eq_true rfl) dX4_alike_65 ⟨Nat.zero_le _, Nat.zero_le _⟩ ?_
  refine vIfN_leF X 118 dX4_alike_68 (by decide) (by omega) (by omega) ?_
  refine vAloadN X dX4_alike_71 1 rfl ?_
  refine vIloadN X dX4_alike_72 3 rfl ?_
  refine vCallVd X [] (mm_leftOf l D k o pl sb B Ln Rm Rd (va_up (va_up Pl g (Pl g + n)) u (Pl u + n)) Mk G Sz Kp (nI (0)) u b (Pl u + n) (by omega) huRd (by omega) (by omega) (va_up_eq _ _ _) (by omega)) (vGV q_879 q_881 q_17 q_29 q_882) ⟨by decide, by decide, (show _ = some 1 from by decide +kernel)⟩ ⟨Nat.le_of_ble_eq_true rfl, Nat.le_of_ble_eq_true rfl⟩ 0 4 rfl rfl rfl rfl (Nat.le_of_ble_eq_true rfl) dX4_alike_73 ⟨Nat.zero_le _, Nat.zero_le _⟩ ?_
  refine vIfN_leT X 118 dX4_alike_76 (by decide) (by omega) (by omega) ?_
  refine vAloadN X dX4_alike_118 1 rfl ?_
  refine vGet X (C := RX4) (T := TX4) (N := 10) (ci := 4) (vcons inM) rfl 0 rfl 5 (by decide) (List.mem_cons_of_mem _ q_747) (fun _ h => h) rfl dX4_alike_119 ?_
  refine vIloadN X dX4_alike_122 2 rfl ?_
  refine vAloadN X dX4_alike_123 1 rfl ?_
  refine vGet X (C := RX4) (T := TX4) (N := 10) (ci := 4) (vcons inM) rfl 0 rfl 4 (by decide) (List.mem_cons_of_mem _ q_746) (fun _ h => h) rfl dX4_alike_124 ?_
  refine vIloadN X dX4_alike_127 2 rfl ?_
  refine vIaload X (v := nI (Pl g + n)) 5 1 rfl rfl rfl (by omega) (by decide) (congrArg nI ((va_up_nq _ hgu).trans (va_up_eq _ _ _))) dX4_alike_128 ?_
  refine vIastore X (g := (fun q => nI ((va_up Mk (g) (Pl g + n)) q))) 6 1 rfl rfl rfl (by omega) (by decide) (nI_up _ _ _) dX4_alike_129 ?_
  refine vWs (ws' := mW k o pl B Ln Rm Rd (va_up (va_up Pl g (Pl g + n)) u (Pl u + n)) (va_up Mk (g) (Pl g + n)) G Sz Kp (nI (0))) rfl ?_
  refine vAloadN X dX4_alike_130 1 rfl ?_
  refine vGet X (C := RX4) (T := TX4) (N := 10) (ci := 4) (vcons inM) rfl 0 rfl 5 (by decide) (List.mem_cons_of_mem _ q_747) (fun _ h => h) rfl dX4_alike_131 ?_
  refine vIloadN X dX4_alike_134 3 rfl ?_
  refine vAloadN X dX4_alike_135 1 rfl ?_
  refine vGet X (C := RX4) (T := TX4) (N := 10) (ci := 4) (vcons inM) rfl 0 rfl 4 (by decide) (List.mem_cons_of_mem _ q_746) (fun _ h => h) rfl dX4_alike_136 ?_
  refine vIloadN X dX4_alike_139 3 rfl ?_
  refine vIaload X (v := nI (Pl u + n)) 5 1 rfl rfl rfl (by omega) (by decide) (congrArg nI (va_up_eq _ _ _)) dX4_alike_140 ?_
  refine vIastore X (g := (fun q => nI ((va_up (va_up Mk (g) (Pl g + n)) (u) (Pl u + n)) q))) 6 1 rfl rfl rfl (by omega) (by decide) (nI_up _ _ _) dX4_alike_141 ?_
  refine vWs (ws' := mW k o pl B Ln Rm Rd (va_up (va_up Pl g (Pl g + n)) u (Pl u + n)) (va_up (va_up Mk (g) (Pl g + n)) (u) (Pl u + n)) G Sz Kp (nI (0))) rfl ?_
  refine vIloadN X dX4_alike_142 0 rfl ?_
  exact vRetI X hret dX4_alike_143 ⟨rfl, rfl⟩
set_option maxHeartbeats 4000000 in
set_option maxRecDepth 100000 in
theorem mm_alike0c (l : Launch) (D : va_G) (k : Nat → ClassId) (o : Nat → Nat) (pl : va_W) (sb : Nat) (B : Nat → Nat → Int32) (Ln Rm : Nat → Nat) (Rd : Nat → Option Nat) (Pl Mk : Nat → Nat) (G : Nat → Nat → Int32) (Sz : Nat → Nat) (Kp : Nat → Int32) (th : Int32) (g u a b n : Nat) (hg : g < 3) (hu : u < 3) (hgu : ¬ g = u) (hgRd : Rd g = some a) (huRd : Rd u = some b) (ha : a < 8) (hb : b < 8) (hla : Ln a ≤ 256) (hlb : Ln b ≤ 256) (hpl : Pl g ≤ Ln a) (hpu : Pl u ≤ Ln b) (hn : n ≤ Ln a - Pl g) (hn2 : n ≤ Ln b - Pl u) (hnv : ∀ j, j < n → B a (Pl g + j) = B b (Pl u + j)) (hl : n < Ln a - Pl g) (hl2 : n < Ln b - Pl u) (he : ¬ B a (Pl g + n) = B b (Pl u + n)) : vCt l yX4_alike cX4_alike 4 (some .int) 1 21 0 0 D vCl (vTy k) sb [.ref (o 0), .int (nI (g)), .int (nI (u))] (mW k o pl B Ln Rm Rd Pl Mk G Sz Kp th) (vDet (some (.int (nI (n)))) (mW k o pl B Ln Rm Rd (va_up (va_up Pl g (Pl g + n)) u (Pl u + n)) (va_up (va_up Mk g (Pl g + n)) u (Pl u + n)) G Sz Kp (nI 0))) := by
  refine vOf (by decide +kernel) (Nat.le_of_ble_eq_true rfl) (fun p9 e9 s9 m9 below9 meth9 c9 X hret _ => ?_)
  refine vAloadN X dX4_alike_0 0 rfl ?_
  refine vAloadN X dX4_alike_1 0 rfl ?_
  refine vIloadN X dX4_alike_2 1 rfl ?_
  refine vCallVd X [.ref (o 0)] (mm_isOtherT l D k o pl sb B Ln Rm Rd Pl Mk G Sz Kp th g (by omega)) (vGV q_838 q_840 q_14 q_29 q_841) ⟨by decide, by decide, (show _ = some 1 from by decide +kernel)⟩ ⟨Nat.le_of_ble_eq_true rfl, Nat.le_of_ble_eq_true rfl⟩ 0 4 rfl rfl rfl rfl (Nat.le_of_ble_eq_true rfl) dX4_alike_3 ⟨Nat.zero_le _, Nat.zero_le _⟩ ?_
  refine vIfN_eqF X 17 dX4_alike_6 (by decide) (by omega) (by omega) ?_
  refine vAloadN X dX4_alike_9 0 rfl ?_
  refine vIloadN X dX4_alike_10 2 rfl ?_
  refine vCallVd X [.ref (o 0)] (mm_isOtherT l D k o pl sb B Ln Rm Rd Pl Mk G Sz Kp th u (by omega)) (vGV q_838 q_840 q_14 q_29 q_841) ⟨by decide, by decide, (show _ = some 1 from by decide +kernel)⟩ ⟨Nat.le_of_ble_eq_true rfl, Nat.le_of_ble_eq_true rfl⟩ 0 4 rfl rfl rfl rfl (Nat.le_of_ble_eq_true rfl) dX4_alike_11 ⟨Nat.zero_le _, Nat.zero_le _⟩ ?_
  refine vIfN_neT X 21 dX4_alike_14 (by decide) (by omega) (by omega) ?_
  refine vIloadN X dX4_alike_21 1 rfl ?_
  refine vIloadN X dX4_alike_22 2 rfl ?_
  refine vIcmpN_neT X 30 dX4_alike_23 (by decide) (by omega) (by omega) (by omega) ?_
  refine vAloadN X dX4_alike_30 0 rfl ?_
  refine vGet X (C := RX4) (T := TX4) (N := 10) (ci := 4) (vcons inM) rfl 0 rfl 3 (by decide) (List.mem_cons_of_mem _ q_745) (fun _ h => h) rfl dX4_alike_31 ?_
  refine vIloadN X dX4_alike_34 1 rfl ?_
  refine vIaload X (v := nI (a)) 4 1 rfl rfl rfl (by omega) (by decide) (oI_some hgRd) dX4_alike_35 ?_
  refine vIfN_ltF X 48 dX4_alike_36 (by decide) (by omega) (by omega) ?_
  refine vAloadN X dX4_alike_39 0 rfl ?_
  refine vGet X (C := RX4) (T := TX4) (N := 10) (ci := 4) (vcons inM) rfl 0 rfl 3 (by decide) (List.mem_cons_of_mem _ q_745) (fun _ h => h) rfl dX4_alike_40 ?_
  refine vIloadN X dX4_alike_43 2 rfl ?_
  refine vIaload X (v := nI (b)) 4 1 rfl rfl rfl (by omega) (by decide) (oI_some huRd) dX4_alike_44 ?_
  refine vIfN_geT X 52 dX4_alike_45 (by decide) (by omega) (by omega) ?_
  refine vIconst X dX4_alike_52 (v := nI (0)) (by decide) ?_
  refine vCallVd X [] (mm_isWrong0 l D k o pl sb B Ln Rm Rd Pl Mk G Sz Kp th ) (vGV q_786 q_788 q_8 q_29 q_789) ⟨by decide, by decide, (show _ = some 1 from by decide +kernel)⟩ ⟨Nat.le_of_ble_eq_true rfl, Nat.le_of_ble_eq_true rfl⟩ 0 4 rfl rfl rfl rfl (Nat.le_of_ble_eq_true rfl) dX4_alike_53 ⟨Nat.zero_le _, Nat.zero_le _⟩ ?_
  refine vIfN_eqT X 61 dX4_alike_56 (by decide) (by omega) (by omega) ?_
  refine vIconst X dX4_alike_61 (v := nI (0)) (by decide) ?_
  refine vIstoreN X [(3, .int (nI (0))), (0, .ref (o 0)), (1, .int (nI (g))), (2, .int (nI (u)))] dX4_alike_62 (by decide) rfl ?_
  refine vSub [0, 1, 2, 3] [(3, .int (nI (0))), (0, .ref (o 0)), (1, .int (nI (g))), (2, .int (nI (u)))] rfl ?_
  refine mL_alike D k o pl sb B Ln Rm Rd Pl Mk G Sz Kp (nI (0)) g u a b n hg hu hgu hgRd huRd ha hb hla hlb hpl hpu hn hn2 hnv X ?_ (n) 0 _ (by omega) (va_up2_id hgu)
  refine vAloadN X dX4_alike_63 1 rfl ?_
  refine vIloadN X dX4_alike_64 2 rfl ?_
  refine vCallVd X [] (mm_leftOf l D k o pl sb B Ln Rm Rd (va_up (va_up Pl g (Pl g + n)) u (Pl u + n)) Mk G Sz Kp (nI (0)) g a (Pl g + n) (by omega) hgRd (by omega) (by omega) ((va_up_nq _ hgu).trans (va_up_eq _ _ _)) (by omega)) (vGV q_879 q_881 q_17 q_29 q_882) ⟨by decide, by decide, (show _ = some 1 from by decide +kernel)⟩ ⟨Nat.le_of_ble_eq_true rfl, Nat.le_of_ble_eq_true rfl⟩ 0 4 rfl rfl rfl rfl (Nat.le_of_ble_eq_true rfl) dX4_alike_65 ⟨Nat.zero_le _, Nat.zero_le _⟩ ?_
  refine vIfN_leF X 118 dX4_alike_68 (by decide) (by omega) (by omega) ?_
  refine vAloadN X dX4_alike_71 1 rfl ?_
  refine vIloadN X dX4_alike_72 3 rfl ?_
  refine vCallVd X [] (mm_leftOf l D k o pl sb B Ln Rm Rd (va_up (va_up Pl g (Pl g + n)) u (Pl u + n)) Mk G Sz Kp (nI (0)) u b (Pl u + n) (by omega) huRd (by omega) (by omega) (va_up_eq _ _ _) (by omega)) (vGV q_879 q_881 q_17 q_29 q_882) ⟨by decide, by decide, (show _ = some 1 from by decide +kernel)⟩ ⟨Nat.le_of_ble_eq_true rfl, Nat.le_of_ble_eq_true rfl⟩ 0 4 rfl rfl rfl rfl (Nat.le_of_ble_eq_true rfl) dX4_alike_73 ⟨Nat.zero_le _, Nat.zero_le _⟩ ?_
  refine vIfN_leF X 118 dX4_alike_76 (by decide) (by omega) (by omega) ?_
  refine vAloadN X dX4_alike_79 1 rfl ?_
  refine vIloadN X dX4_alike_80 2 rfl ?_
  refine vCallVd X [] (mm_next l D k o pl sb B Ln Rm Rd (va_up (va_up Pl g (Pl g + n)) u (Pl u + n)) Mk G Sz Kp (nI (0)) g a (Pl g + n) (by omega) hgRd (by omega) ((va_up_nq _ hgu).trans (va_up_eq _ _ _)) (by omega)) (vGV q_911 q_913 q_22 q_29 q_914) ⟨by decide, by decide, (show _ = some 1 from by decide +kernel)⟩ ⟨Nat.le_of_ble_eq_true rfl, Nat.le_of_ble_eq_true rfl⟩ 0 4 rfl rfl rfl rfl (Nat.le_of_ble_eq_true rfl) dX4_alike_81 ⟨Nat.zero_le _, Nat.zero_le _⟩ ?_
  refine vAloadN X dX4_alike_84 1 rfl ?_
  refine vIloadN X dX4_alike_85 3 rfl ?_
  refine vCallVd X [.int (B a (Pl g + n))] (mm_next l D k o pl sb B Ln Rm Rd (va_up (va_up Pl g (Pl g + n)) u (Pl u + n)) Mk G Sz Kp (nI (0)) u b (Pl u + n) (by omega) huRd (by omega) (va_up_eq _ _ _) (by omega)) (vGV q_911 q_913 q_22 q_29 q_914) ⟨by decide, by decide, (show _ = some 1 from by decide +kernel)⟩ ⟨Nat.le_of_ble_eq_true rfl, Nat.le_of_ble_eq_true rfl⟩ 0 4 rfl rfl rfl rfl (Nat.le_of_ble_eq_true rfl) dX4_alike_86 ⟨Nat.zero_le _, Nat.zero_le _⟩ ?_
  refine vIcmp_neT X 118 dX4_alike_89 (by decide) he ?_
  refine vAloadN X dX4_alike_118 1 rfl ?_
  refine vGet X (C := RX4) (T := TX4) (N := 10) (ci := 4) (vcons inM) rfl 0 rfl 5 (by decide) (List.mem_cons_of_mem _ q_747) (fun _ h => h) rfl dX4_alike_119 ?_
  refine vIloadN X dX4_alike_122 2 rfl ?_
  refine vAloadN X dX4_alike_123 1 rfl ?_
  refine vGet X (C := RX4) (T := TX4) (N := 10) (ci := 4) (vcons inM) rfl 0 rfl 4 (by decide) (List.mem_cons_of_mem _ q_746) (fun _ h => h) rfl dX4_alike_124 ?_
  refine vIloadN X dX4_alike_127 2 rfl ?_
  refine vIaload X (v := nI (Pl g + n)) 5 1 rfl rfl rfl (by omega) (by decide) (congrArg nI ((va_up_nq _ hgu).trans (va_up_eq _ _ _))) dX4_alike_128 ?_
  refine vIastore X (g := (fun q => nI ((va_up Mk (g) (Pl g + n)) q))) 6 1 rfl rfl rfl (by omega) (by decide) (nI_up _ _ _) dX4_alike_129 ?_
  refine vWs (ws' := mW k o pl B Ln Rm Rd (va_up (va_up Pl g (Pl g + n)) u (Pl u + n)) (va_up Mk (g) (Pl g + n)) G Sz Kp (nI (0))) rfl ?_
  refine vAloadN X dX4_alike_130 1 rfl ?_
  refine vGet X (C := RX4) (T := TX4) (N := 10) (ci := 4) (vcons inM) rfl 0 rfl 5 (by decide) (List.mem_cons_of_mem _ q_747) (fun _ h => h) rfl dX4_alike_131 ?_
  refine vIloadN X dX4_alike_134 3 rfl ?_
  refine vAloadN X dX4_alike_135 1 rfl ?_
  refine vGet X (C := RX4) (T := TX4) (N := 10) (ci := 4) (vcons inM) rfl 0 rfl 4 (by decide) (List.mem_cons_of_mem _ q_746) (fun _ h => h) rfl dX4_alike_136 ?_
  refine vIloadN X dX4_alike_139 3 rfl ?_
  refine vIaload X (v := nI (Pl u + n)) 5 1 rfl rfl rfl (by omega) (by decide) (congrArg nI (va_up_eq _ _ _)) dX4_alike_140 ?_
  refine vIastore X (g := (fun q => nI ((va_up (va_up Mk (g) (Pl g + n)) (u) (Pl u + n)) q))) 6 1 rfl rfl rfl (by omega) (by decide) (nI_up _ _ _) dX4_alike_141 ?_
  refine vWs (ws' := mW k o pl B Ln Rm Rd (va_up (va_up Pl g (Pl g + n)) u (Pl u + n)) (va_up (va_up Mk (g) (Pl g + n)) (u) (Pl u + n)) G Sz Kp (nI (0))) rfl ?_
  refine vIloadN X dX4_alike_142 0 rfl ?_
  exact vRetI X hret dX4_alike_143 ⟨rfl, rfl⟩
