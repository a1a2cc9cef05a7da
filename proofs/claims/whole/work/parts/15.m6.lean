theorem mm_lesserN (l : Launch) (D : va_G) (k : Nat → ClassId) (o : Nat → Nat) (pl : va_W) (sb : Nat) (B : Nat → Nat → Int32) (Ln Rm : Nat → Nat) (Rd : Nat → Option Nat) (Pl Mk : Nat → Nat) (G : Nat → Nat → Int32) (Sz : Nat → Nat) (Kp : Nat → Int32) (th : Int32) (a b n : Nat) (ha : a < 2 ^ 31) (hb : b < 2 ^ 31) (hn : n = min a b) : vCt l yX4_lesser cX4_lesser 3 (some .int) 0 0 0 0 D vCl (vTy k) sb [.ref (o 0), .int (nI a), .int (nI b)] (mW k o pl B Ln Rm Rd Pl Mk G Sz Kp th) (vDet (some (.int (nI n))) (mW k o pl B Ln Rm Rd Pl Mk G Sz Kp th)) := by
  subst hn
  exact mm_lesser l D k o pl sb B Ln Rm Rd Pl Mk G Sz Kp th a b ha hb
set_option maxHeartbeats 4000000 in
set_option maxRecDepth 100000 in
theorem mL_keeps {p9 : Program} {l : Launch} {e9 : Env} {s9 : State} {m9 : MethodId} {args9 : Array Value} {below9 : List Frame} {meth9 : Method} {c9 : Code} {Q9 : State → Prop} (D : va_G) (k : Nat → ClassId) (o : Nat → Nat) (pl : va_W) (sb : Nat) (B : Nat → Nat → Int32) (Ln Rm : Nat → Nat) (Rd : Nat → Option Nat) (Pl Mk : Nat → Nat) (G : Nat → Nat → Int32) (Sz : Nat → Nat) (Kp : Nat → Int32) (th : Int32) (g a m n : Nat)  (hg : g < 3) (hgRd : Rd g = some a) (ha : a < 8) (hla : Ln a ≤ 256) (hpl : Pl g ≤ Ln a) (hm : m < 2 ^ 31) (hn : n = min m (Ln a - Pl g)) (X : vCX p9 s9 m9 args9 meth9 c9 cX4_keeps 5 yX4_keeps.cls (Cond.code yX4_keeps cX4_keeps 5 (some .int) :: vGW) D vCl (vTy k) sb) (hex : vV p9 l e9 ({ frames := 1, cells := 0, slots := 0, locals := 22 }) s9 m9 args9 below9 meth9 c9 5 D vCl sb Q9 (mW k o pl B Ln Rm Rd (va_up Pl g (Pl g + n)) Mk G Sz (cpK Kp n (fun j => B a (Pl g + j))) th) 0 0 48 [(3, .int (nI (n))), (0, .ref (o 0)), (1, .int (nI (g))), (2, .int (nI (m)))] []) : ∀ (z i : Nat) (K1 : Nat → Int32) (P1 : Nat → Nat), i + z = n → K1 = cpK Kp i (fun j => B a (Pl g + j)) → P1 = va_up Pl g (Pl g + i) → vV p9 l e9 ({ frames := 1, cells := 0, slots := 0, locals := 22 }) s9 m9 args9 below9 meth9 c9 5 D vCl sb Q9 (mW k o pl B Ln Rm Rd P1 Mk G Sz K1 th) 0 0 14 [(4, .int (nI (i))), (3, .int (nI (n))), (0, .ref (o 0)), (1, .int (nI (g))), (2, .int (nI (m)))] [] := by
  intro z
  induction z with
  | zero =>
    intro i K1 P1 hi hK1 hP1
    have hin : n = i := by omega
    subst hin
    subst hK1
    subst hP1
    refine vIload X dX4_keeps_14 0 rfl ?_
    refine vIloadN X dX4_keeps_16 1 rfl ?_
    refine vIcmpN_geT X 48 dX4_keeps_17 (by decide) (by omega) (by omega) (by omega) ?_
    refine vSub [1, 2, 3, 4] [(3, .int (nI (n))), (0, .ref (o 0)), (1, .int (nI (g))), (2, .int (nI (m)))] rfl ?_
    exact hex
  | succ z ih =>
    intro i K1 P1 hi hK1 hP1
    have hPg : P1 g = Pl g + i := by rw [hP1, va_up_eq]
    refine vIload X dX4_keeps_14 0 rfl ?_
    refine vIloadN X dX4_keeps_16 1 rfl ?_
    refine vIcmpN_geF X 48 dX4_keeps_17 (by decide) (by omega) (by omega) (by omega) ?_
    refine vAloadN X dX4_keeps_20 2 rfl ?_
    refine vGet X (C := RX4) (T := TX4) (N := 10) (ci := 4) (vcons inM) rfl 0 rfl 8 (by decide) (List.mem_cons_of_mem _ q_750) (fun _ h => h) rfl dX4_keeps_21 ?_
    refine vIload X dX4_keeps_24 0 rfl ?_
    refine vAloadN X dX4_keeps_26 2 rfl ?_
    refine vIloadN X dX4_keeps_27 3 rfl ?_
    refine vCallVd X [.int (nI (i)), .ref (o 9)] (mm_next l D k o pl sb B Ln Rm Rd P1 Mk G Sz K1 th g a (Pl g + i) (by omega) hgRd (by omega) hPg (by omega)) (vGV q_911 q_913 q_22 q_29 q_914) ⟨by decide, by decide, (show _ = some 1 from by decide +kernel)⟩ ⟨Nat.le_of_ble_eq_true rfl, Nat.le_of_ble_eq_true rfl⟩ 0 4 rfl rfl rfl rfl (Nat.le_of_ble_eq_true rfl) dX4_keeps_28 ⟨Nat.zero_le _, Nat.zero_le _⟩ ?_
    refine vIastore X (g := upd K1 (i) (B a (Pl g + i))) 9 1 rfl rfl rfl (by omega) (by decide) rfl dX4_keeps_31 ?_
    refine vWs (ws' := mW k o pl B Ln Rm Rd P1 Mk G Sz (upd K1 (i) (B a (Pl g + i))) th) rfl ?_
    refine vAloadN X dX4_keeps_32 2 rfl ?_
    refine vGet X (C := RX4) (T := TX4) (N := 10) (ci := 4) (vcons inM) rfl 0 rfl 4 (by decide) (List.mem_cons_of_mem _ q_746) (fun _ h => h) rfl dX4_keeps_33 ?_
    refine vIloadN X dX4_keeps_36 3 rfl ?_
    refine vDup2 X dX4_keeps_37 rfl rfl ?_
    refine vIaload X (v := nI (Pl g + i)) 5 1 rfl rfl rfl (by omega) (by decide) (congrArg nI hPg) dX4_keeps_38 ?_
    refine vIconst X dX4_keeps_39 (v := nI (1)) (by decide) ?_
    refine vIadd X dX4_keeps_40 (v := nI ((Pl g + i) + (1))) (nI_add _ _) ?_
    refine vIastore X (g := (fun q => nI ((va_up P1 (g) ((Pl g + i) + (1))) q))) 5 1 rfl rfl rfl (by omega) (by decide) (nI_up _ _ _) dX4_keeps_41 ?_
    refine vWs (ws' := mW k o pl B Ln Rm Rd (va_up P1 (g) ((Pl g + i) + (1))) Mk G Sz (upd K1 (i) (B a (Pl g + i))) th) rfl ?_
    refine vIinc X [(4, .int (nI (i + 1))), (3, .int (nI (n))), (0, .ref (o 0)), (1, .int (nI (g))), (2, .int (nI (m)))] dX4_keeps_42 0 rfl (nI_inc _) (by decide) rfl ?_
    refine vGoto X 14 dX4_keeps_45 (by decide) ?_
    refine vSub [0, 1, 2, 3, 4] [(4, .int (nI (i + 1))), (3, .int (nI (n))), (0, .ref (o 0)), (1, .int (nI (g))), (2, .int (nI (m)))] rfl ?_
    exact ih (i + 1) _ _ (by omega) (by rw [hK1]; exact cpK_1 _ _ _) (by rw [hP1, va_up_up]; rfl)
set_option maxHeartbeats 4000000 in
set_option maxRecDepth 100000 in
theorem mm_keeps (l : Launch) (D : va_G) (k : Nat → ClassId) (o : Nat → Nat) (pl : va_W) (sb : Nat) (B : Nat → Nat → Int32) (Ln Rm : Nat → Nat) (Rd : Nat → Option Nat) (Pl Mk : Nat → Nat) (G : Nat → Nat → Int32) (Sz : Nat → Nat) (Kp : Nat → Int32) (th : Int32) (g a m n : Nat)  (hg : g < 3) (hgRd : Rd g = some a) (ha : a < 8) (hla : Ln a ≤ 256) (hpl : Pl g ≤ Ln a) (hm : m < 2 ^ 31) (hn : n = min m (Ln a - Pl g)) : vCt l yX4_keeps cX4_keeps 5 (some .int) 1 22 0 0 D vCl (vTy k) sb [.ref (o 0), .int (nI (g)), .int (nI (m))] (mW k o pl B Ln Rm Rd Pl Mk G Sz Kp th) (vDet (some (.int (nI (n)))) (mW k o pl B Ln Rm Rd (va_up Pl g (Pl g + n)) Mk G Sz (cpK Kp n (fun j => B a (Pl g + j))) th)) := by
  refine vOf (by decide +kernel) (Nat.le_of_ble_eq_true rfl) (fun p9 e9 s9 m9 below9 meth9 c9 X hret _ => ?_)
  refine vAloadN X dX4_keeps_0 0 rfl ?_
  refine vIloadN X dX4_keeps_1 2 rfl ?_
  refine vAloadN X dX4_keeps_2 0 rfl ?_
  refine vIloadN X dX4_keeps_3 1 rfl ?_
  refine vCallVd X [.int (nI (m)), .ref (o 0)] (mm_leftOf l D k o pl sb B Ln Rm Rd Pl Mk G Sz Kp th g a (Pl (g)) (by omega) hgRd (by omega) (by omega) rfl (by omega)) (vGV q_879 q_881 q_17 q_29 q_882) ⟨by decide, by decide, (show _ = some 1 from by decide +kernel)⟩ ⟨Nat.le_of_ble_eq_true rfl, Nat.le_of_ble_eq_true rfl⟩ 0 4 rfl rfl rfl rfl (Nat.le_of_ble_eq_true rfl) dX4_keeps_4 ⟨Nat.zero_le _, Nat.zero_le _⟩ ?_
  refine vCallVd X [] (mm_lesserN l D k o pl sb B Ln Rm Rd Pl Mk G Sz Kp th (m) ((Ln a) - (Pl (g))) n (by omega) (by omega) (by omega)) (vGV q_907 q_909 q_21 q_29 q_910) ⟨by decide, by decide, (show _ = some 2 from by decide +kernel)⟩ ⟨Nat.le_of_ble_eq_true rfl, Nat.le_of_ble_eq_true rfl⟩ 0 4 rfl rfl rfl rfl (Nat.le_of_ble_eq_true rfl) dX4_keeps_7 ⟨Nat.zero_le _, Nat.zero_le _⟩ ?_
  refine vIstoreN X [(3, .int (nI (n))), (0, .ref (o 0)), (1, .int (nI (g))), (2, .int (nI (m)))] dX4_keeps_10 (by decide) rfl ?_
  refine vIconst X dX4_keeps_11 (v := nI (0)) (by decide) ?_
  refine vIstore X [(4, .int (nI (0))), (3, .int (nI (n))), (0, .ref (o 0)), (1, .int (nI (g))), (2, .int (nI (m)))] dX4_keeps_12 (by decide) rfl ?_
  refine vSub [0, 1, 2, 3, 4] [(4, .int (nI (0))), (3, .int (nI (n))), (0, .ref (o 0)), (1, .int (nI (g))), (2, .int (nI (m)))] rfl ?_
  refine mL_keeps D k o pl sb B Ln Rm Rd Pl Mk G Sz Kp th g a m n hg hgRd ha hla hpl hm hn X ?_ (n) 0 _ _ (by omega) (cpK_0 _ _) (va_up_id _ _ _ rfl)
  refine vIloadN X dX4_keeps_48 0 rfl ?_
  exact vRetI X hret dX4_keeps_49 ⟨rfl, rfl⟩
set_option maxHeartbeats 4000000 in
set_option maxRecDepth 100000 in
theorem mL_lays {p9 : Program} {l : Launch} {e9 : Env} {s9 : State} {m9 : MethodId} {args9 : Array Value} {below9 : List Frame} {meth9 : Method} {c9 : Code} {Q9 : State → Prop} (D : va_G) (k : Nat → ClassId) (o : Nat → Nat) (pl : va_W) (sb : Nat) (B : Nat → Nat → Int32) (Ln Rm : Nat → Nat) (Rd : Nat → Option Nat) (Pl Mk : Nat → Nat) (G : Nat → Nat → Int32) (Sz : Nat → Nat) (Kp : Nat → Int32) (th : Int32) (g r f m n : Nat) (hr : r < 4) (hRm : ∀ r, r < 4 → Rm r < 8) (hp : f + n ≤ 256) (X : vCX p9 s9 m9 args9 meth9 c9 cX4_lays 7 yX4_lays.cls (Cond.code yX4_lays cX4_lays 7 (some .int) :: vGW) D vCl (vTy k) sb) (hex : vV p9 l e9 ({ frames := 2, cells := 0, slots := 0, locals := 46 }) s9 m9 args9 below9 meth9 c9 7 D vCl sb Q9 (mW k o pl (cpG B (Rm r) f n Kp) Ln Rm Rd Pl Mk G Sz Kp th) 0 0 52 [(5, .int (nI (n)))] []) : ∀ (z i : Nat) (B1 : Nat → Nat → Int32), i + z = n → B1 = cpG B (Rm r) f i Kp → vV p9 l e9 ({ frames := 2, cells := 0, slots := 0, locals := 46 }) s9 m9 args9 below9 meth9 c9 7 D vCl sb Q9 (mW k o pl B1 Ln Rm Rd Pl Mk G Sz Kp th) 0 0 12 [(6, .int (nI (i))), (5, .int (nI (n))), (0, .ref (o 0)), (1, .int (nI (g))), (2, .int (nI (r))), (3, .int (nI (f))), (4, .int (nI (m)))] [] := by
  intro z
  induction z with
  | zero =>
    intro i B1 hi hB1
    have hin : n = i := by omega
    subst hin
    subst hB1
    refine vIload X dX4_lays_12 0 rfl ?_
    refine vIload X dX4_lays_14 1 rfl ?_
    refine vIcmpN_geT X 52 dX4_lays_16 (by decide) (by omega) (by omega) (by omega) ?_
    refine vSub [1] [(5, .int (nI (n)))] rfl ?_
    exact hex
  | succ z ih =>
    intro i B1 hi hB1
    have hRr := hRm r hr
    refine vIload X dX4_lays_12 0 rfl ?_
    refine vIload X dX4_lays_14 1 rfl ?_
    refine vIcmpN_geF X 52 dX4_lays_16 (by decide) (by omega) (by omega) (by omega) ?_
    refine vAloadN X dX4_lays_19 2 rfl ?_
    refine vGet X (C := RX4) (T := TX4) (N := 10) (ci := 4) (vcons inM) rfl 0 rfl 0 (by decide) (List.mem_cons_of_mem _ q_742) (fun _ h => h) rfl dX4_lays_20 ?_
    refine vSipush X dX4_lays_23 (v := nI (256)) (by decide) ?_
    refine vAloadN X dX4_lays_26 2 rfl ?_
    refine vGet X (C := RX4) (T := TX4) (N := 10) (ci := 4) (vcons inM) rfl 0 rfl 2 (by decide) (List.mem_cons_of_mem _ q_744) (fun _ h => h) rfl dX4_lays_27 ?_
    refine vIloadN X dX4_lays_30 4 rfl ?_
    refine vIaload X (v := nI (Rm (r))) 3 1 rfl rfl rfl (by omega) (by decide) rfl dX4_lays_31 ?_
    refine vImul X dX4_lays_32 (v := nI ((256) * (Rm (r)))) (pk_mul _ _) ?_
    refine vIloadN X dX4_lays_33 5 rfl ?_
    refine vIadd X dX4_lays_34 (v := nI (((256) * (Rm (r))) + (f))) (nI_add _ _) ?_
    refine vIload X dX4_lays_35 0 rfl ?_
    refine vIadd X dX4_lays_37 (v := nI ((((256) * (Rm (r))) + (f)) + (i))) (nI_add _ _) ?_
    refine vAloadN X dX4_lays_38 2 rfl ?_
    refine vGet X (C := RX4) (T := TX4) (N := 10) (ci := 4) (vcons inM) rfl 0 rfl 8 (by decide) (List.mem_cons_of_mem _ q_750) (fun _ h => h) rfl dX4_lays_39 ?_
    refine vIload X dX4_lays_42 0 rfl ?_
    refine vIaload X (v := Kp (i)) 9 1 rfl rfl rfl (by omega) (by decide) rfl dX4_lays_44 ?_
    refine vIastore X (g := fl2 (up2 B1 (Rm (r)) (f + i) (Kp (i)))) 1 1 rfl rfl rfl (by omega) (by decide) (fl2_up _ _ (X := Rm (r)) (Y := f + i) (by omega) (by omega)) dX4_lays_45 ?_
    refine vWs (ws' := mW k o pl (up2 B1 (Rm (r)) (f + i) (Kp (i))) Ln Rm Rd Pl Mk G Sz Kp th) rfl ?_
    refine vIinc X [(6, .int (nI (i + 1))), (5, .int (nI (n))), (0, .ref (o 0)), (1, .int (nI (g))), (2, .int (nI (r))), (3, .int (nI (f))), (4, .int (nI (m)))] dX4_lays_46 0 rfl (nI_inc _) (by decide) rfl ?_
    refine vGoto X 12 dX4_lays_49 (by decide) ?_
    refine vSub [0, 1, 2, 3, 4, 5, 6] [(6, .int (nI (i + 1))), (5, .int (nI (n))), (0, .ref (o 0)), (1, .int (nI (g))), (2, .int (nI (r))), (3, .int (nI (f))), (4, .int (nI (m)))] rfl ?_
    exact ih (i + 1) _ (by omega) (by rw [hB1]; exact cpG_1 _ _ _ _ _)
set_option maxHeartbeats 4000000 in
set_option maxRecDepth 100000 in
theorem mm_lays (l : Launch) (D : va_G) (k : Nat → ClassId) (o : Nat → Nat) (pl : va_W) (sb : Nat) (B : Nat → Nat → Int32) (Ln Rm : Nat → Nat) (Rd : Nat → Option Nat) (Pl Mk : Nat → Nat) (G : Nat → Nat → Int32) (Sz : Nat → Nat) (Kp : Nat → Int32) (th : Int32) (g a r f m n : Nat) (hg : g < 3) (hgRd : Rd g = some a) (ha : a < 8) (hla : Ln a ≤ 256) (hpl : Pl g ≤ Ln a) (hr : r < 4) (hp : f + m ≤ Ln (Rm r)) (hn : n = min m (Ln a - Pl g)) (hRm : ∀ r, r < 4 → Rm r < 8) (hLn : ∀ a, Ln a ≤ 256) : vCt l yX4_lays cX4_lays 7 (some .int) 2 46 0 0 D vCl (vTy k) sb [.ref (o 0), .int (nI (g)), .int (nI (r)), .int (nI (f)), .int (nI (m))] (mW k o pl B Ln Rm Rd Pl Mk G Sz Kp th) (vDet (some (.int (nI (n)))) (mW k o pl (cpG B (Rm r) f n (fun j => B a (Pl g + j))) Ln Rm Rd (va_up Pl g (Pl g + n)) Mk G Sz (cpK Kp n (fun j => B a (Pl g + j))) th)) := by
  have hRr := hRm r hr
  have hLr := hLn (Rm r)
  refine vOf (by decide +kernel) (Nat.le_of_ble_eq_true rfl) (fun p9 e9 s9 m9 below9 meth9 c9 X hret _ => ?_)
  refine vAloadN X dX4_lays_0 0 rfl ?_
  refine vIloadN X dX4_lays_1 1 rfl ?_
  refine vIload X dX4_lays_2 4 rfl ?_
  refine vCallVd X [] (mm_keeps l D k o pl sb B Ln Rm Rd Pl Mk G Sz Kp th g a (m) n hg hgRd (by omega) (by omega) (by omega) (by omega) (by omega)) (vGV q_903 q_905 q_20 q_29 q_906) ⟨by decide, by decide, (show _ = some 2 from by decide +kernel)⟩ ⟨Nat.le_of_ble_eq_true rfl, Nat.le_of_ble_eq_true rfl⟩ 0 4 rfl rfl rfl rfl (Nat.le_of_ble_eq_true rfl) dX4_lays_4 ⟨Nat.zero_le _, Nat.zero_le _⟩ ?_
  refine vIstore X [(5, .int (nI (n))), (0, .ref (o 0)), (1, .int (nI (g))), (2, .int (nI (r))), (3, .int (nI (f))), (4, .int (nI (m)))] dX4_lays_7 (by decide) rfl ?_
  refine vIconst X dX4_lays_9 (v := nI (0)) (by decide) ?_
  refine vIstore X [(6, .int (nI (0))), (5, .int (nI (n))), (0, .ref (o 0)), (1, .int (nI (g))), (2, .int (nI (r))), (3, .int (nI (f))), (4, .int (nI (m)))] dX4_lays_10 (by decide) rfl ?_
  refine vSub [0, 1, 2, 3, 4, 5, 6] [(6, .int (nI (0))), (5, .int (nI (n))), (0, .ref (o 0)), (1, .int (nI (g))), (2, .int (nI (r))), (3, .int (nI (f))), (4, .int (nI (m)))] rfl ?_
  refine mL_lays D k o pl sb B Ln Rm Rd (va_up Pl g (Pl g + n)) Mk G Sz (cpK Kp n (fun j => B a (Pl g + j))) th g r f m n hr hRm (by omega) X ?_ (n) 0 _ (by omega) (cpG_0 _ _ _ _)
  refine vIload X dX4_lays_52 0 rfl ?_
  exact vRetI X hret dX4_lays_54 ⟨rfl, by rw [cpG_K]⟩
set_option maxHeartbeats 4000000 in
set_option maxRecDepth 100000 in
theorem mm_readPart1a (l : Launch) (D : va_G) (k : Nat → ClassId) (o : Nat → Nat) (pl : va_W) (sb : Nat) (B : Nat → Nat → Int32) (Ln Rm : Nat → Nat) (Rd : Nat → Option Nat) (Pl Mk : Nat → Nat) (G : Nat → Nat → Int32) (Sz : Nat → Nat) (Kp : Nat → Int32) (th : Int32) (x y f n : Int32) (hx : ¬ vOther x) : vCt l yX4_readPart cX4_readPart 5 (some .int) 3 72 0 0 D vCl (vTy k) sb [.ref (o 0), .int (x), .int (y), .int (f), .int (n)] (mW k o pl B Ln Rm Rd Pl Mk G Sz Kp th) (vDet (some (.int (nI (0)))) (mW k o pl B Ln Rm Rd Pl Mk G Sz Kp (nI (1)))) := by
  refine vOf (by decide +kernel) (Nat.le_of_ble_eq_true rfl) (fun p9 e9 s9 m9 below9 meth9 c9 X hret _ => ?_)
  refine vAloadN X dX4_readPart_0 0 rfl ?_
  refine vAloadN X dX4_readPart_1 0 rfl ?_
  refine vIloadN X dX4_readPart_2 1 rfl ?_
  refine vCallVd X [.ref (o 0)] (mm_isOtherF l D k o pl sb B Ln Rm Rd Pl Mk G Sz Kp th x hx) (vGV q_838 q_840 q_14 q_29 q_841) ⟨by decide, by decide, (show _ = some 1 from by decide +kernel)⟩ ⟨Nat.le_of_ble_eq_true rfl, Nat.le_of_ble_eq_true rfl⟩ 0 4 rfl rfl rfl rfl (Nat.le_of_ble_eq_true rfl) dX4_readPart_3 ⟨Nat.zero_le _, Nat.zero_le _⟩ ?_
  refine vIfN_eqT X 20 dX4_readPart_6 (by decide) (by omega) (by omega) ?_
  refine vIconst X dX4_readPart_20 (v := nI (1)) (by decide) ?_
  refine vGoto X 38 dX4_readPart_21 (by decide) ?_
  refine vCallVd X [] (mm_isWrong1 l D k o pl sb B Ln Rm Rd Pl Mk G Sz Kp th 1 (by decide) (by decide)) (vGV q_786 q_788 q_8 q_29 q_789) ⟨by decide, by decide, (show _ = some 1 from by decide +kernel)⟩ ⟨Nat.le_of_ble_eq_true rfl, Nat.le_of_ble_eq_true rfl⟩ 0 4 rfl rfl rfl rfl (Nat.le_of_ble_eq_true rfl) dX4_readPart_38 ⟨Nat.zero_le _, Nat.zero_le _⟩ ?_
  refine vIfN_eqF X 46 dX4_readPart_41 (by decide) (by omega) (by omega) ?_
  refine vIconst X dX4_readPart_44 (v := nI (0)) (by decide) ?_
  exact vRetI X hret dX4_readPart_45 ⟨rfl, rfl⟩
set_option maxHeartbeats 4000000 in
set_option maxRecDepth 100000 in
theorem mm_readPart1b (l : Launch) (D : va_G) (k : Nat → ClassId) (o : Nat → Nat) (pl : va_W) (sb : Nat) (B : Nat → Nat → Int32) (Ln Rm : Nat → Nat) (Rd : Nat → Option Nat) (Pl Mk : Nat → Nat) (G : Nat → Nat → Int32) (Sz : Nat → Nat) (Kp : Nat → Int32) (th : Int32) (g : Nat) (y f n : Int32) (hg : g < 3) (hRm : ∀ r, r < 4 → Rm r < 8) (hLn : ∀ a, Ln a ≤ 256) (hpart : ¬ vPart Ln Rm y f n) : vCt l yX4_readPart cX4_readPart 5 (some .int) 3 72 0 0 D vCl (vTy k) sb [.ref (o 0), .int (nI (g)), .int (y), .int (f), .int (n)] (mW k o pl B Ln Rm Rd Pl Mk G Sz Kp th) (vDet (some (.int (nI (0)))) (mW k o pl B Ln Rm Rd Pl Mk G Sz Kp (nI (1)))) := by
  refine vOf (by decide +kernel) (Nat.le_of_ble_eq_true rfl) (fun p9 e9 s9 m9 below9 meth9 c9 X hret _ => ?_)
  refine vAloadN X dX4_readPart_0 0 rfl ?_
  refine vAloadN X dX4_readPart_1 0 rfl ?_
  refine vIloadN X dX4_readPart_2 1 rfl ?_
  refine vCallVd X [.ref (o 0)] (mm_isOtherT l D k o pl sb B Ln Rm Rd Pl Mk G Sz Kp th g (by omega)) (vGV q_838 q_840 q_14 q_29 q_841) ⟨by decide, by decide, (show _ = some 1 from by decide +kernel)⟩ ⟨Nat.le_of_ble_eq_true rfl, Nat.le_of_ble_eq_true rfl⟩ 0 4 rfl rfl rfl rfl (Nat.le_of_ble_eq_true rfl) dX4_readPart_3 ⟨Nat.zero_le _, Nat.zero_le _⟩ ?_
  refine vIfN_eqF X 20 dX4_readPart_6 (by decide) (by omega) (by omega) ?_
  refine vAloadN X dX4_readPart_9 0 rfl ?_
  refine vIloadN X dX4_readPart_10 2 rfl ?_
  refine vIloadN X dX4_readPart_11 3 rfl ?_
  refine vIload X dX4_readPart_12 4 rfl ?_
  refine vCallVd X [.ref (o 0)] (mm_isPartF l D k o pl sb B Ln Rm Rd Pl Mk G Sz Kp th y f n hRm hLn hpart) (vGV q_814 q_816 q_12 q_29 q_817) ⟨by decide, by decide, (show _ = some 3 from by decide +kernel)⟩ ⟨Nat.le_of_ble_eq_true rfl, Nat.le_of_ble_eq_true rfl⟩ 0 4 rfl rfl rfl rfl (Nat.le_of_ble_eq_true rfl) dX4_readPart_14 ⟨Nat.zero_le _, Nat.zero_le _⟩ ?_
  refine vIfN_neF X 24 dX4_readPart_17 (by decide) (by omega) (by omega) ?_
  refine vIconst X dX4_readPart_20 (v := nI (1)) (by decide) ?_
  refine vGoto X 38 dX4_readPart_21 (by decide) ?_
  refine vCallVd X [] (mm_isWrong1 l D k o pl sb B Ln Rm Rd Pl Mk G Sz Kp th 1 (by decide) (by decide)) (vGV q_786 q_788 q_8 q_29 q_789) ⟨by decide, by decide, (show _ = some 1 from by decide +kernel)⟩ ⟨Nat.le_of_ble_eq_true rfl, Nat.le_of_ble_eq_true rfl⟩ 0 4 rfl rfl rfl rfl (Nat.le_of_ble_eq_true rfl) dX4_readPart_38 ⟨Nat.zero_le _, Nat.zero_le _⟩ ?_
  refine vIfN_eqF X 46 dX4_readPart_41 (by decide) (by omega) (by omega) ?_
  refine vIconst X dX4_readPart_44 (v := nI (0)) (by decide) ?_
  exact vRetI X hret dX4_readPart_45 ⟨rfl, rfl⟩
set_option maxHeartbeats 4000000 in
set_option maxRecDepth 100000 in
theorem mm_readPart2 (l : Launch) (D : va_G) (k : Nat → ClassId) (o : Nat → Nat) (pl : va_W) (sb : Nat) (B : Nat → Nat → Int32) (Ln Rm : Nat → Nat) (Rd : Nat → Option Nat) (Pl Mk : Nat → Nat) (G : Nat → Nat → Int32) (Sz : Nat → Nat) (Kp : Nat → Int32) (th : Int32) (g r f m : Nat) (hg : g < 3) (hgRd : Rd g = none) (hr : r < 4) (hp : f + m ≤ Ln (Rm r)) (hRm : ∀ r, r < 4 → Rm r < 8) (hLn : ∀ a, Ln a ≤ 256) : vCt l yX4_readPart cX4_readPart 5 (some .int) 3 72 0 0 D vCl (vTy k) sb [.ref (o 0), .int (nI (g)), .int (nI (r)), .int (nI (f)), .int (nI (m))] (mW k o pl B Ln Rm Rd Pl Mk G Sz Kp th) (vDet (some (.int (nI (0)))) (mW k o pl B Ln Rm Rd Pl Mk G Sz Kp (nI (2)))) := by
  have hRr := hRm r hr
  have hLr := hLn (Rm r)
  refine vOf (by decide +kernel) (Nat.le_of_ble_eq_true rfl) (fun p9 e9 s9 m9 below9 meth9 c9 X hret _ => ?_)
  refine vAloadN X dX4_readPart_0 0 rfl ?_
  refine vAloadN X dX4_readPart_1 0 rfl ?_
  refine vIloadN X dX4_readPart_2 1 rfl ?_
  refine vCallVd X [.ref (o 0)] (mm_isOtherT l D k o pl sb B Ln Rm Rd Pl Mk G Sz Kp th g (by omega)) (vGV q_838 q_840 q_14 q_29 q_841) ⟨by decide, by decide, (show _ = some 1 from by decide +kernel)⟩ ⟨Nat.le_of_ble_eq_true rfl, Nat.le_of_ble_eq_true rfl⟩ 0 4 rfl rfl rfl rfl (Nat.le_of_ble_eq_true rfl) dX4_readPart_3 ⟨Nat.zero_le _, Nat.zero_le _⟩ ?_
  refine vIfN_eqF X 20 dX4_readPart_6 (by decide) (by omega) (by omega) ?_
  refine vAloadN X dX4_readPart_9 0 rfl ?_
  refine vIloadN X dX4_readPart_10 2 rfl ?_
  refine vIloadN X dX4_readPart_11 3 rfl ?_
  refine vIload X dX4_readPart_12 4 rfl ?_
  refine vCallVd X [.ref (o 0)] (mm_isPartT l D k o pl sb B Ln Rm Rd Pl Mk G Sz Kp th r f m (by omega) (by omega) (by omega) (by omega)) (vGV q_814 q_816 q_12 q_29 q_817) ⟨by decide, by decide, (show _ = some 3 from by decide +kernel)⟩ ⟨Nat.le_of_ble_eq_true rfl, Nat.le_of_ble_eq_true rfl⟩ 0 4 rfl rfl rfl rfl (Nat.le_of_ble_eq_true rfl) dX4_readPart_14 ⟨Nat.zero_le _, Nat.zero_le _⟩ ?_
  refine vIfN_neT X 24 dX4_readPart_17 (by decide) (by omega) (by omega) ?_
  refine vAloadN X dX4_readPart_24 0 rfl ?_
  refine vGet X (C := RX4) (T := TX4) (N := 10) (ci := 4) (vcons inM) rfl 0 rfl 3 (by decide) (List.mem_cons_of_mem _ q_745) (fun _ h => h) rfl dX4_readPart_25 ?_
  refine vIloadN X dX4_readPart_28 1 rfl ?_
  refine vIaload X (v := (-1 : Int32)) 4 1 rfl rfl rfl (by omega) (by decide) (oI_none hgRd) dX4_readPart_29 ?_
  refine vIf_geF X 37 dX4_readPart_30 (by decide) (by first | assumption | exact Int32.not_lt.mpr (by assumption) | exact Int32.not_le.mpr (by assumption) | exact Int32.not_lt.mp (by assumption) | exact Int32.not_le.mp (by assumption) | decide) ?_
  refine vIconst X dX4_readPart_33 (v := nI (2)) (by decide) ?_
  refine vGoto X 38 dX4_readPart_34 (by decide) ?_
  refine vCallVd X [] (mm_isWrong1 l D k o pl sb B Ln Rm Rd Pl Mk G Sz Kp th 2 (by decide) (by decide)) (vGV q_786 q_788 q_8 q_29 q_789) ⟨by decide, by decide, (show _ = some 1 from by decide +kernel)⟩ ⟨Nat.le_of_ble_eq_true rfl, Nat.le_of_ble_eq_true rfl⟩ 0 4 rfl rfl rfl rfl (Nat.le_of_ble_eq_true rfl) dX4_readPart_38 ⟨Nat.zero_le _, Nat.zero_le _⟩ ?_
  refine vIfN_eqF X 46 dX4_readPart_41 (by decide) (by omega) (by omega) ?_
  refine vIconst X dX4_readPart_44 (v := nI (0)) (by decide) ?_
  exact vRetI X hret dX4_readPart_45 ⟨rfl, rfl⟩
set_option maxHeartbeats 4000000 in
set_option maxRecDepth 100000 in
theorem mm_readPart0a (l : Launch) (D : va_G) (k : Nat → ClassId) (o : Nat → Nat) (pl : va_W) (sb : Nat) (B : Nat → Nat → Int32) (Ln Rm : Nat → Nat) (Rd : Nat → Option Nat) (Pl Mk : Nat → Nat) (G : Nat → Nat → Int32) (Sz : Nat → Nat) (Kp : Nat → Int32) (th : Int32) (g a r f m : Nat) (hg : g < 3) (hgRd : Rd g = some a) (ha : a < 8) (hla : Ln a ≤ 256) (hpl : Pl g ≤ Ln a) (hl : Pl g = Ln a) (hr : r < 4) (hp : f + m ≤ Ln (Rm r)) (hRm : ∀ r, r < 4 → Rm r < 8) (hLn : ∀ a, Ln a ≤ 256) : vCt l yX4_readPart cX4_readPart 5 (some .int) 3 72 0 0 D vCl (vTy k) sb [.ref (o 0), .int (nI (g)), .int (nI (r)), .int (nI (f)), .int (nI (m))] (mW k o pl B Ln Rm Rd Pl Mk G Sz Kp th) (vDet (some (.int ((-1 : Int32)))) (mW k o pl B Ln Rm Rd Pl Mk G Sz Kp (nI (0)))) := by
  have hRr := hRm r hr
  have hLr := hLn (Rm r)
  refine vOf (by decide +kernel) (Nat.le_of_ble_eq_true rfl) (fun p9 e9 s9 m9 below9 meth9 c9 X hret _ => ?_)
  refine vAloadN X dX4_readPart_0 0 rfl ?_
  refine vAloadN X dX4_readPart_1 0 rfl ?_
  refine vIloadN X dX4_readPart_2 1 rfl ?_
  refine vCallVd X [.ref (o 0)] (mm_isOtherT l D k o pl sb B Ln Rm Rd Pl Mk G Sz Kp th g (by omega)) (vGV q_838 q_840 q_14 q_29 q_841) ⟨by decide, by decide, (show _ = some 1 from by decide +kernel)⟩ ⟨Nat.le_of_ble_eq_true rfl, Nat.le_of_ble_eq_true rfl⟩ 0 4 rfl rfl rfl rfl (Nat.le_of_ble_eq_true rfl) dX4_readPart_3 ⟨Nat.zero_le _, Nat.zero_le _⟩ ?_
  refine vIfN_eqF X 20 dX4_readPart_6 (by decide) (by omega) (by omega) ?_
  refine vAloadN X dX4_readPart_9 0 rfl ?_
  refine vIloadN X dX4_readPart_10 2 rfl ?_
  refine vIloadN X dX4_readPart_11 3 rfl ?_
  refine vIload X dX4_readPart_12 4 rfl ?_
  refine vCallVd X [.ref (o 0)] (mm_isPartT l D k o pl sb B Ln Rm Rd Pl Mk G Sz Kp th r f m (by omega) (by omega) (by omega) (by omega)) (vGV q_814 q_816 q_12 q_29 q_817) ⟨by decide, by decide, (show _ = some 3 from by decide +kernel)⟩ ⟨Nat.le_of_ble_eq_true rfl, Nat.le_of_ble_eq_true rfl⟩ 0 4 rfl rfl rfl rfl (Nat.le_of_ble_eq_true rfl) dX4_readPart_14 ⟨Nat.zero_le _, Nat.zero_le _⟩ ?_
  refine vIfN_neT X 24 dX4_readPart_17 (by decide) (by omega) (by omega) ?_
  refine vAloadN X dX4_readPart_24 0 rfl ?_
  refine vGet X (C := RX4) (T := TX4) (N := 10) (ci := 4) (vcons inM) rfl 0 rfl 3 (by decide) (List.mem_cons_of_mem _ q_745) (fun _ h => h) rfl dX4_readPart_25 ?_
  refine vIloadN X dX4_readPart_28 1 rfl ?_
  refine vIaload X (v := nI (a)) 4 1 rfl rfl rfl (by omega) (by decide) (oI_some hgRd) dX4_readPart_29 ?_
  refine vIfN_geT X 37 dX4_readPart_30 (by decide) (by omega) (by omega) ?_
  refine vIconst X dX4_readPart_37 (v := nI (0)) (by decide) ?_
  refine vCallVd X [] (mm_isWrong0 l D k o pl sb B Ln Rm Rd Pl Mk G Sz Kp th ) (vGV q_786 q_788 q_8 q_29 q_789) ⟨by decide, by decide, (show _ = some 1 from by decide +kernel)⟩ ⟨Nat.le_of_ble_eq_true rfl, Nat.le_of_ble_eq_true rfl⟩ 0 4 rfl rfl rfl rfl (Nat.le_of_ble_eq_true rfl) dX4_readPart_38 ⟨Nat.zero_le _, Nat.zero_le _⟩ ?_
  refine vIfN_eqT X 46 dX4_readPart_41 (by decide) (by omega) (by omega) ?_
  refine vAloadN X dX4_readPart_46 0 rfl ?_
  refine vIloadN X dX4_readPart_47 1 rfl ?_
  refine vCallVd X [] (mm_leftOf l D k o pl sb B Ln Rm Rd Pl Mk G Sz Kp (nI (0)) g a (Pl (g)) (by omega) hgRd (by omega) (by omega) rfl (by omega)) (vGV q_879 q_881 q_17 q_29 q_882) ⟨by decide, by decide, (show _ = some 1 from by decide +kernel)⟩ ⟨Nat.le_of_ble_eq_true rfl, Nat.le_of_ble_eq_true rfl⟩ 0 4 rfl rfl rfl rfl (Nat.le_of_ble_eq_true rfl) dX4_readPart_48 ⟨Nat.zero_le _, Nat.zero_le _⟩ ?_
  refine vIfN_neF X 58 dX4_readPart_51 (by decide) (by omega) (by omega) ?_
  refine vIconst X dX4_readPart_54 (v := (-1 : Int32)) (by decide) ?_
  refine vGoto X 67 dX4_readPart_55 (by decide) ?_
  exact vRetI X hret dX4_readPart_67 ⟨rfl, rfl⟩
set_option maxHeartbeats 4000000 in
set_option maxRecDepth 100000 in
theorem mm_readPart0b (l : Launch) (D : va_G) (k : Nat → ClassId) (o : Nat → Nat) (pl : va_W) (sb : Nat) (B : Nat → Nat → Int32) (Ln Rm : Nat → Nat) (Rd : Nat → Option Nat) (Pl Mk : Nat → Nat) (G : Nat → Nat → Int32) (Sz : Nat → Nat) (Kp : Nat → Int32) (th : Int32) (g a r f m n : Nat) (hg : g < 3) (hgRd : Rd g = some a) (ha : a < 8) (hla : Ln a ≤ 256) (hpl : Pl g ≤ Ln a) (hl : Pl g < Ln a) (hr : r < 4) (hp : f + m ≤ Ln (Rm r)) (hn : n = min m (Ln a - Pl g)) (hRm : ∀ r, r < 4 → Rm r < 8) (hLn : ∀ a, Ln a ≤ 256) : vCt l yX4_readPart cX4_readPart 5 (some .int) 3 72 0 0 D vCl (vTy k) sb [.ref (o 0), .int (nI (g)), .int (nI (r)), .int (nI (f)), .int (nI (m))] (mW k o pl B Ln Rm Rd Pl Mk G Sz Kp th) (vDet (some (.int (nI (n)))) (mW k o pl (cpG B (Rm r) f n (fun j => B a (Pl g + j))) Ln Rm Rd (va_up Pl g (Pl g + n)) Mk G Sz (cpK Kp n (fun j => B a (Pl g + j))) (nI (0)))) := by
  have hRr := hRm r hr
  have hLr := hLn (Rm r)
  refine vOf (by decide +kernel) (Nat.le_of_ble_eq_true rfl) (fun p9 e9 s9 m9 below9 meth9 c9 X hret _ => ?_)
  refine vAloadN X dX4_readPart_0 0 rfl ?_
  refine vAloadN X dX4_readPart_1 0 rfl ?_
  refine vIloadN X dX4_readPart_2 1 rfl ?_
  refine vCallVd X [.ref (o 0)] (mm_isOtherT l D k o pl sb B Ln Rm Rd Pl Mk G Sz Kp th g (by omega)) (vGV q_838 q_840 q_14 q_29 q_841) ⟨by decide, by decide, (show _ = some 1 from by decide +kernel)⟩ ⟨Nat.le_of_ble_eq_true rfl, Nat.le_of_ble_eq_true rfl⟩ 0 4 rfl rfl rfl rfl (Nat.le_of_ble_eq_true rfl) dX4_readPart_3 ⟨Nat.zero_le _, Nat.zero_le _⟩ ?_
  refine vIfN_eqF X 20 dX4_readPart_6 (by decide) (by omega) (by omega) ?_
  refine vAloadN X dX4_readPart_9 0 rfl ?_
  refine vIloadN X dX4_readPart_10 2 rfl ?_
  refine vIloadN X dX4_readPart_11 3 rfl ?_
  refine vIload X dX4_readPart_12 4 rfl ?_
  refine vCallVd X [.ref (o 0)] (mm_isPartT l D k o pl sb B Ln Rm Rd Pl Mk G Sz Kp th r f m (by omega) (by omega) (by omega) (by omega)) (vGV q_814 q_816 q_12 q_29 q_817) ⟨by decide, by decide, (show _ = some 3 from by decide +kernel)⟩ ⟨Nat.le_of_ble_eq_true rfl, Nat.le_of_ble_eq_true rfl⟩ 0 4 rfl rfl rfl rfl (Nat.le_of_ble_eq_true rfl) dX4_readPart_14 ⟨Nat.zero_le _, Nat.zero_le _⟩ ?_
  refine vIfN_neT X 24 dX4_readPart_17 (by decide) (by omega) (by omega) ?_
  refine vAloadN X dX4_readPart_24 0 rfl ?_
  refine vGet X (C := RX4) (T := TX4) (N := 10) (ci := 4) (vcons inM) rfl 0 rfl 3 (by decide) (List.mem_cons_of_mem _ q_745) (fun _ h => h) rfl dX4_readPart_25 ?_
  refine vIloadN X dX4_readPart_28 1 rfl ?_
  refine vIaload X (v := nI (a)) 4 1 rfl rfl rfl (by omega) (by decide) (oI_some hgRd) dX4_readPart_29 ?_
  refine vIfN_geT X 37 dX4_readPart_30 (by decide) (by omega) (by omega) ?_
  refine vIconst X dX4_readPart_37 (v := nI (0)) (by decide) ?_
  refine vCallVd X [] (mm_isWrong0 l D k o pl sb B Ln Rm Rd Pl Mk G Sz Kp th ) (vGV q_786 q_788 q_8 q_29 q_789) ⟨by decide, by decide, (show _ = some 1 from by decide +kernel)⟩ ⟨Nat.le_of_ble_eq_true rfl, Nat.le_of_ble_eq_true rfl⟩ 0 4 rfl rfl rfl rfl (Nat.le_of_ble_eq_true rfl) dX4_readPart_38 ⟨Nat.zero_le _, Nat.zero_le _⟩ ?_
  refine vIfN_eqT X 46 dX4_readPart_41 (by decide) (by omega) (by omega) ?_
  refine vAloadN X dX4_readPart_46 0 rfl ?_
  refine vIloadN X dX4_readPart_47 1 rfl ?_
  refine vCallVd X [] (mm_leftOf l D k o pl sb B Ln Rm Rd Pl Mk G Sz Kp (nI (0)) g a (Pl (g)) (by omega) hgRd (by omega) (by omega) rfl (by omega)) (vGV q_879 q_881 q_17 q_29 q_882) ⟨by decide, by decide, (show _ = some 1 from by decide +kernel)⟩ ⟨Nat.le_of_ble_eq_true rfl, Nat.le_of_ble_eq_true rfl⟩ 0 4 rfl rfl rfl rfl (Nat.le_of_ble_eq_true rfl) dX4_readPart_48 ⟨Nat.zero_le _, Nat.zero_le _⟩ ?_
  refine vIfN_neT X 58 dX4_readPart_51 (by decide) (by omega) (by omega) ?_
  refine vAloadN X dX4_readPart_58 0 rfl ?_
  refine vIloadN X dX4_readPart_59 1 rfl ?_
  refine vIloadN X dX4_readPart_60 2 rfl ?_
  refine vIloadN X dX4_readPart_61 3 rfl ?_
  refine vIload X dX4_readPart_62 4 rfl ?_
  refine vCallVd X [] (mm_lays l D k o pl sb B Ln Rm Rd Pl Mk G Sz Kp (nI (0)) g a r f m n hg hgRd ha hla hpl hr hp hn hRm hLn) (vGV q_899 q_901 q_19 q_29 q_902) ⟨by decide, by decide, (show _ = some 4 from by decide +kernel)⟩ ⟨Nat.le_of_ble_eq_true rfl, Nat.le_of_ble_eq_true rfl⟩ 0 4 rfl rfl rfl rfl (Nat.le_of_ble_eq_true rfl) dX4_readPart_64 ⟨Nat.zero_le _, Nat.zero_le _⟩ ?_
  exact vRetI X hret dX4_readPart_67 ⟨rfl, rfl⟩
set_option maxHeartbeats 4000000 in
set_option maxRecDepth 100000 in
theorem mm_readFull1a (l : Launch) (D : va_G) (k : Nat → ClassId) (o : Nat → Nat) (pl : va_W) (sb : Nat) (B : Nat → Nat → Int32) (Ln Rm : Nat → Nat) (Rd : Nat → Option Nat) (Pl Mk : Nat → Nat) (G : Nat → Nat → Int32) (Sz : Nat → Nat) (Kp : Nat → Int32) (th : Int32) (x y f n : Int32) (hx : ¬ vOther x) : vCt l yX4_readFull cX4_readFull 5 (some .int) 3 72 0 0 D vCl (vTy k) sb [.ref (o 0), .int (x), .int (y), .int (f), .int (n)] (mW k o pl B Ln Rm Rd Pl Mk G Sz Kp th) (vDet (some (.int (nI (0)))) (mW k o pl B Ln Rm Rd Pl Mk G Sz Kp (nI (1)))) := by
  refine vOf (by decide +kernel) (Nat.le_of_ble_eq_true rfl) (fun p9 e9 s9 m9 below9 meth9 c9 X hret _ => ?_)
  refine vAloadN X dX4_readFull_0 0 rfl ?_
  refine vAloadN X dX4_readFull_1 0 rfl ?_
  refine vIloadN X dX4_readFull_2 1 rfl ?_
  refine vCallVd X [.ref (o 0)] (mm_isOtherF l D k o pl sb B Ln Rm Rd Pl Mk G Sz Kp th x hx) (vGV q_838 q_840 q_14 q_29 q_841) ⟨by decide, by decide, (show _ = some 1 from by decide +kernel)⟩ ⟨Nat.le_of_ble_eq_true rfl, Nat.le_of_ble_eq_true rfl⟩ 0 4 rfl rfl rfl rfl (Nat.le_of_ble_eq_true rfl) dX4_readFull_3 ⟨Nat.zero_le _, Nat.zero_le _⟩ ?_
  refine vIfN_eqT X 20 dX4_readFull_6 (by decide) (by omega) (by omega) ?_
  refine vIconst X dX4_readFull_20 (v := nI (1)) (by decide) ?_
  refine vGoto X 57 dX4_readFull_21 (by decide) ?_
  refine vCallVd X [] (mm_isWrong1 l D k o pl sb B Ln Rm Rd Pl Mk G Sz Kp th 1 (by decide) (by decide)) (vGV q_786 q_788 q_8 q_29 q_789) ⟨by decide, by decide, (show _ = some 1 from by decide +kernel)⟩ ⟨Nat.le_of_ble_eq_true rfl, Nat.le_of_ble_eq_true rfl⟩ 0 4 rfl rfl rfl rfl (Nat.le_of_ble_eq_true rfl) dX4_readFull_57 ⟨Nat.zero_le _, Nat.zero_le _⟩ ?_
  refine vIfN_eqF X 65 dX4_readFull_60 (by decide) (by omega) (by omega) ?_
  refine vIconst X dX4_readFull_63 (v := nI (0)) (by decide) ?_
  exact vRetI X hret dX4_readFull_64 ⟨rfl, rfl⟩
set_option maxHeartbeats 4000000 in
set_option maxRecDepth 100000 in
theorem mm_readFull1b (l : Launch) (D : va_G) (k : Nat → ClassId) (o : Nat → Nat) (pl : va_W) (sb : Nat) (B : Nat → Nat → Int32) (Ln Rm : Nat → Nat) (Rd : Nat → Option Nat) (Pl Mk : Nat → Nat) (G : Nat → Nat → Int32) (Sz : Nat → Nat) (Kp : Nat → Int32) (th : Int32) (g : Nat) (y f n : Int32) (hg : g < 3) (hRm : ∀ r, r < 4 → Rm r < 8) (hLn : ∀ a, Ln a ≤ 256) (hpart : ¬ vPart Ln Rm y f n) : vCt l yX4_readFull cX4_readFull 5 (some .int) 3 72 0 0 D vCl (vTy k) sb [.ref (o 0), .int (nI (g)), .int (y), .int (f), .int (n)] (mW k o pl B Ln Rm Rd Pl Mk G Sz Kp th) (vDet (some (.int (nI (0)))) (mW k o pl B Ln Rm Rd Pl Mk G Sz Kp (nI (1)))) := by
  refine vOf (by decide +kernel) (Nat.le_of_ble_eq_true rfl) (fun p9 e9 s9 m9 below9 meth9 c9 X hret _ => ?_)
  refine vAloadN X dX4_readFull_0 0 rfl ?_
  refine vAloadN X dX4_readFull_1 0 rfl ?_
  refine vIloadN X dX4_readFull_2 1 rfl ?_
  refine vCallVd X [.ref (o 0)] (mm_isOtherT l D k o pl sb B Ln Rm Rd Pl Mk G Sz Kp th g (by omega)) (vGV q_838 q_840 q_14 q_29 q_841) ⟨by decide, by decide, (show _ = some 1 from by decide +kernel)⟩ ⟨Nat.le_of_ble_eq_true rfl, Nat.le_of_ble_eq_true rfl⟩ 0 4 rfl rfl rfl rfl (Nat.le_of_ble_eq_true rfl) dX4_readFull_3 ⟨Nat.zero_le _, Nat.zero_le _⟩ ?_
  refine vIfN_eqF X 20 dX4_readFull_6 (by decide) (by omega) (by omega) ?_
  refine vAloadN X dX4_readFull_9 0 rfl ?_
  refine vIloadN X dX4_readFull_10 2 rfl ?_
  refine vIloadN X dX4_readFull_11 3 rfl ?_
  refine vIload X dX4_readFull_12 4 rfl ?_
  refine vCallVd X [.ref (o 0)] (mm_isPartF l D k o pl sb B Ln Rm Rd Pl Mk G Sz Kp th y f n hRm hLn hpart) (vGV q_814 q_816 q_12 q_29 q_817) ⟨by decide, by decide, (show _ = some 3 from by decide +kernel)⟩ ⟨Nat.le_of_ble_eq_true rfl, Nat.le_of_ble_eq_true rfl⟩ 0 4 rfl rfl rfl rfl (Nat.le_of_ble_eq_true rfl) dX4_readFull_14 ⟨Nat.zero_le _, Nat.zero_le _⟩ ?_
  refine vIfN_neF X 24 dX4_readFull_17 (by decide) (by omega) (by omega) ?_
  refine vIconst X dX4_readFull_20 (v := nI (1)) (by decide) ?_
  refine vGoto X 57 dX4_readFull_21 (by decide) ?_
  refine vCallVd X [] (mm_isWrong1 l D k o pl sb B Ln Rm Rd Pl Mk G Sz Kp th 1 (by decide) (by decide)) (vGV q_786 q_788 q_8 q_29 q_789) ⟨by decide, by decide, (show _ = some 1 from by decide +kernel)⟩ ⟨Nat.le_of_ble_eq_true rfl, Nat.le_of_ble_eq_true rfl⟩ 0 4 rfl rfl rfl rfl (Nat.le_of_ble_eq_true rfl) dX4_readFull_57 ⟨Nat.zero_le _, Nat.zero_le _⟩ ?_
  refine vIfN_eqF X 65 dX4_readFull_60 (by decide) (by omega) (by omega) ?_
  refine vIconst X dX4_readFull_63 (v := nI (0)) (by decide) ?_
  exact vRetI X hret dX4_readFull_64 ⟨rfl, rfl⟩
set_option maxHeartbeats 4000000 in
set_option maxRecDepth 100000 in
theorem mm_readFull2 (l : Launch) (D : va_G) (k : Nat → ClassId) (o : Nat → Nat) (pl : va_W) (sb : Nat) (B : Nat → Nat → Int32) (Ln Rm : Nat → Nat) (Rd : Nat → Option Nat) (Pl Mk : Nat → Nat) (G : Nat → Nat → Int32) (Sz : Nat → Nat) (Kp : Nat → Int32) (th : Int32) (g r f m : Nat) (hg : g < 3) (hgRd : Rd g = none) (hr : r < 4) (hp : f + m ≤ Ln (Rm r)) (hRm : ∀ r, r < 4 → Rm r < 8) (hLn : ∀ a, Ln a ≤ 256) : vCt l yX4_readFull cX4_readFull 5 (some .int) 3 72 0 0 D vCl (vTy k) sb [.ref (o 0), .int (nI (g)), .int (nI (r)), .int (nI (f)), .int (nI (m))] (mW k o pl B Ln Rm Rd Pl Mk G Sz Kp th) (vDet (some (.int (nI (0)))) (mW k o pl B Ln Rm Rd Pl Mk G Sz Kp (nI (2)))) := by
  have hRr := hRm r hr
  have hLr := hLn (Rm r)
  refine vOf (by decide +kernel) (Nat.le_of_ble_eq_true rfl) (fun p9 e9 s9 m9 below9 meth9 c9 X hret _ => ?_)
  refine vAloadN X dX4_readFull_0 0 rfl ?_
  refine vAloadN X dX4_readFull_1 0 rfl ?_
  refine vIloadN X dX4_readFull_2 1 rfl ?_
  refine vCallVd X [.ref (o 0)] (mm_isOtherT l D k o pl sb B Ln Rm Rd Pl Mk G Sz Kp th g (by omega)) (vGV q_838 q_840 q_14 q_29 q_841) ⟨by decide, by decide, (show _ = some 1 from by decide +kernel)⟩ ⟨Nat.le_of_ble_eq_true rfl, Nat.le_of_ble_eq_true rfl⟩ 0 4 rfl rfl rfl rfl (Nat.le_of_ble_eq_true rfl) dX4_readFull_3 ⟨Nat.zero_le _, Nat.zero_le _⟩ ?_
  refine vIfN_eqF X 20 dX4_readFull_6 (by decide) (by omega) (by omega) ?_
  refine vAloadN X dX4_readFull_9 0 rfl ?_
  refine vIloadN X dX4_readFull_10 2 rfl ?_
  refine vIloadN X dX4_readFull_11 3 rfl ?_
  refine vIload X dX4_readFull_12 4 rfl ?_
  refine vCallVd X [.ref (o 0)] (mm_isPartT l D k o pl sb B Ln Rm Rd Pl Mk G Sz Kp th r f m (by omega) (by omega) (by omega) (by omega)) (vGV q_814 q_816 q_12 q_29 q_817) ⟨by decide, by decide, (show _ = some 3 from by decide +kernel)⟩ ⟨Nat.le_of_ble_eq_true rfl, Nat.le_of_ble_eq_true rfl⟩ 0 4 rfl rfl rfl rfl (Nat.le_of_ble_eq_true rfl) dX4_readFull_14 ⟨Nat.zero_le _, Nat.zero_le _⟩ ?_
  refine vIfN_neT X 24 dX4_readFull_17 (by decide) (by omega) (by omega) ?_
  refine vAloadN X dX4_readFull_24 0 rfl ?_
  refine vGet X (C := RX4) (T := TX4) (N := 10) (ci := 4) (vcons inM) rfl 0 rfl 3 (by decide) (List.mem_cons_of_mem _ q_745) (fun _ h => h) rfl dX4_readFull_25 ?_
  refine vIloadN X dX4_readFull_28 1 rfl ?_
  refine vIaload X (v := (-1 : Int32)) 4 1 rfl rfl rfl (by omega) (by decide) (oI_none hgRd) dX4_readFull_29 ?_
  refine vIf_geF X 37 dX4_readFull_30 (by decide) (by first | assumption | exact Int32.not_lt.mpr (by assumption) | exact Int32.not_le.mpr (by assumption) | exact Int32.not_lt.mp (by assumption) | exact Int32.not_le.mp (by assumption) | decide) ?_
  refine vIconst X dX4_readFull_33 (v := nI (2)) (by decide) ?_
  refine vGoto X 57 dX4_readFull_34 (by decide) ?_
  refine vCallVd X [] (mm_isWrong1 l D k o pl sb B Ln Rm Rd Pl Mk G Sz Kp th 2 (by decide) (by decide)) (vGV q_786 q_788 q_8 q_29 q_789) ⟨by decide, by decide, (show _ = some 1 from by decide +kernel)⟩ ⟨Nat.le_of_ble_eq_true rfl, Nat.le_of_ble_eq_true rfl⟩ 0 4 rfl rfl rfl rfl (Nat.le_of_ble_eq_true rfl) dX4_readFull_57 ⟨Nat.zero_le _, Nat.zero_le _⟩ ?_
  refine vIfN_eqF X 65 dX4_readFull_60 (by decide) (by omega) (by omega) ?_
  refine vIconst X dX4_readFull_63 (v := nI (0)) (by decide) ?_
  exact vRetI X hret dX4_readFull_64 ⟨rfl, rfl⟩
set_option maxHeartbeats 4000000 in
set_option maxRecDepth 100000 in
theorem mm_readFull3 (l : Launch) (D : va_G) (k : Nat → ClassId) (o : Nat → Nat) (pl : va_W) (sb : Nat) (B : Nat → Nat → Int32) (Ln Rm : Nat → Nat) (Rd : Nat → Option Nat) (Pl Mk : Nat → Nat) (G : Nat → Nat → Int32) (Sz : Nat → Nat) (Kp : Nat → Int32) (th : Int32) (g a r f m : Nat) (hg : g < 3) (hgRd : Rd g = some a) (ha : a < 8) (hla : Ln a ≤ 256) (hpl : Pl g ≤ Ln a) (he : a = Rm r) (hr : r < 4) (hp : f + m ≤ Ln (Rm r)) (hRm : ∀ r, r < 4 → Rm r < 8) (hLn : ∀ a, Ln a ≤ 256) : vCt l yX4_readFull cX4_readFull 5 (some .int) 3 72 0 0 D vCl (vTy k) sb [.ref (o 0), .int (nI (g)), .int (nI (r)), .int (nI (f)), .int (nI (m))] (mW k o pl B Ln Rm Rd Pl Mk G Sz Kp th) (vDet (some (.int (nI (0)))) (mW k o pl B Ln Rm Rd Pl Mk G Sz Kp (nI (3)))) := by
  have hRr := hRm r hr
  have hLr := hLn (Rm r)
  refine vOf (by decide +kernel) (Nat.le_of_ble_eq_true rfl) (fun p9 e9 s9 m9 below9 meth9 c9 X hret _ => ?_)
  refine vAloadN X dX4_readFull_0 0 rfl ?_
  refine vAloadN X dX4_readFull_1 0 rfl ?_
  refine vIloadN X dX4_readFull_2 1 rfl ?_
  refine vCallVd X [.ref (o 0)] (mm_isOtherT l D k o pl sb B Ln Rm Rd Pl Mk G Sz Kp th g (by omega)) (vGV q_838 q_840 q_14 q_29 q_841) ⟨by decide, by decide, (show _ = some 1 from by decide +kernel)⟩ ⟨Nat.le_of_ble_eq_true rfl, Nat.le_of_ble_eq_true rfl⟩ 0 4 rfl rfl rfl rfl (Nat.le_of_ble_eq_true rfl) dX4_readFull_3 ⟨Nat.zero_le _, Nat.zero_le _⟩ ?_
  refine vIfN_eqF X 20 dX4_readFull_6 (by decide) (by omega) (by omega) ?_
  refine vAloadN X dX4_readFull_9 0 rfl ?_
  refine vIloadN X dX4_readFull_10 2 rfl ?_
  refine vIloadN X dX4_readFull_11 3 rfl ?_
  refine vIload X dX4_readFull_12 4 rfl ?_
  refine vCallVd X [.ref (o 0)] (mm_isPartT l D k o pl sb B Ln Rm Rd Pl Mk G Sz Kp th r f m (by omega) (by omega) (by omega) (by omega)) (vGV q_814 q_816 q_12 q_29 q_817) ⟨by decide, by decide, (show _ = some 3 from by decide +kernel)⟩ ⟨Nat.le_of_ble_eq_true rfl, Nat.le_of_ble_eq_true rfl⟩ 0 4 rfl rfl rfl rfl (Nat.le_of_ble_eq_true rfl) dX4_readFull_14 ⟨Nat.zero_le _, Nat.zero_le _⟩ ?_
  refine vIfN_neT X 24 dX4_readFull_17 (by decide) (by omega) (by omega) ?_
  refine vAloadN X dX4_readFull_24 0 rfl ?_
  refine vGet X (C := RX4) (T := TX4) (N := 10) (ci := 4) (vcons inM) rfl 0 rfl 3 (by decide) (List.mem_cons_of_mem _ q_745) (fun _ h => h) rfl dX4_readFull_25 ?_
  refine vIloadN X dX4_readFull_28 1 rfl ?_
  refine vIaload X (v := nI (a)) 4 1 rfl rfl rfl (by omega) (by decide) (oI_some hgRd) dX4_readFull_29 ?_
  refine vIfN_geT X 37 dX4_readFull_30 (by decide) (by omega) (by omega) ?_
  refine vAloadN X dX4_readFull_37 0 rfl ?_
  refine vGet X (C := RX4) (T := TX4) (N := 10) (ci := 4) (vcons inM) rfl 0 rfl 3 (by decide) (List.mem_cons_of_mem _ q_745) (fun _ h => h) rfl dX4_readFull_38 ?_
  refine vIloadN X dX4_readFull_41 1 rfl ?_
  refine vIaload X (v := nI (a)) 4 1 rfl rfl rfl (by omega) (by decide) (oI_some hgRd) dX4_readFull_42 ?_
  refine vAloadN X dX4_readFull_43 0 rfl ?_
  refine vGet X (C := RX4) (T := TX4) (N := 10) (ci := 4) (vcons inM) rfl 0 rfl 2 (by decide) (List.mem_cons_of_mem _ q_744) (fun _ h => h) rfl dX4_readFull_44 ?_
  refine vIloadN X dX4_readFull_47 2 rfl ?_
  refine vIaload X (v := nI (Rm (r))) 3 1 rfl rfl rfl (by omega) (by decide) rfl dX4_readFull_48 ?_
  refine vIcmpN_neF X 56 dX4_readFull_49 (by decide) (by omega) (by omega) (by omega) ?_
  refine vIconst X dX4_readFull_52 (v := nI (3)) (by decide) ?_
  refine vGoto X 57 dX4_readFull_53 (by decide) ?_
  refine vCallVd X [] (mm_isWrong1 l D k o pl sb B Ln Rm Rd Pl Mk G Sz Kp th 3 (by decide) (by decide)) (vGV q_786 q_788 q_8 q_29 q_789) ⟨by decide, by decide, (show _ = some 1 from by decide +kernel)⟩ ⟨Nat.le_of_ble_eq_true rfl, Nat.le_of_ble_eq_true rfl⟩ 0 4 rfl rfl rfl rfl (Nat.le_of_ble_eq_true rfl) dX4_readFull_57 ⟨Nat.zero_le _, Nat.zero_le _⟩ ?_
  refine vIfN_eqF X 65 dX4_readFull_60 (by decide) (by omega) (by omega) ?_
  refine vIconst X dX4_readFull_63 (v := nI (0)) (by decide) ?_
  exact vRetI X hret dX4_readFull_64 ⟨rfl, rfl⟩
set_option maxHeartbeats 4000000 in
set_option maxRecDepth 100000 in
theorem mm_readFull0 (l : Launch) (D : va_G) (k : Nat → ClassId) (o : Nat → Nat) (pl : va_W) (sb : Nat) (B : Nat → Nat → Int32) (Ln Rm : Nat → Nat) (Rd : Nat → Option Nat) (Pl Mk : Nat → Nat) (G : Nat → Nat → Int32) (Sz : Nat → Nat) (Kp : Nat → Int32) (th : Int32) (g a r f m n : Nat) (hg : g < 3) (hgRd : Rd g = some a) (ha : a < 8) (hla : Ln a ≤ 256) (hpl : Pl g ≤ Ln a) (he : ¬ a = Rm r) (hr : r < 4) (hp : f + m ≤ Ln (Rm r)) (hn : n = min m (Ln a - Pl g)) (hRm : ∀ r, r < 4 → Rm r < 8) (hLn : ∀ a, Ln a ≤ 256) : vCt l yX4_readFull cX4_readFull 5 (some .int) 3 72 0 0 D vCl (vTy k) sb [.ref (o 0), .int (nI (g)), .int (nI (r)), .int (nI (f)), .int (nI (m))] (mW k o pl B Ln Rm Rd Pl Mk G Sz Kp th) (vDet (some (.int (nI (n)))) (mW k o pl (cpG B (Rm r) f n (fun j => B a (Pl g + j))) Ln Rm Rd (va_up Pl g (Pl g + n)) Mk G Sz (cpK Kp n (fun j => B a (Pl g + j))) (nI (0)))) := by
  have hRr := hRm r hr
  have hLr := hLn (Rm r)
  refine vOf (by decide +kernel) (Nat.le_of_ble_eq_true rfl) (fun p9 e9 s9 m9 below9 meth9 c9 X hret _ => ?_)
  refine vAloadN X dX4_readFull_0 0 rfl ?_
  refine vAloadN X dX4_readFull_1 0 rfl ?_
  refine vIloadN X dX4_readFull_2 1 rfl ?_
  refine vCallVd X [.ref (o 0)] (mm_isOtherT l D k o pl sb B Ln Rm Rd Pl Mk G Sz Kp th g (by omega)) (vGV q_838 q_840 q_14 q_29 q_841) ⟨by decide, by decide, (show _ = some 1 from by decide +kernel)⟩ ⟨Nat.le_of_ble_eq_true rfl, Nat.le_of_ble_eq_true rfl⟩ 0 4 rfl rfl rfl rfl (Nat.le_of_ble_eq_true rfl) dX4_readFull_3 ⟨Nat.zero_le _, Nat.zero_le _⟩ ?_
  refine vIfN_eqF X 20 dX4_readFull_6 (by decide) (by omega) (by omega) ?_
  refine vAloadN X dX4_readFull_9 0 rfl ?_
  refine vIloadN X dX4_readFull_10 2 rfl ?_
  refine vIloadN X dX4_readFull_11 3 rfl ?_
  refine vIload X dX4_readFull_12 4 rfl ?_
  refine vCallVd X [.ref (o 0)] (mm_isPartT l D k o pl sb B Ln Rm Rd Pl Mk G Sz Kp th r f m (by omega) (by omega) (by omega) (by omega)) (vGV q_814 q_816 q_12 q_29 q_817) ⟨by decide, by decide, (show _ = some 3 from by decide +kernel)⟩ ⟨Nat.le_of_ble_eq_true rfl, Nat.le_of_ble_eq_true rfl⟩ 0 4 rfl rfl rfl rfl (Nat.le_of_ble_eq_true rfl) dX4_readFull_14 ⟨Nat.zero_le _, Nat.zero_le _⟩ ?_
  refine vIfN_neT X 24 dX4_readFull_17 (by decide) (by omega) (by omega) ?_
  refine vAloadN X dX4_readFull_24 0 rfl ?_
  refine vGet X (C := RX4) (T := TX4) (N := 10) (ci := 4) (vcons inM) rfl 0 rfl 3 (by decide) (List.mem_cons_of_mem _ q_745) (fun _ h => h) rfl dX4_readFull_25 ?_
  refine vIloadN X dX4_readFull_28 1 rfl ?_
  refine vIaload X (v := nI (a)) 4 1 rfl rfl rfl (by omega) (by decide) (oI_some hgRd) dX4_readFull_29 ?_
  refine vIfN_geT X 37 dX4_readFull_30 (by decide) (by omega) (by omega) ?_
  refine vAloadN X dX4_readFull_37 0 rfl ?_
  refine vGet X (C := RX4) (T := TX4) (N := 10) (ci := 4) (vcons inM) rfl 0 rfl 3 (by decide) (List.mem_cons_of_mem _ q_745) (fun _ h => h) rfl dX4_readFull_38 ?_
  refine vIloadN X dX4_readFull_41 1 rfl ?_
  refine vIaload X (v := nI (a)) 4 1 rfl rfl rfl (by omega) (by decide) (oI_some hgRd) dX4_readFull_42 ?_
  refine vAloadN X dX4_readFull_43 0 rfl ?_
  refine vGet X (C := RX4) (T := TX4) (N := 10) (ci := 4) (vcons inM) rfl 0 rfl 2 (by decide) (List.mem_cons_of_mem _ q_744) (fun _ h => h) rfl dX4_readFull_44 ?_
  refine vIloadN X dX4_readFull_47 2 rfl ?_
  refine vIaload X (v := nI (Rm (r))) 3 1 rfl rfl rfl (by omega) (by decide) rfl dX4_readFull_48 ?_
  refine vIcmpN_neT X 56 dX4_readFull_49 (by decide) (by omega) (by omega) (by omega) ?_
  refine vIconst X dX4_readFull_56 (v := nI (0)) (by decide) ?_
  refine vCallVd X [] (mm_isWrong0 l D k o pl sb B Ln Rm Rd Pl Mk G Sz Kp th ) (vGV q_786 q_788 q_8 q_29 q_789) ⟨by decide, by decide, (show _ = some 1 from by decide +kernel)⟩ ⟨Nat.le_of_ble_eq_true rfl, Nat.le_of_ble_eq_true rfl⟩ 0 4 rfl rfl rfl rfl (Nat.le_of_ble_eq_true rfl) dX4_readFull_57 ⟨Nat.zero_le _, Nat.zero_le _⟩ ?_
  refine vIfN_eqT X 65 dX4_readFull_60 (by decide) (by omega) (by omega) ?_
  refine vAloadN X dX4_readFull_65 0 rfl ?_
  refine vIloadN X dX4_readFull_66 1 rfl ?_
  refine vIloadN X dX4_readFull_67 2 rfl ?_
  refine vIloadN X dX4_readFull_68 3 rfl ?_
  refine vIload X dX4_readFull_69 4 rfl ?_
  refine vCallVd X [] (mm_lays l D k o pl sb B Ln Rm Rd Pl Mk G Sz Kp (nI (0)) g a r f m n hg hgRd ha hla hpl hr hp hn hRm hLn) (vGV q_899 q_901 q_19 q_29 q_902) ⟨by decide, by decide, (show _ = some 4 from by decide +kernel)⟩ ⟨Nat.le_of_ble_eq_true rfl, Nat.le_of_ble_eq_true rfl⟩ 0 4 rfl rfl rfl rfl (Nat.le_of_ble_eq_true rfl) dX4_readFull_71 ⟨Nat.zero_le _, Nat.zero_le _⟩ ?_
  exact vRetI X hret dX4_readFull_74 ⟨rfl, rfl⟩
set_option maxHeartbeats 4000000 in
set_option maxRecDepth 100000 in
theorem mm_readSome1a (l : Launch) (D : va_G) (k : Nat → ClassId) (o : Nat → Nat) (pl : va_W) (sb : Nat) (B : Nat → Nat → Int32) (Ln Rm : Nat → Nat) (Rd : Nat → Option Nat) (Pl Mk : Nat → Nat) (G : Nat → Nat → Int32) (Sz : Nat → Nat) (Kp : Nat → Int32) (th : Int32) (x y v : Int32) (hx : ¬ vOther x) : vCt l yX4_readSome cX4_readSome 5 (some .int) 2 47 0 0 D vCl (vTy k) sb [.ref (o 0), .int (x), .int (y), .int (v)] (mW k o pl B Ln Rm Rd Pl Mk G Sz Kp th) (vDet (some (.int (nI (0)))) (mW k o pl B Ln Rm Rd Pl Mk G Sz Kp (nI (1)))) := by
  refine vOf (by decide +kernel) (Nat.le_of_ble_eq_true rfl) (fun p9 e9 s9 m9 below9 meth9 c9 X hret _ => ?_)
  refine vAloadN X dX4_readSome_0 0 rfl ?_
  refine vAloadN X dX4_readSome_1 0 rfl ?_
  refine vIloadN X dX4_readSome_2 1 rfl ?_
  refine vCallVd X [.ref (o 0)] (mm_isOtherF l D k o pl sb B Ln Rm Rd Pl Mk G Sz Kp th x hx) (vGV q_838 q_840 q_14 q_29 q_841) ⟨by decide, by decide, (show _ = some 1 from by decide +kernel)⟩ ⟨Nat.le_of_ble_eq_true rfl, Nat.le_of_ble_eq_true rfl⟩ 0 4 rfl rfl rfl rfl (Nat.le_of_ble_eq_true rfl) dX4_readSome_3 ⟨Nat.zero_le _, Nat.zero_le _⟩ ?_
  refine vIfN_eqT X 17 dX4_readSome_6 (by decide) (by omega) (by omega) ?_
  refine vIconst X dX4_readSome_17 (v := nI (1)) (by decide) ?_
  refine vGoto X 43 dX4_readSome_18 (by decide) ?_
  refine vCallVd X [] (mm_isWrong1 l D k o pl sb B Ln Rm Rd Pl Mk G Sz Kp th 1 (by decide) (by decide)) (vGV q_786 q_788 q_8 q_29 q_789) ⟨by decide, by decide, (show _ = some 1 from by decide +kernel)⟩ ⟨Nat.le_of_ble_eq_true rfl, Nat.le_of_ble_eq_true rfl⟩ 0 4 rfl rfl rfl rfl (Nat.le_of_ble_eq_true rfl) dX4_readSome_43 ⟨Nat.zero_le _, Nat.zero_le _⟩ ?_
  refine vIfN_eqF X 51 dX4_readSome_46 (by decide) (by omega) (by omega) ?_
  refine vIconst X dX4_readSome_49 (v := nI (0)) (by decide) ?_
  exact vRetI X hret dX4_readSome_50 ⟨rfl, rfl⟩
set_option maxHeartbeats 4000000 in
set_option maxRecDepth 100000 in
theorem mm_readSome1b (l : Launch) (D : va_G) (k : Nat → ClassId) (o : Nat → Nat) (pl : va_W) (sb : Nat) (B : Nat → Nat → Int32) (Ln Rm : Nat → Nat) (Rd : Nat → Option Nat) (Pl Mk : Nat → Nat) (G : Nat → Nat → Int32) (Sz : Nat → Nat) (Kp : Nat → Int32) (th : Int32) (g : Nat) (y v : Int32) (hg : g < 3) (hy : ¬ vRow y) : vCt l yX4_readSome cX4_readSome 5 (some .int) 2 47 0 0 D vCl (vTy k) sb [.ref (o 0), .int (nI (g)), .int (y), .int (v)] (mW k o pl B Ln Rm Rd Pl Mk G Sz Kp th) (vDet (some (.int (nI (0)))) (mW k o pl B Ln Rm Rd Pl Mk G Sz Kp (nI (1)))) := by
  refine vOf (by decide +kernel) (Nat.le_of_ble_eq_true rfl) (fun p9 e9 s9 m9 below9 meth9 c9 X hret _ => ?_)
  refine vAloadN X dX4_readSome_0 0 rfl ?_
  refine vAloadN X dX4_readSome_1 0 rfl ?_
  refine vIloadN X dX4_readSome_2 1 rfl ?_
  refine vCallVd X [.ref (o 0)] (mm_isOtherT l D k o pl sb B Ln Rm Rd Pl Mk G Sz Kp th g (by omega)) (vGV q_838 q_840 q_14 q_29 q_841) ⟨by decide, by decide, (show _ = some 1 from by decide +kernel)⟩ ⟨Nat.le_of_ble_eq_true rfl, Nat.le_of_ble_eq_true rfl⟩ 0 4 rfl rfl rfl rfl (Nat.le_of_ble_eq_true rfl) dX4_readSome_3 ⟨Nat.zero_le _, Nat.zero_le _⟩ ?_
  refine vIfN_eqF X 17 dX4_readSome_6 (by decide) (by omega) (by omega) ?_
  refine vAloadN X dX4_readSome_9 0 rfl ?_
  refine vIloadN X dX4_readSome_10 2 rfl ?_
  refine vCallVd X [.ref (o 0)] (mm_isRowF l D k o pl sb B Ln Rm Rd Pl Mk G Sz Kp th y hy) (vGV q_782 q_784 q_7 q_29 q_785) ⟨by decide, by decide, (show _ = some 1 from by decide +kernel)⟩ ⟨Nat.le_of_ble_eq_true rfl, Nat.le_of_ble_eq_true rfl⟩ 0 4 rfl rfl rfl rfl (Nat.le_of_ble_eq_true rfl) dX4_readSome_11 ⟨Nat.zero_le _, Nat.zero_le _⟩ ?_
  refine vIfN_neF X 21 dX4_readSome_14 (by decide) (by omega) (by omega) ?_
  refine vIconst X dX4_readSome_17 (v := nI (1)) (by decide) ?_
  refine vGoto X 43 dX4_readSome_18 (by decide) ?_
  refine vCallVd X [] (mm_isWrong1 l D k o pl sb B Ln Rm Rd Pl Mk G Sz Kp th 1 (by decide) (by decide)) (vGV q_786 q_788 q_8 q_29 q_789) ⟨by decide, by decide, (show _ = some 1 from by decide +kernel)⟩ ⟨Nat.le_of_ble_eq_true rfl, Nat.le_of_ble_eq_true rfl⟩ 0 4 rfl rfl rfl rfl (Nat.le_of_ble_eq_true rfl) dX4_readSome_43 ⟨Nat.zero_le _, Nat.zero_le _⟩ ?_
  refine vIfN_eqF X 51 dX4_readSome_46 (by decide) (by omega) (by omega) ?_
  refine vIconst X dX4_readSome_49 (v := nI (0)) (by decide) ?_
  exact vRetI X hret dX4_readSome_50 ⟨rfl, rfl⟩
set_option maxHeartbeats 4000000 in
set_option maxRecDepth 100000 in
theorem mm_readSome2 (l : Launch) (D : va_G) (k : Nat → ClassId) (o : Nat → Nat) (pl : va_W) (sb : Nat) (B : Nat → Nat → Int32) (Ln Rm : Nat → Nat) (Rd : Nat → Option Nat) (Pl Mk : Nat → Nat) (G : Nat → Nat → Int32) (Sz : Nat → Nat) (Kp : Nat → Int32) (th : Int32) (g r : Nat) (v : Int32) (hg : g < 3) (hr : r < 4) (hv : v < nI 0) : vCt l yX4_readSome cX4_readSome 5 (some .int) 2 47 0 0 D vCl (vTy k) sb [.ref (o 0), .int (nI (g)), .int (nI (r)), .int (v)] (mW k o pl B Ln Rm Rd Pl Mk G Sz Kp th) (vDet (some (.int (nI (0)))) (mW k o pl B Ln Rm Rd Pl Mk G Sz Kp (nI (2)))) := by
  refine vOf (by decide +kernel) (Nat.le_of_ble_eq_true rfl) (fun p9 e9 s9 m9 below9 meth9 c9 X hret _ => ?_)
  refine vAloadN X dX4_readSome_0 0 rfl ?_
  refine vAloadN X dX4_readSome_1 0 rfl ?_
  refine vIloadN X dX4_readSome_2 1 rfl ?_
  refine vCallVd X [.ref (o 0)] (mm_isOtherT l D k o pl sb B Ln Rm Rd Pl Mk G Sz Kp th g (by omega)) (vGV q_838 q_840 q_14 q_29 q_841) ⟨by decide, by decide, (show _ = some 1 from by decide +kernel)⟩ ⟨Nat.le_of_ble_eq_true rfl, Nat.le_of_ble_eq_true rfl⟩ 0 4 rfl rfl rfl rfl (Nat.le_of_ble_eq_true rfl) dX4_readSome_3 ⟨Nat.zero_le _, Nat.zero_le _⟩ ?_
  refine vIfN_eqF X 17 dX4_readSome_6 (by decide) (by omega) (by omega) ?_
  refine vAloadN X dX4_readSome_9 0 rfl ?_
  refine vIloadN X dX4_readSome_10 2 rfl ?_
  refine vCallVd X [.ref (o 0)] (mm_isRowT l D k o pl sb B Ln Rm Rd Pl Mk G Sz Kp th r (by omega)) (vGV q_782 q_784 q_7 q_29 q_785) ⟨by decide, by decide, (show _ = some 1 from by decide +kernel)⟩ ⟨Nat.le_of_ble_eq_true rfl, Nat.le_of_ble_eq_true rfl⟩ 0 4 rfl rfl rfl rfl (Nat.le_of_ble_eq_true rfl) dX4_readSome_11 ⟨Nat.zero_le _, Nat.zero_le _⟩ ?_
  refine vIfN_neT X 21 dX4_readSome_14 (by decide) (by omega) (by omega) ?_
  refine vIloadN X dX4_readSome_21 3 rfl ?_
  refine vIf_geF X 29 dX4_readSome_22 (by decide) (by first | assumption | exact Int32.not_lt.mpr (by assumption) | exact Int32.not_le.mpr (by assumption) | exact Int32.not_lt.mp (by assumption) | exact Int32.not_le.mp (by assumption) | decide) ?_
  refine vIconst X dX4_readSome_25 (v := nI (2)) (by decide) ?_
  refine vGoto X 43 dX4_readSome_26 (by decide) ?_
  refine vCallVd X [] (mm_isWrong1 l D k o pl sb B Ln Rm Rd Pl Mk G Sz Kp th 2 (by decide) (by decide)) (vGV q_786 q_788 q_8 q_29 q_789) ⟨by decide, by decide, (show _ = some 1 from by decide +kernel)⟩ ⟨Nat.le_of_ble_eq_true rfl, Nat.le_of_ble_eq_true rfl⟩ 0 4 rfl rfl rfl rfl (Nat.le_of_ble_eq_true rfl) dX4_readSome_43 ⟨Nat.zero_le _, Nat.zero_le _⟩ ?_
  refine vIfN_eqF X 51 dX4_readSome_46 (by decide) (by omega) (by omega) ?_
  refine vIconst X dX4_readSome_49 (v := nI (0)) (by decide) ?_
  exact vRetI X hret dX4_readSome_50 ⟨rfl, rfl⟩
set_option maxHeartbeats 4000000 in
set_option maxRecDepth 100000 in
theorem mm_readSome3 (l : Launch) (D : va_G) (k : Nat → ClassId) (o : Nat → Nat) (pl : va_W) (sb : Nat) (B : Nat → Nat → Int32) (Ln Rm : Nat → Nat) (Rd : Nat → Option Nat) (Pl Mk : Nat → Nat) (G : Nat → Nat → Int32) (Sz : Nat → Nat) (Kp : Nat → Int32) (th : Int32) (g r m : Nat) (hg : g < 3) (hr : r < 4) (hm : m < 2 ^ 31) (hgRd : Rd g = none) : vCt l yX4_readSome cX4_readSome 5 (some .int) 2 47 0 0 D vCl (vTy k) sb [.ref (o 0), .int (nI (g)), .int (nI (r)), .int (nI (m))] (mW k o pl B Ln Rm Rd Pl Mk G Sz Kp th) (vDet (some (.int (nI (0)))) (mW k o pl B Ln Rm Rd Pl Mk G Sz Kp (nI (3)))) := by
  refine vOf (by decide +kernel) (Nat.le_of_ble_eq_true rfl) (fun p9 e9 s9 m9 below9 meth9 c9 X hret _ => ?_)
  refine vAloadN X dX4_readSome_0 0 rfl ?_
  refine vAloadN X dX4_readSome_1 0 rfl ?_
  refine vIloadN X dX4_readSome_2 1 rfl ?_
  refine vCallVd X [.ref (o 0)] (mm_isOtherT l D k o pl sb B Ln Rm Rd Pl Mk G Sz Kp th g (by omega)) (vGV q_838 q_840 q_14 q_29 q_841) ⟨by decide, by decide, (show _ = some 1 from by decide +kernel)⟩ ⟨Nat.le_of_ble_eq_true rfl, Nat.le_of_ble_eq_true rfl⟩ 0 4 rfl rfl rfl rfl (Nat.le_of_ble_eq_true rfl) dX4_readSome_3 ⟨Nat.zero_le _, Nat.zero_le _⟩ ?_
  refine vIfN_eqF X 17 dX4_readSome_6 (by decide) (by omega) (by omega) ?_
  refine vAloadN X dX4_readSome_9 0 rfl ?_
  refine vIloadN X dX4_readSome_10 2 rfl ?_
  refine vCallVd X [.ref (o 0)] (mm_isRowT l D k o pl sb B Ln Rm Rd Pl Mk G Sz Kp th r (by omega)) (vGV q_782 q_784 q_7 q_29 q_785) ⟨by decide, by decide, (show _ = some 1 from by decide +kernel)⟩ ⟨Nat.le_of_ble_eq_true rfl, Nat.le_of_ble_eq_true rfl⟩ 0 4 rfl rfl rfl rfl (Nat.le_of_ble_eq_true rfl) dX4_readSome_11 ⟨Nat.zero_le _, Nat.zero_le _⟩ ?_
  refine vIfN_neT X 21 dX4_readSome_14 (by decide) (by omega) (by omega) ?_
  refine vIloadN X dX4_readSome_21 3 rfl ?_
  refine vIfN_geT X 29 dX4_readSome_22 (by decide) (by omega) (by omega) ?_
  refine vAloadN X dX4_readSome_29 0 rfl ?_
  refine vGet X (C := RX4) (T := TX4) (N := 10) (ci := 4) (vcons inM) rfl 0 rfl 3 (by decide) (List.mem_cons_of_mem _ q_745) (fun _ h => h) rfl dX4_readSome_30 ?_
  refine vIloadN X dX4_readSome_33 1 rfl ?_
  refine vIaload X (v := (-1 : Int32)) 4 1 rfl rfl rfl (by omega) (by decide) (oI_none hgRd) dX4_readSome_34 ?_
  refine vIf_geF X 42 dX4_readSome_35 (by decide) (by first | assumption | exact Int32.not_lt.mpr (by assumption) | exact Int32.not_le.mpr (by assumption) | exact Int32.not_lt.mp (by assumption) | exact Int32.not_le.mp (by assumption) | decide) ?_
  refine vIconst X dX4_readSome_38 (v := nI (3)) (by decide) ?_
  refine vGoto X 43 dX4_readSome_39 (by decide) ?_
  refine vCallVd X [] (mm_isWrong1 l D k o pl sb B Ln Rm Rd Pl Mk G Sz Kp th 3 (by decide) (by decide)) (vGV q_786 q_788 q_8 q_29 q_789) ⟨by decide, by decide, (show _ = some 1 from by decide +kernel)⟩ ⟨Nat.le_of_ble_eq_true rfl, Nat.le_of_ble_eq_true rfl⟩ 0 4 rfl rfl rfl rfl (Nat.le_of_ble_eq_true rfl) dX4_readSome_43 ⟨Nat.zero_le _, Nat.zero_le _⟩ ?_
  refine vIfN_eqF X 51 dX4_readSome_46 (by decide) (by omega) (by omega) ?_
  refine vIconst X dX4_readSome_49 (v := nI (0)) (by decide) ?_
  exact vRetI X hret dX4_readSome_50 ⟨rfl, rfl⟩
set_option maxHeartbeats 4000000 in
set_option maxRecDepth 100000 in
theorem mm_readSome0 (l : Launch) (D : va_G) (k : Nat → ClassId) (o : Nat → Nat) (pl : va_W) (sb : Nat) (B : Nat → Nat → Int32) (Ln Rm : Nat → Nat) (Rd : Nat → Option Nat) (Pl Mk : Nat → Nat) (G : Nat → Nat → Int32) (Sz : Nat → Nat) (Kp : Nat → Int32) (th : Int32) (g a r m n F : Nat) (hg : g < 3) (hgRd : Rd g = some a) (ha : a < 8) (hla : Ln a ≤ 256) (hpl : Pl g ≤ Ln a) (hr : r < 4) (hm : m < 2 ^ 31) (hn : n = min m (Ln a - Pl g)) (hF : mFree Rm Rd F) (hRm : ∀ r, r < 4 → Rm r < 8) (hRd : ∀ g, g < 3 → ∀ b, Rd g = some b → b < 8) : vCt l yX4_readSome cX4_readSome 5 (some .int) 2 47 0 0 D vCl (vTy k) sb [.ref (o 0), .int (nI (g)), .int (nI (r)), .int (nI (m))] (mW k o pl B Ln Rm Rd Pl Mk G Sz Kp th) (vDet (some (.int (nI (n)))) (mW k o pl (cpB B F n (fun j => B a (Pl g + j))) (va_up Ln F n) (va_up Rm r F) Rd (va_up Pl g (Pl g + n)) Mk G Sz (cpK Kp n (fun j => B a (Pl g + j))) (nI 0))) := by
  refine vOf (by decide +kernel) (Nat.le_of_ble_eq_true rfl) (fun p9 e9 s9 m9 below9 meth9 c9 X hret _ => ?_)
  refine vAloadN X dX4_readSome_0 0 rfl ?_
  refine vAloadN X dX4_readSome_1 0 rfl ?_
  refine vIloadN X dX4_readSome_2 1 rfl ?_
  refine vCallVd X [.ref (o 0)] (mm_isOtherT l D k o pl sb B Ln Rm Rd Pl Mk G Sz Kp th g (by omega)) (vGV q_838 q_840 q_14 q_29 q_841) ⟨by decide, by decide, (show _ = some 1 from by decide +kernel)⟩ ⟨Nat.le_of_ble_eq_true rfl, Nat.le_of_ble_eq_true rfl⟩ 0 4 rfl rfl rfl rfl (Nat.le_of_ble_eq_true rfl) dX4_readSome_3 ⟨Nat.zero_le _, Nat.zero_le _⟩ ?_
  refine vIfN_eqF X 17 dX4_readSome_6 (by decide) (by omega) (by omega) ?_
  refine vAloadN X dX4_readSome_9 0 rfl ?_
  refine vIloadN X dX4_readSome_10 2 rfl ?_
  refine vCallVd X [.ref (o 0)] (mm_isRowT l D k o pl sb B Ln Rm Rd Pl Mk G Sz Kp th r (by omega)) (vGV q_782 q_784 q_7 q_29 q_785) ⟨by decide, by decide, (show _ = some 1 from by decide +kernel)⟩ ⟨Nat.le_of_ble_eq_true rfl, Nat.le_of_ble_eq_true rfl⟩ 0 4 rfl rfl rfl rfl (Nat.le_of_ble_eq_true rfl) dX4_readSome_11 ⟨Nat.zero_le _, Nat.zero_le _⟩ ?_
  refine vIfN_neT X 21 dX4_readSome_14 (by decide) (by omega) (by omega) ?_
  refine vIloadN X dX4_readSome_21 3 rfl ?_
  refine vIfN_geT X 29 dX4_readSome_22 (by decide) (by omega) (by omega) ?_
  refine vAloadN X dX4_readSome_29 0 rfl ?_
  refine vGet X (C := RX4) (T := TX4) (N := 10) (ci := 4) (vcons inM) rfl 0 rfl 3 (by decide) (List.mem_cons_of_mem _ q_745) (fun _ h => h) rfl dX4_readSome_30 ?_
  refine vIloadN X dX4_readSome_33 1 rfl ?_
  refine vIaload X (v := nI (a)) 4 1 rfl rfl rfl (by omega) (by decide) (oI_some hgRd) dX4_readSome_34 ?_
  refine vIfN_geT X 42 dX4_readSome_35 (by decide) (by omega) (by omega) ?_
  refine vIconst X dX4_readSome_42 (v := nI (0)) (by decide) ?_
  refine vCallVd X [] (mm_isWrong0 l D k o pl sb B Ln Rm Rd Pl Mk G Sz Kp th ) (vGV q_786 q_788 q_8 q_29 q_789) ⟨by decide, by decide, (show _ = some 1 from by decide +kernel)⟩ ⟨Nat.le_of_ble_eq_true rfl, Nat.le_of_ble_eq_true rfl⟩ 0 4 rfl rfl rfl rfl (Nat.le_of_ble_eq_true rfl) dX4_readSome_43 ⟨Nat.zero_le _, Nat.zero_le _⟩ ?_
  refine vIfN_eqT X 51 dX4_readSome_46 (by decide) (by omega) (by omega) ?_
  refine vAloadN X dX4_readSome_51 0 rfl ?_
  refine vIloadN X dX4_readSome_52 1 rfl ?_
  refine vIloadN X dX4_readSome_53 3 rfl ?_
  refine vCallVd X [] (mm_keeps l D k o pl sb B Ln Rm Rd Pl Mk G Sz Kp (nI (0)) g a (m) n hg hgRd (by omega) (by omega) (by omega) (by omega) (by omega)) (vGV q_903 q_905 q_20 q_29 q_906) ⟨by decide, by decide, (show _ = some 2 from by decide +kernel)⟩ ⟨Nat.le_of_ble_eq_true rfl, Nat.le_of_ble_eq_true rfl⟩ 0 4 rfl rfl rfl rfl (Nat.le_of_ble_eq_true rfl) dX4_readSome_54 ⟨Nat.zero_le _, Nat.zero_le _⟩ ?_
  refine vIstore X [(4, .int (nI (n))), (0, .ref (o 0)), (1, .int (nI (g))), (2, .int (nI (r))), (3, .int (nI (m)))] dX4_readSome_57 (by decide) rfl ?_
  refine vAloadN X dX4_readSome_59 1 rfl ?_
  refine vIloadN X dX4_readSome_60 3 rfl ?_
  refine vIload X dX4_readSome_61 0 rfl ?_
  refine vCallVd X [] (mm_becomes l D k o pl sb B Ln Rm Rd (va_up Pl g (Pl g + n)) Mk G Sz (cpK Kp n (fun j => B a (Pl g + j))) (nI (0)) r n F (by omega) (by omega) hF hRm hRd) (vGV q_794 q_796 q_10 q_29 q_797) ⟨by decide, by decide, (show _ = some 2 from by decide +kernel)⟩ ⟨Nat.le_of_ble_eq_true rfl, Nat.le_of_ble_eq_true rfl⟩ 0 4 rfl rfl rfl rfl (Nat.le_of_ble_eq_true rfl) dX4_readSome_63 ⟨Nat.zero_le _, Nat.zero_le _⟩ ?_
  refine vIload X dX4_readSome_66 0 rfl ?_
  exact vRetI X hret dX4_readSome_68 ⟨rfl, by rw [cpB_K]⟩
def rdN (f : Nat → Int32) : Nat → Int32
  | 0 => nI 0
  | i + 1 => (rdN f i <<< (nI 8 &&& 31)) ||| (f i &&& nI 255)
set_option maxHeartbeats 4000000 in
set_option maxRecDepth 100000 in
theorem mm_readNumber1 (l : Launch) (D : va_G) (k : Nat → ClassId) (o : Nat → Nat) (pl : va_W) (sb : Nat) (B : Nat → Nat → Int32) (Ln Rm : Nat → Nat) (Rd : Nat → Option Nat) (Pl Mk : Nat → Nat) (G : Nat → Nat → Int32) (Sz : Nat → Nat) (Kp : Nat → Int32) (th : Int32) (x : Int32) (hx : ¬ vOther x) : vCt l yX4_readNumber cX4_readNumber 4 (some .int) 2 46 0 0 D vCl (vTy k) sb [.ref (o 0), .int (x)] (mW k o pl B Ln Rm Rd Pl Mk G Sz Kp th) (vDet (some (.int (nI (0)))) (mW k o pl B Ln Rm Rd Pl Mk G Sz Kp (nI (1)))) := by
  refine vOf (by decide +kernel) (Nat.le_of_ble_eq_true rfl) (fun p9 e9 s9 m9 below9 meth9 c9 X hret _ => ?_)
  refine vAloadN X dX4_readNumber_0 0 rfl ?_
  refine vAloadN X dX4_readNumber_1 0 rfl ?_
  refine vIloadN X dX4_readNumber_2 1 rfl ?_
  refine vCallVd X [.ref (o 0)] (mm_isOtherF l D k o pl sb B Ln Rm Rd Pl Mk G Sz Kp th x hx) (vGV q_838 q_840 q_14 q_29 q_841) ⟨by decide, by decide, (show _ = some 1 from by decide +kernel)⟩ ⟨Nat.le_of_ble_eq_true rfl, Nat.le_of_ble_eq_true rfl⟩ 0 4 rfl rfl rfl rfl (Nat.le_of_ble_eq_true rfl) dX4_readNumber_3 ⟨Nat.zero_le _, Nat.zero_le _⟩ ?_
  refine vIfN_neF X 13 dX4_readNumber_6 (by decide) (by omega) (by omega) ?_
  refine vIconst X dX4_readNumber_9 (v := nI (1)) (by decide) ?_
  refine vGoto X 40 dX4_readNumber_10 (by decide) ?_
  refine vCallVd X [] (mm_isWrong1 l D k o pl sb B Ln Rm Rd Pl Mk G Sz Kp th 1 (by decide) (by decide)) (vGV q_786 q_788 q_8 q_29 q_789) ⟨by decide, by decide, (show _ = some 1 from by decide +kernel)⟩ ⟨Nat.le_of_ble_eq_true rfl, Nat.le_of_ble_eq_true rfl⟩ 0 4 rfl rfl rfl rfl (Nat.le_of_ble_eq_true rfl) dX4_readNumber_40 ⟨Nat.zero_le _, Nat.zero_le _⟩ ?_
  refine vIfN_eqF X 48 dX4_readNumber_43 (by decide) (by omega) (by omega) ?_
  refine vIconst X dX4_readNumber_46 (v := nI (0)) (by decide) ?_
  exact vRetI X hret dX4_readNumber_47 ⟨rfl, rfl⟩
set_option maxHeartbeats 4000000 in
set_option maxRecDepth 100000 in
theorem mm_readNumber2 (l : Launch) (D : va_G) (k : Nat → ClassId) (o : Nat → Nat) (pl : va_W) (sb : Nat) (B : Nat → Nat → Int32) (Ln Rm : Nat → Nat) (Rd : Nat → Option Nat) (Pl Mk : Nat → Nat) (G : Nat → Nat → Int32) (Sz : Nat → Nat) (Kp : Nat → Int32) (th : Int32) (g : Nat) (hg : g < 3) (hgRd : Rd g = none) : vCt l yX4_readNumber cX4_readNumber 4 (some .int) 2 46 0 0 D vCl (vTy k) sb [.ref (o 0), .int (nI (g))] (mW k o pl B Ln Rm Rd Pl Mk G Sz Kp th) (vDet (some (.int (nI (0)))) (mW k o pl B Ln Rm Rd Pl Mk G Sz Kp (nI (2)))) := by
  refine vOf (by decide +kernel) (Nat.le_of_ble_eq_true rfl) (fun p9 e9 s9 m9 below9 meth9 c9 X hret _ => ?_)
  refine vAloadN X dX4_readNumber_0 0 rfl ?_
  refine vAloadN X dX4_readNumber_1 0 rfl ?_
  refine vIloadN X dX4_readNumber_2 1 rfl ?_
  refine vCallVd X [.ref (o 0)] (mm_isOtherT l D k o pl sb B Ln Rm Rd Pl Mk G Sz Kp th g (by omega)) (vGV q_838 q_840 q_14 q_29 q_841) ⟨by decide, by decide, (show _ = some 1 from by decide +kernel)⟩ ⟨Nat.le_of_ble_eq_true rfl, Nat.le_of_ble_eq_true rfl⟩ 0 4 rfl rfl rfl rfl (Nat.le_of_ble_eq_true rfl) dX4_readNumber_3 ⟨Nat.zero_le _, Nat.zero_le _⟩ ?_
  refine vIfN_neT X 13 dX4_readNumber_6 (by decide) (by omega) (by omega) ?_
  refine vAloadN X dX4_readNumber_13 0 rfl ?_
  refine vGet X (C := RX4) (T := TX4) (N := 10) (ci := 4) (vcons inM) rfl 0 rfl 3 (by decide) (List.mem_cons_of_mem _ q_745) (fun _ h => h) rfl dX4_readNumber_14 ?_
  refine vIloadN X dX4_readNumber_17 1 rfl ?_
  refine vIaload X (v := (-1 : Int32)) 4 1 rfl rfl rfl (by omega) (by decide) (oI_none hgRd) dX4_readNumber_18 ?_
  refine vIf_geF X 26 dX4_readNumber_19 (by decide) (by first | assumption | exact Int32.not_lt.mpr (by assumption) | exact Int32.not_le.mpr (by assumption) | exact Int32.not_lt.mp (by assumption) | exact Int32.not_le.mp (by assumption) | decide) ?_
  refine vIconst X dX4_readNumber_22 (v := nI (2)) (by decide) ?_
  refine vGoto X 40 dX4_readNumber_23 (by decide) ?_
  refine vCallVd X [] (mm_isWrong1 l D k o pl sb B Ln Rm Rd Pl Mk G Sz Kp th 2 (by decide) (by decide)) (vGV q_786 q_788 q_8 q_29 q_789) ⟨by decide, by decide, (show _ = some 1 from by decide +kernel)⟩ ⟨Nat.le_of_ble_eq_true rfl, Nat.le_of_ble_eq_true rfl⟩ 0 4 rfl rfl rfl rfl (Nat.le_of_ble_eq_true rfl) dX4_readNumber_40 ⟨Nat.zero_le _, Nat.zero_le _⟩ ?_
  refine vIfN_eqF X 48 dX4_readNumber_43 (by decide) (by omega) (by omega) ?_
  refine vIconst X dX4_readNumber_46 (v := nI (0)) (by decide) ?_
  exact vRetI X hret dX4_readNumber_47 ⟨rfl, rfl⟩
set_option maxHeartbeats 4000000 in
set_option maxRecDepth 100000 in
theorem mm_readNumber3 (l : Launch) (D : va_G) (k : Nat → ClassId) (o : Nat → Nat) (pl : va_W) (sb : Nat) (B : Nat → Nat → Int32) (Ln Rm : Nat → Nat) (Rd : Nat → Option Nat) (Pl Mk : Nat → Nat) (G : Nat → Nat → Int32) (Sz : Nat → Nat) (Kp : Nat → Int32) (th : Int32) (g a : Nat) (hg : g < 3) (hgRd : Rd g = some a) (ha : a < 8) (hla : Ln a ≤ 256) (hpl : Pl g ≤ Ln a) (hl : Ln a < Pl g + 4) : vCt l yX4_readNumber cX4_readNumber 4 (some .int) 2 46 0 0 D vCl (vTy k) sb [.ref (o 0), .int (nI (g))] (mW k o pl B Ln Rm Rd Pl Mk G Sz Kp th) (vDet (some (.int (nI (0)))) (mW k o pl B Ln Rm Rd Pl Mk G Sz Kp (nI (3)))) := by
  refine vOf (by decide +kernel) (Nat.le_of_ble_eq_true rfl) (fun p9 e9 s9 m9 below9 meth9 c9 X hret _ => ?_)
  refine vAloadN X dX4_readNumber_0 0 rfl ?_
  refine vAloadN X dX4_readNumber_1 0 rfl ?_
  refine vIloadN X dX4_readNumber_2 1 rfl ?_
  refine vCallVd X [.ref (o 0)] (mm_isOtherT l D k o pl sb B Ln Rm Rd Pl Mk G Sz Kp th g (by omega)) (vGV q_838 q_840 q_14 q_29 q_841) ⟨by decide, by decide, (show _ = some 1 from by decide +kernel)⟩ ⟨Nat.le_of_ble_eq_true rfl, Nat.le_of_ble_eq_true rfl⟩ 0 4 rfl rfl rfl rfl (Nat.le_of_ble_eq_true rfl) dX4_readNumber_3 ⟨Nat.zero_le _, Nat.zero_le _⟩ ?_
  refine vIfN_neT X 13 dX4_readNumber_6 (by decide) (by omega) (by omega) ?_
  refine vAloadN X dX4_readNumber_13 0 rfl ?_
  refine vGet X (C := RX4) (T := TX4) (N := 10) (ci := 4) (vcons inM) rfl 0 rfl 3 (by decide) (List.mem_cons_of_mem _ q_745) (fun _ h => h) rfl dX4_readNumber_14 ?_
  refine vIloadN X dX4_readNumber_17 1 rfl ?_
  refine vIaload X (v := nI (a)) 4 1 rfl rfl rfl (by omega) (by decide) (oI_some hgRd) dX4_readNumber_18 ?_
  refine vIfN_geT X 26 dX4_readNumber_19 (by decide) (by omega) (by omega) ?_
  refine vAloadN X dX4_readNumber_26 0 rfl ?_
  refine vIloadN X dX4_readNumber_27 1 rfl ?_
  refine vCallVd X [.ref (o 0)] (mm_leftOf l D k o pl sb B Ln Rm Rd Pl Mk G Sz Kp th g a (Pl (g)) (by omega) hgRd (by omega) (by omega) rfl (by omega)) (vGV q_879 q_881 q_17 q_29 q_882) ⟨by decide, by decide, (show _ = some 1 from by decide +kernel)⟩ ⟨Nat.le_of_ble_eq_true rfl, Nat.le_of_ble_eq_true rfl⟩ 0 4 rfl rfl rfl rfl (Nat.le_of_ble_eq_true rfl) dX4_readNumber_28 ⟨Nat.zero_le _, Nat.zero_le _⟩ ?_
  refine vIconst X dX4_readNumber_31 (v := nI (4)) (by decide) ?_
  refine vIcmpN_geF X 39 dX4_readNumber_32 (by decide) (by omega) (by omega) (by omega) ?_
  refine vIconst X dX4_readNumber_35 (v := nI (3)) (by decide) ?_
  refine vGoto X 40 dX4_readNumber_36 (by decide) ?_
  refine vCallVd X [] (mm_isWrong1 l D k o pl sb B Ln Rm Rd Pl Mk G Sz Kp th 3 (by decide) (by decide)) (vGV q_786 q_788 q_8 q_29 q_789) ⟨by decide, by decide, (show _ = some 1 from by decide +kernel)⟩ ⟨Nat.le_of_ble_eq_true rfl, Nat.le_of_ble_eq_true rfl⟩ 0 4 rfl rfl rfl rfl (Nat.le_of_ble_eq_true rfl) dX4_readNumber_40 ⟨Nat.zero_le _, Nat.zero_le _⟩ ?_
  refine vIfN_eqF X 48 dX4_readNumber_43 (by decide) (by omega) (by omega) ?_
  refine vIconst X dX4_readNumber_46 (v := nI (0)) (by decide) ?_
  exact vRetI X hret dX4_readNumber_47 ⟨rfl, rfl⟩
set_option maxHeartbeats 4000000 in
set_option maxRecDepth 100000 in
theorem mm_readNumber0 (l : Launch) (D : va_G) (k : Nat → ClassId) (o : Nat → Nat) (pl : va_W) (sb : Nat) (B : Nat → Nat → Int32) (Ln Rm : Nat → Nat) (Rd : Nat → Option Nat) (Pl Mk : Nat → Nat) (G : Nat → Nat → Int32) (Sz : Nat → Nat) (Kp : Nat → Int32) (th : Int32) (g a : Nat) (hg : g < 3) (hgRd : Rd g = some a) (ha : a < 8) (hla : Ln a ≤ 256) (hpl : Pl g ≤ Ln a) (hl : Pl g + 4 ≤ Ln a) : vCt l yX4_readNumber cX4_readNumber 4 (some .int) 2 46 0 0 D vCl (vTy k) sb [.ref (o 0), .int (nI (g))] (mW k o pl B Ln Rm Rd Pl Mk G Sz Kp th) (vDet (some (.int (rdN (fun j => B a (Pl g + j)) 4))) (mW k o pl B Ln Rm Rd (va_up Pl g (Pl g + 4)) Mk G Sz (cpK Kp 4 (fun j => B a (Pl g + j))) (nI (0)))) := by
  refine vOf (by decide +kernel) (Nat.le_of_ble_eq_true rfl) (fun p9 e9 s9 m9 below9 meth9 c9 X hret _ => ?_)
  refine vAloadN X dX4_readNumber_0 0 rfl ?_
  refine vAloadN X dX4_readNumber_1 0 rfl ?_
  refine vIloadN X dX4_readNumber_2 1 rfl ?_
  refine vCallVd X [.ref (o 0)] (mm_isOtherT l D k o pl sb B Ln Rm Rd Pl Mk G Sz Kp th g (by omega)) (vGV q_838 q_840 q_14 q_29 q_841) ⟨by decide, by decide, (show _ = some 1 from by decide +kernel)⟩ ⟨Nat.le_of_ble_eq_true rfl, Nat.le_of_ble_eq_true rfl⟩ 0 4 rfl rfl rfl rfl (Nat.le_of_ble_eq_true rfl) dX4_readNumber_3 ⟨Nat.zero_le _, Nat.zero_le _⟩ ?_
  refine vIfN_neT X 13 dX4_readNumber_6 (by decide) (by omega) (by omega) ?_
  refine vAloadN X dX4_readNumber_13 0 rfl ?_
  refine vGet X (C := RX4) (T := TX4) (N := 10) (ci := 4) (vcons inM) rfl 0 rfl 3 (by decide) (List.mem_cons_of_mem _ q_745) (fun _ h => h) rfl dX4_readNumber_14 ?_
  refine vIloadN X dX4_readNumber_17 1 rfl ?_
  refine vIaload X (v := nI (a)) 4 1 rfl rfl rfl (by omega) (by decide) (oI_some hgRd) dX4_readNumber_18 ?_
  refine vIfN_geT X 26 dX4_readNumber_19 (by decide) (by omega) (by omega) ?_
  refine vAloadN X dX4_readNumber_26 0 rfl ?_
  refine vIloadN X dX4_readNumber_27 1 rfl ?_
  refine vCallVd X [.ref (o 0)] (mm_leftOf l D k o pl sb B Ln Rm Rd Pl Mk G Sz Kp th g a (Pl (g)) (by omega) hgRd (by omega) (by omega) rfl (by omega)) (vGV q_879 q_881 q_17 q_29 q_882) ⟨by decide, by decide, (show _ = some 1 from by decide +kernel)⟩ ⟨Nat.le_of_ble_eq_true rfl, Nat.le_of_ble_eq_true rfl⟩ 0 4 rfl rfl rfl rfl (Nat.le_of_ble_eq_true rfl) dX4_readNumber_28 ⟨Nat.zero_le _, Nat.zero_le _⟩ ?_
  refine vIconst X dX4_readNumber_31 (v := nI (4)) (by decide) ?_
  refine vIcmpN_geT X 39 dX4_readNumber_32 (by decide) (by omega) (by omega) (by omega) ?_
  refine vIconst X dX4_readNumber_39 (v := nI (0)) (by decide) ?_
  refine vCallVd X [] (mm_isWrong0 l D k o pl sb B Ln Rm Rd Pl Mk G Sz Kp th ) (vGV q_786 q_788 q_8 q_29 q_789) ⟨by decide, by decide, (show _ = some 1 from by decide +kernel)⟩ ⟨Nat.le_of_ble_eq_true rfl, Nat.le_of_ble_eq_true rfl⟩ 0 4 rfl rfl rfl rfl (Nat.le_of_ble_eq_true rfl) dX4_readNumber_40 ⟨Nat.zero_le _, Nat.zero_le _⟩ ?_
  refine vIfN_eqT X 48 dX4_readNumber_43 (by decide) (by omega) (by omega) ?_
  refine vAloadN X dX4_readNumber_48 0 rfl ?_
  refine vIloadN X dX4_readNumber_49 1 rfl ?_
  refine vIconst X dX4_readNumber_50 (v := nI (4)) (by decide) ?_
  refine vCallVd X [] (mm_keeps l D k o pl sb B Ln Rm Rd Pl Mk G Sz Kp (nI (0)) g a (4) 4 hg hgRd (by omega) (by omega) (by omega) (by omega) (by omega)) (vGV q_903 q_905 q_20 q_29 q_906) ⟨by decide, by decide, (show _ = some 2 from by decide +kernel)⟩ ⟨Nat.le_of_ble_eq_true rfl, Nat.le_of_ble_eq_true rfl⟩ 0 4 rfl rfl rfl rfl (Nat.le_of_ble_eq_true rfl) dX4_readNumber_51 ⟨Nat.zero_le _, Nat.zero_le _⟩ ?_
  refine vPop X dX4_readNumber_54 rfl ?_
  refine vIconst X dX4_readNumber_55 (v := nI (0)) (by decide) ?_
  refine vIstoreN X [(2, .int (nI (0))), (0, .ref (o 0)), (1, .int (nI (g)))] dX4_readNumber_56 (by decide) rfl ?_
  refine vIconst X dX4_readNumber_57 (v := nI (0)) (by decide) ?_
  refine vIstoreN X [(3, .int (nI (0))), (2, .int (nI (0))), (0, .ref (o 0)), (1, .int (nI (g)))] dX4_readNumber_58 (by decide) rfl ?_
  refine vIloadN X dX4_readNumber_59 0 rfl ?_
  refine vIconst X dX4_readNumber_60 (v := nI (4)) (by decide) ?_
  refine vIcmpN_geF X 86 dX4_readNumber_61 (by decide) (by omega) (by omega) (by omega) ?_
  refine vIloadN X dX4_readNumber_64 1 rfl ?_
  refine vBipush X dX4_readNumber_65 (v := nI (8)) (by decide) ?_
  refine vIshl X dX4_readNumber_67 (v := (nI (0)) <<< ((nI (8)) &&& 31)) rfl ?_
  refine vAloadN X dX4_readNumber_68 2 rfl ?_
  refine vGet X (C := RX4) (T := TX4) (N := 10) (ci := 4) (vcons inM) rfl 0 rfl 8 (by decide) (List.mem_cons_of_mem _ q_750) (fun _ h => h) rfl dX4_readNumber_69 ?_
  refine vIloadN X dX4_readNumber_72 0 rfl ?_
  refine vIaload X (v := (cpK Kp 4 (fun j => B a (Pl g + j))) (0)) 9 1 rfl rfl rfl (by omega) (by decide) rfl dX4_readNumber_73 ?_
  refine vSipush X dX4_readNumber_74 (v := nI (255)) (by decide) ?_
  refine vIand X dX4_readNumber_77 (v := ((cpK Kp 4 (fun j => B a (Pl g + j))) (0)) &&& (nI (255))) rfl ?_
  refine vIor X dX4_readNumber_78 (v := ((nI (0)) <<< ((nI (8)) &&& 31)) ||| (((cpK Kp 4 (fun j => B a (Pl g + j))) (0)) &&& (nI (255)))) rfl ?_
  refine vIstoreN X [(2, .int (((nI (0)) <<< ((nI (8)) &&& 31)) ||| (((cpK Kp 4 (fun j => B a (Pl g + j))) (0)) &&& (nI (255))))), (3, .int (nI (0))), (0, .ref (o 0)), (1, .int (nI (g)))] dX4_readNumber_79 (by decide) rfl ?_
  refine vIinc X [(3, .int (nI (0 + 1))), (2, .int (((nI (0)) <<< ((nI (8)) &&& 31)) ||| (((cpK Kp 4 (fun j => B a (Pl g + j))) (0)) &&& (nI (255))))), (0, .ref (o 0)), (1, .int (nI (g)))] dX4_readNumber_80 1 rfl (nI_inc _) (by decide) rfl ?_
  refine vGoto X 59 dX4_readNumber_83 (by decide) ?_
  refine vIloadN X dX4_readNumber_59 0 rfl ?_
  refine vIconst X dX4_readNumber_60 (v := nI (4)) (by decide) ?_
  refine vIcmpN_geF X 86 dX4_readNumber_61 (by decide) (by omega) (by omega) (by omega) ?_
  refine vIloadN X dX4_readNumber_64 1 rfl ?_
  refine vBipush X dX4_readNumber_65 (v := nI (8)) (by decide) ?_
  refine vIshl X dX4_readNumber_67 (v := (((nI (0)) <<< ((nI (8)) &&& 31)) ||| (((cpK Kp 4 (fun j => B a (Pl g + j))) (0)) &&& (nI (255)))) <<< ((nI (8)) &&& 31)) rfl ?_
  refine vAloadN X dX4_readNumber_68 2 rfl ?_
  refine vGet X (C := RX4) (T := TX4) (N := 10) (ci := 4) (vcons inM) rfl 0 rfl 8 (by decide) (List.mem_cons_of_mem _ q_750) (fun _ h => h) rfl dX4_readNumber_69 ?_
  refine vIloadN X dX4_readNumber_72 0 rfl ?_
  refine vIaload X (v := (cpK Kp 4 (fun j => B a (Pl g + j))) (0 + 1)) 9 1 rfl rfl rfl (by omega) (by decide) rfl dX4_readNumber_73 ?_
  refine vSipush X dX4_readNumber_74 (v := nI (255)) (by decide) ?_
  refine vIand X dX4_readNumber_77 (v := ((cpK Kp 4 (fun j => B a (Pl g + j))) (0 + 1)) &&& (nI (255))) rfl ?_
  refine vIor X dX4_readNumber_78 (v := ((((nI (0)) <<< ((nI (8)) &&& 31)) ||| (((cpK Kp 4 (fun j => B a (Pl g + j))) (0)) &&& (nI (255)))) <<< ((nI (8)) &&& 31)) ||| (((cpK Kp 4 (fun j => B a (Pl g + j))) (0 + 1)) &&& (nI (255)))) rfl ?_
  refine vIstoreN X [(2, .int (((((nI (0)) <<< ((nI (8)) &&& 31)) ||| (((cpK Kp 4 (fun j => B a (Pl g + j))) (0)) &&& (nI (255)))) <<< ((nI (8)) &&& 31)) ||| (((cpK Kp 4 (fun j => B a (Pl g + j))) (0 + 1)) &&& (nI (255))))), (3, .int (nI (0 + 1))), (0, .ref (o 0)), (1, .int (nI (g)))] dX4_readNumber_79 (by decide) rfl ?_
  refine vIinc X [(3, .int (nI (0 + 1 + 1))), (2, .int (((((nI (0)) <<< ((nI (8)) &&& 31)) ||| (((cpK Kp 4 (fun j => B a (Pl g + j))) (0)) &&& (nI (255)))) <<< ((nI (8)) &&& 31)) ||| (((cpK Kp 4 (fun j => B a (Pl g + j))) (0 + 1)) &&& (nI (255))))), (0, .ref (o 0)), (1, .int (nI (g)))] dX4_readNumber_80 1 rfl (nI_inc _) (by decide) rfl ?_
  refine vGoto X 59 dX4_readNumber_83 (by decide) ?_
  refine vIloadN X dX4_readNumber_59 0 rfl ?_
  refine vIconst X dX4_readNumber_60 (v := nI (4)) (by decide) ?_
  refine vIcmpN_geF X 86 dX4_readNumber_61 (by decide) (by omega) (by omega) (by omega) ?_
  refine vIloadN X dX4_readNumber_64 1 rfl ?_
  refine vBipush X dX4_readNumber_65 (v := nI (8)) (by decide) ?_
  refine vIshl X dX4_readNumber_67 (v := (((((nI (0)) <<< ((nI (8)) &&& 31)) ||| (((cpK Kp 4 (fun j => B a (Pl g + j))) (0)) &&& (nI (255)))) <<< ((nI (8)) &&& 31)) ||| (((cpK Kp 4 (fun j => B a (Pl g + j))) (0 + 1)) &&& (nI (255)))) <<< ((nI (8)) &&& 31)) rfl ?_
  refine vAloadN X dX4_readNumber_68 2 rfl ?_
  refine vGet X (C := RX4) (T := TX4) (N := 10) (ci := 4) (vcons inM) rfl 0 rfl 8 (by decide) (List.mem_cons_of_mem _ q_750) (fun _ h => h) rfl dX4_readNumber_69 ?_
  refine vIloadN X dX4_readNumber_72 0 rfl ?_
  refine vIaload X (v := (cpK Kp 4 (fun j => B a (Pl g + j))) (0 + 1 + 1)) 9 1 rfl rfl rfl (by omega) (by decide) rfl dX4_readNumber_73 ?_
  refine vSipush X dX4_readNumber_74 (v := nI (255)) (by decide) ?_
  refine vIand X dX4_readNumber_77 (v := ((cpK Kp 4 (fun j => B a (Pl g + j))) (0 + 1 + 1)) &&& (nI (255))) rfl ?_
  refine vIor X dX4_readNumber_78 (v := ((((((nI (0)) <<< ((nI (8)) &&& 31)) ||| (((cpK Kp 4 (fun j => B a (Pl g + j))) (0)) &&& (nI (255)))) <<< ((nI (8)) &&& 31)) ||| (((cpK Kp 4 (fun j => B a (Pl g + j))) (0 + 1)) &&& (nI (255)))) <<< ((nI (8)) &&& 31)) ||| (((cpK Kp 4 (fun j => B a (Pl g + j))) (0 + 1 + 1)) &&& (nI (255)))) rfl ?_
  refine vIstoreN X [(2, .int (((((((nI (0)) <<< ((nI (8)) &&& 31)) ||| (((cpK Kp 4 (fun j => B a (Pl g + j))) (0)) &&& (nI (255)))) <<< ((nI (8)) &&& 31)) ||| (((cpK Kp 4 (fun j => B a (Pl g + j))) (0 + 1)) &&& (nI (255)))) <<< ((nI (8)) &&& 31)) ||| (((cpK Kp 4 (fun j => B a (Pl g + j))) (0 + 1 + 1)) &&& (nI (255))))), (3, .int (nI (0 + 1 + 1))), (0, .ref (o 0)), (1, .int (nI (g)))] dX4_readNumber_79 (by decide) rfl ?_
  refine vIinc X [(3, .int (nI (0 + 1 + 1 + 1))), (2, .int (((((((nI (0)) <<< ((nI (8)) &&& 31)) ||| (((cpK Kp 4 (fun j => B a (Pl g + j))) (0)) &&& (nI (255)))) <<< ((nI (8)) &&& 31)) ||| (((cpK Kp 4 (fun j => B a (Pl g + j))) (0 + 1)) &&& (nI (255)))) <<< ((nI (8)) &&& 31)) ||| (((cpK Kp 4 (fun j => B a (Pl g + j))) (0 + 1 + 1)) &&& (nI (255))))), (0, .ref (o 0)), (1, .int (nI (g)))] dX4_readNumber_80 1 rfl (nI_inc _) (by decide) rfl ?_
  refine vGoto X 59 dX4_readNumber_83 (by decide) ?_
  refine vIloadN X dX4_readNumber_59 0 rfl ?_
  refine vIconst X dX4_readNumber_60 (v := nI (4)) (by decide) ?_
  refine vIcmpN_geF X 86 dX4_readNumber_61 (by decide) (by omega) (by omega) (by omega) ?_
  refine vIloadN X dX4_readNumber_64 1 rfl ?_
  refine vBipush X dX4_readNumber_65 (v := nI (8)) (by decide) ?_
  refine vIshl X dX4_readNumber_67 (v := (((((((nI (0)) <<< ((nI (8)) &&& 31)) ||| (((cpK Kp 4 (fun j => B a (Pl g + j))) (0)) &&& (nI (255)))) <<< ((nI (8)) &&& 31)) ||| (((cpK Kp 4 (fun j => B a (Pl g + j))) (0 + 1)) &&& (nI (255)))) <<< ((nI (8)) &&& 31)) ||| (((cpK Kp 4 (fun j => B a (Pl g + j))) (0 + 1 + 1)) &&& (nI (255)))) <<< ((nI (8)) &&& 31)) rfl ?_
  refine vAloadN X dX4_readNumber_68 2 rfl ?_
  refine vGet X (C := RX4) (T := TX4) (N := 10) (ci := 4) (vcons inM) rfl 0 rfl 8 (by decide) (List.mem_cons_of_mem _ q_750) (fun _ h => h) rfl dX4_readNumber_69 ?_
  refine vIloadN X dX4_readNumber_72 0 rfl ?_
  refine vIaload X (v := (cpK Kp 4 (fun j => B a (Pl g + j))) (0 + 1 + 1 + 1)) 9 1 rfl rfl rfl (by omega) (by decide) rfl dX4_readNumber_73 ?_
  refine vSipush X dX4_readNumber_74 (v := nI (255)) (by decide) ?_
  refine vIand X dX4_readNumber_77 (v := ((cpK Kp 4 (fun j => B a (Pl g + j))) (0 + 1 + 1 + 1)) &&& (nI (255))) rfl ?_
  refine vIor X dX4_readNumber_78 (v := ((((((((nI (0)) <<< ((nI (8)) &&& 31)) ||| (((cpK Kp 4 (fun j => B a (Pl g + j))) (0)) &&& (nI (255)))) <<< ((nI (8)) &&& 31)) ||| (((cpK Kp 4 (fun j => B a (Pl g + j))) (0 + 1)) &&& (nI (255)))) <<< ((nI (8)) &&& 31)) ||| (((cpK Kp 4 (fun j => B a (Pl g + j))) (0 + 1 + 1)) &&& (nI (255)))) <<< ((nI (8)) &&& 31)) ||| (((cpK Kp 4 (fun j => B a (Pl g + j))) (0 + 1 + 1 + 1)) &&& (nI (255)))) rfl ?_
  refine vIstoreN X [(2, .int (((((((((nI (0)) <<< ((nI (8)) &&& 31)) ||| (((cpK Kp 4 (fun j => B a (Pl g + j))) (0)) &&& (nI (255)))) <<< ((nI (8)) &&& 31)) ||| (((cpK Kp 4 (fun j => B a (Pl g + j))) (0 + 1)) &&& (nI (255)))) <<< ((nI (8)) &&& 31)) ||| (((cpK Kp 4 (fun j => B a (Pl g + j))) (0 + 1 + 1)) &&& (nI (255)))) <<< ((nI (8)) &&& 31)) ||| (((cpK Kp 4 (fun j => B a (Pl g + j))) (0 + 1 + 1 + 1)) &&& (nI (255))))), (3, .int (nI (0 + 1 + 1 + 1))), (0, .ref (o 0)), (1, .int (nI (g)))] dX4_readNumber_79 (by decide) rfl ?_
  refine vIinc X [(3, .int (nI (0 + 1 + 1 + 1 + 1))), (2, .int (((((((((nI (0)) <<< ((nI (8)) &&& 31)) ||| (((cpK Kp 4 (fun j => B a (Pl g + j))) (0)) &&& (nI (255)))) <<< ((nI (8)) &&& 31)) ||| (((cpK Kp 4 (fun j => B a (Pl g + j))) (0 + 1)) &&& (nI (255)))) <<< ((nI (8)) &&& 31)) ||| (((cpK Kp 4 (fun j => B a (Pl g + j))) (0 + 1 + 1)) &&& (nI (255)))) <<< ((nI (8)) &&& 31)) ||| (((cpK Kp 4 (fun j => B a (Pl g + j))) (0 + 1 + 1 + 1)) &&& (nI (255))))), (0, .ref (o 0)), (1, .int (nI (g)))] dX4_readNumber_80 1 rfl (nI_inc _) (by decide) rfl ?_
  refine vGoto X 59 dX4_readNumber_83 (by decide) ?_
  refine vIloadN X dX4_readNumber_59 0 rfl ?_
  refine vIconst X dX4_readNumber_60 (v := nI (4)) (by decide) ?_
  refine vIcmpN_geT X 86 dX4_readNumber_61 (by decide) (by omega) (by omega) (by omega) ?_
  refine vIloadN X dX4_readNumber_86 1 rfl ?_
  exact vRetI X hret dX4_readNumber_87 ⟨by simp [rdN, cpK], rfl⟩
set_option maxHeartbeats 4000000 in
set_option maxRecDepth 100000 in
theorem mL_readLine {p9 : Program} {l : Launch} {e9 : Env} {s9 : State} {m9 : MethodId} {args9 : Array Value} {below9 : List Frame} {meth9 : Method} {c9 : Code} {Q9 : State → Prop} (D : va_G) (k : Nat → ClassId) (o : Nat → Nat) (pl : va_W) (sb : Nat) (B : Nat → Nat → Int32) (Ln Rm : Nat → Nat) (Rd : Nat → Option Nat) (Pl Mk : Nat → Nat) (G : Nat → Nat → Int32) (Sz : Nat → Nat) (Kp : Nat → Int32) (th : Int32) (g a r n : Nat) (hg : g < 3) (hgRd : Rd g = some a) (ha : a < 8) (hla : Ln a ≤ 256) (hpl : Pl g ≤ Ln a) (hn : n ≤ Ln a - Pl g) (hnl : ∀ j, j < n → ¬ B a (Pl g + j) = nI 10) (X : vCX p9 s9 m9 args9 meth9 c9 cX4_readLine 4 yX4_readLine.cls (Cond.code yX4_readLine cX4_readLine 4 (some .int) :: vGW) D vCl (vTy k) sb) (hex : vV p9 l e9 ({ frames := 2, cells := 0, slots := 0, locals := 47 }) s9 m9 args9 below9 meth9 c9 4 D vCl sb Q9 (mW k o pl B Ln Rm Rd Pl Mk G Sz Kp th) 0 0 55 [(3, .int (nI (n))), (0, .ref (o 0)), (1, .int (nI (g))), (2, .int (nI (r)))] []) : ∀ (z i : Nat) , i + z = n → vV p9 l e9 ({ frames := 2, cells := 0, slots := 0, locals := 47 }) s9 m9 args9 below9 meth9 c9 4 D vCl sb Q9 (mW k o pl B Ln Rm Rd Pl Mk G Sz Kp th) 0 0 55 [(3, .int (nI (i))), (0, .ref (o 0)), (1, .int (nI (g))), (2, .int (nI (r)))] [] := by
  intro z
  induction z with
  | zero =>
    intro i  hi 
    have hin : n = i := by omega
    subst hin
    exact hex
  | succ z ih =>
    intro i  hi 
    refine vIloadN X dX4_readLine_55 0 rfl ?_
    refine vAloadN X dX4_readLine_56 1 rfl ?_
    refine vIloadN X dX4_readLine_57 2 rfl ?_
    refine vCallVd X [.int (nI (i))] (mm_leftOf l D k o pl sb B Ln Rm Rd Pl Mk G Sz Kp th g a (Pl (g)) (by omega) hgRd (by omega) (by omega) rfl (by omega)) (vGV q_879 q_881 q_17 q_29 q_882) ⟨by decide, by decide, (show _ = some 1 from by decide +kernel)⟩ ⟨Nat.le_of_ble_eq_true rfl, Nat.le_of_ble_eq_true rfl⟩ 0 4 rfl rfl rfl rfl (Nat.le_of_ble_eq_true rfl) dX4_readLine_58 ⟨Nat.zero_le _, Nat.zero_le _⟩ ?_
    refine vIcmpN_geF X 99 dX4_readLine_61 (by decide) (by omega) (by omega) (by omega) ?_
    refine vAloadN X dX4_readLine_64 1 rfl ?_
    refine vGet X (C := RX4) (T := TX4) (N := 10) (ci := 4) (vcons inM) rfl 0 rfl 0 (by decide) (List.mem_cons_of_mem _ q_742) (fun _ h => h) rfl dX4_readLine_65 ?_
    refine vSipush X dX4_readLine_68 (v := nI (256)) (by decide) ?_
    refine vAloadN X dX4_readLine_71 1 rfl ?_
    refine vGet X (C := RX4) (T := TX4) (N := 10) (ci := 4) (vcons inM) rfl 0 rfl 3 (by decide) (List.mem_cons_of_mem _ q_745) (fun _ h => h) rfl dX4_readLine_72 ?_
    refine vIloadN X dX4_readLine_75 2 rfl ?_
    refine vIaload X (v := nI (a)) 4 1 rfl rfl rfl (by omega) (by decide) (oI_some hgRd) dX4_readLine_76 ?_
    refine vImul X dX4_readLine_77 (v := nI ((256) * (a))) (pk_mul _ _) ?_
    refine vAloadN X dX4_readLine_78 1 rfl ?_
    refine vGet X (C := RX4) (T := TX4) (N := 10) (ci := 4) (vcons inM) rfl 0 rfl 4 (by decide) (List.mem_cons_of_mem _ q_746) (fun _ h => h) rfl dX4_readLine_79 ?_
    refine vIloadN X dX4_readLine_82 2 rfl ?_
    refine vIaload X (v := nI (Pl (g))) 5 1 rfl rfl rfl (by omega) (by decide) rfl dX4_readLine_83 ?_
    refine vIadd X dX4_readLine_84 (v := nI (((256) * (a)) + (Pl (g)))) (nI_add _ _) ?_
    refine vIloadN X dX4_readLine_85 0 rfl ?_
    refine vIadd X dX4_readLine_86 (v := nI ((((256) * (a)) + (Pl (g))) + (i))) (nI_add _ _) ?_
    refine vIaload X (v := B (a) (Pl (g) + i)) 1 1 rfl rfl rfl (by omega) (by decide) (fl2_at _ (X := a) (Y := Pl (g) + i) (by omega) (by omega)) dX4_readLine_87 ?_
    refine vBipush X dX4_readLine_88 (v := nI (10)) (by decide) ?_
    refine vIcmp_eqF X 99 dX4_readLine_90 (by decide) (hnl i (by omega)) ?_
    refine vIinc X [(3, .int (nI (i + 1))), (0, .ref (o 0)), (1, .int (nI (g))), (2, .int (nI (r)))] dX4_readLine_93 0 rfl (nI_inc _) (by decide) rfl ?_
    refine vGoto X 55 dX4_readLine_96 (by decide) ?_
    refine vSub [0, 1, 2, 3] [(3, .int (nI (i + 1))), (0, .ref (o 0)), (1, .int (nI (g))), (2, .int (nI (r)))] rfl ?_
    exact ih (i + 1) (by omega)
set_option maxHeartbeats 4000000 in
set_option maxRecDepth 100000 in
theorem mm_readLine1a (l : Launch) (D : va_G) (k : Nat → ClassId) (o : Nat → Nat) (pl : va_W) (sb : Nat) (B : Nat → Nat → Int32) (Ln Rm : Nat → Nat) (Rd : Nat → Option Nat) (Pl Mk : Nat → Nat) (G : Nat → Nat → Int32) (Sz : Nat → Nat) (Kp : Nat → Int32) (th : Int32) (x y : Int32) (hx : ¬ vOther x) : vCt l yX4_readLine cX4_readLine 4 (some .int) 2 47 0 0 D vCl (vTy k) sb [.ref (o 0), .int (x), .int (y)] (mW k o pl B Ln Rm Rd Pl Mk G Sz Kp th) (vDet (some (.int (nI (0)))) (mW k o pl B Ln Rm Rd Pl Mk G Sz Kp (nI (1)))) := by
  refine vOf (by decide +kernel) (Nat.le_of_ble_eq_true rfl) (fun p9 e9 s9 m9 below9 meth9 c9 X hret _ => ?_)
  refine vAloadN X dX4_readLine_0 0 rfl ?_
  refine vAloadN X dX4_readLine_1 0 rfl ?_
  refine vIloadN X dX4_readLine_2 1 rfl ?_
  refine vCallVd X [.ref (o 0)] (mm_isOtherF l D k o pl sb B Ln Rm Rd Pl Mk G Sz Kp th x hx) (vGV q_838 q_840 q_14 q_29 q_841) ⟨by decide, by decide, (show _ = some 1 from by decide +kernel)⟩ ⟨Nat.le_of_ble_eq_true rfl, Nat.le_of_ble_eq_true rfl⟩ 0 4 rfl rfl rfl rfl (Nat.le_of_ble_eq_true rfl) dX4_readLine_3 ⟨Nat.zero_le _, Nat.zero_le _⟩ ?_
  refine vIfN_eqT X 17 dX4_readLine_6 (by decide) (by omega) (by omega) ?_
  refine vIconst X dX4_readLine_17 (v := nI (1)) (by decide) ?_
  refine vGoto X 35 dX4_readLine_18 (by decide) ?_
  refine vCallVd X [] (mm_isWrong1 l D k o pl sb B Ln Rm Rd Pl Mk G Sz Kp th 1 (by decide) (by decide)) (vGV q_786 q_788 q_8 q_29 q_789) ⟨by decide, by decide, (show _ = some 1 from by decide +kernel)⟩ ⟨Nat.le_of_ble_eq_true rfl, Nat.le_of_ble_eq_true rfl⟩ 0 4 rfl rfl rfl rfl (Nat.le_of_ble_eq_true rfl) dX4_readLine_35 ⟨Nat.zero_le _, Nat.zero_le _⟩ ?_
  refine vIfN_eqF X 43 dX4_readLine_38 (by decide) (by omega) (by omega) ?_
  refine vIconst X dX4_readLine_41 (v := nI (0)) (by decide) ?_
  exact vRetI X hret dX4_readLine_42 ⟨rfl, rfl⟩
set_option maxHeartbeats 4000000 in
set_option maxRecDepth 100000 in
theorem mm_readLine1b (l : Launch) (D : va_G) (k : Nat → ClassId) (o : Nat → Nat) (pl : va_W) (sb : Nat) (B : Nat → Nat → Int32) (Ln Rm : Nat → Nat) (Rd : Nat → Option Nat) (Pl Mk : Nat → Nat) (G : Nat → Nat → Int32) (Sz : Nat → Nat) (Kp : Nat → Int32) (th : Int32) (g : Nat) (y : Int32) (hg : g < 3) (hy : ¬ vRow y) : vCt l yX4_readLine cX4_readLine 4 (some .int) 2 47 0 0 D vCl (vTy k) sb [.ref (o 0), .int (nI (g)), .int (y)] (mW k o pl B Ln Rm Rd Pl Mk G Sz Kp th) (vDet (some (.int (nI (0)))) (mW k o pl B Ln Rm Rd Pl Mk G Sz Kp (nI (1)))) := by
  refine vOf (by decide +kernel) (Nat.le_of_ble_eq_true rfl) (fun p9 e9 s9 m9 below9 meth9 c9 X hret _ => ?_)
  refine vAloadN X dX4_readLine_0 0 rfl ?_
  refine vAloadN X dX4_readLine_1 0 rfl ?_
  refine vIloadN X dX4_readLine_2 1 rfl ?_
  refine vCallVd X [.ref (o 0)] (mm_isOtherT l D k o pl sb B Ln Rm Rd Pl Mk G Sz Kp th g (by omega)) (vGV q_838 q_840 q_14 q_29 q_841) ⟨by decide, by decide, (show _ = some 1 from by decide +kernel)⟩ ⟨Nat.le_of_ble_eq_true rfl, Nat.le_of_ble_eq_true rfl⟩ 0 4 rfl rfl rfl rfl (Nat.le_of_ble_eq_true rfl) dX4_readLine_3 ⟨Nat.zero_le _, Nat.zero_le _⟩ ?_
  refine vIfN_eqF X 17 dX4_readLine_6 (by decide) (by omega) (by omega) ?_
  refine vAloadN X dX4_readLine_9 0 rfl ?_
  refine vIloadN X dX4_readLine_10 2 rfl ?_
  refine vCallVd X [.ref (o 0)] (mm_isRowF l D k o pl sb B Ln Rm Rd Pl Mk G Sz Kp th y hy) (vGV q_782 q_784 q_7 q_29 q_785) ⟨by decide, by decide, (show _ = some 1 from by decide +kernel)⟩ ⟨Nat.le_of_ble_eq_true rfl, Nat.le_of_ble_eq_true rfl⟩ 0 4 rfl rfl rfl rfl (Nat.le_of_ble_eq_true rfl) dX4_readLine_11 ⟨Nat.zero_le _, Nat.zero_le _⟩ ?_
  refine vIfN_neF X 21 dX4_readLine_14 (by decide) (by omega) (by omega) ?_
  refine vIconst X dX4_readLine_17 (v := nI (1)) (by decide) ?_
  refine vGoto X 35 dX4_readLine_18 (by decide) ?_
  refine vCallVd X [] (mm_isWrong1 l D k o pl sb B Ln Rm Rd Pl Mk G Sz Kp th 1 (by decide) (by decide)) (vGV q_786 q_788 q_8 q_29 q_789) ⟨by decide, by decide, (show _ = some 1 from by decide +kernel)⟩ ⟨Nat.le_of_ble_eq_true rfl, Nat.le_of_ble_eq_true rfl⟩ 0 4 rfl rfl rfl rfl (Nat.le_of_ble_eq_true rfl) dX4_readLine_35 ⟨Nat.zero_le _, Nat.zero_le _⟩ ?_
  refine vIfN_eqF X 43 dX4_readLine_38 (by decide) (by omega) (by omega) ?_
  refine vIconst X dX4_readLine_41 (v := nI (0)) (by decide) ?_
  exact vRetI X hret dX4_readLine_42 ⟨rfl, rfl⟩
set_option maxHeartbeats 4000000 in
set_option maxRecDepth 100000 in
theorem mm_readLine2 (l : Launch) (D : va_G) (k : Nat → ClassId) (o : Nat → Nat) (pl : va_W) (sb : Nat) (B : Nat → Nat → Int32) (Ln Rm : Nat → Nat) (Rd : Nat → Option Nat) (Pl Mk : Nat → Nat) (G : Nat → Nat → Int32) (Sz : Nat → Nat) (Kp : Nat → Int32) (th : Int32) (g r : Nat) (hg : g < 3) (hr : r < 4) (hgRd : Rd g = none) : vCt l yX4_readLine cX4_readLine 4 (some .int) 2 47 0 0 D vCl (vTy k) sb [.ref (o 0), .int (nI (g)), .int (nI (r))] (mW k o pl B Ln Rm Rd Pl Mk G Sz Kp th) (vDet (some (.int (nI (0)))) (mW k o pl B Ln Rm Rd Pl Mk G Sz Kp (nI (2)))) := by
  refine vOf (by decide +kernel) (Nat.le_of_ble_eq_true rfl) (fun p9 e9 s9 m9 below9 meth9 c9 X hret _ => ?_)
  refine vAloadN X dX4_readLine_0 0 rfl ?_
  refine vAloadN X dX4_readLine_1 0 rfl ?_
  refine vIloadN X dX4_readLine_2 1 rfl ?_
  refine vCallVd X [.ref (o 0)] (mm_isOtherT l D k o pl sb B Ln Rm Rd Pl Mk G Sz Kp th g (by omega)) (vGV q_838 q_840 q_14 q_29 q_841) ⟨by decide, by decide, (show _ = some 1 from by decide +kernel)⟩ ⟨Nat.le_of_ble_eq_true rfl, Nat.le_of_ble_eq_true rfl⟩ 0 4 rfl rfl rfl rfl (Nat.le_of_ble_eq_true rfl) dX4_readLine_3 ⟨Nat.zero_le _, Nat.zero_le _⟩ ?_
  refine vIfN_eqF X 17 dX4_readLine_6 (by decide) (by omega) (by omega) ?_
  refine vAloadN X dX4_readLine_9 0 rfl ?_
  refine vIloadN X dX4_readLine_10 2 rfl ?_
  refine vCallVd X [.ref (o 0)] (mm_isRowT l D k o pl sb B Ln Rm Rd Pl Mk G Sz Kp th r (by omega)) (vGV q_782 q_784 q_7 q_29 q_785) ⟨by decide, by decide, (show _ = some 1 from by decide +kernel)⟩ ⟨Nat.le_of_ble_eq_true rfl, Nat.le_of_ble_eq_true rfl⟩ 0 4 rfl rfl rfl rfl (Nat.le_of_ble_eq_true rfl) dX4_readLine_11 ⟨Nat.zero_le _, Nat.zero_le _⟩ ?_
  refine vIfN_neT X 21 dX4_readLine_14 (by decide) (by omega) (by omega) ?_
  refine vAloadN X dX4_readLine_21 0 rfl ?_
  refine vGet X (C := RX4) (T := TX4) (N := 10) (ci := 4) (vcons inM) rfl 0 rfl 3 (by decide) (List.mem_cons_of_mem _ q_745) (fun _ h => h) rfl dX4_readLine_22 ?_
  refine vIloadN X dX4_readLine_25 1 rfl ?_
  refine vIaload X (v := (-1 : Int32)) 4 1 rfl rfl rfl (by omega) (by decide) (oI_none hgRd) dX4_readLine_26 ?_
  refine vIf_geF X 34 dX4_readLine_27 (by decide) (by first | assumption | exact Int32.not_lt.mpr (by assumption) | exact Int32.not_le.mpr (by assumption) | exact Int32.not_lt.mp (by assumption) | exact Int32.not_le.mp (by assumption) | decide) ?_
  refine vIconst X dX4_readLine_30 (v := nI (2)) (by decide) ?_
  refine vGoto X 35 dX4_readLine_31 (by decide) ?_
  refine vCallVd X [] (mm_isWrong1 l D k o pl sb B Ln Rm Rd Pl Mk G Sz Kp th 2 (by decide) (by decide)) (vGV q_786 q_788 q_8 q_29 q_789) ⟨by decide, by decide, (show _ = some 1 from by decide +kernel)⟩ ⟨Nat.le_of_ble_eq_true rfl, Nat.le_of_ble_eq_true rfl⟩ 0 4 rfl rfl rfl rfl (Nat.le_of_ble_eq_true rfl) dX4_readLine_35 ⟨Nat.zero_le _, Nat.zero_le _⟩ ?_
  refine vIfN_eqF X 43 dX4_readLine_38 (by decide) (by omega) (by omega) ?_
  refine vIconst X dX4_readLine_41 (v := nI (0)) (by decide) ?_
  exact vRetI X hret dX4_readLine_42 ⟨rfl, rfl⟩
set_option maxHeartbeats 4000000 in
set_option maxRecDepth 100000 in
theorem mm_readLine0a (l : Launch) (D : va_G) (k : Nat → ClassId) (o : Nat → Nat) (pl : va_W) (sb : Nat) (B : Nat → Nat → Int32) (Ln Rm : Nat → Nat) (Rd : Nat → Option Nat) (Pl Mk : Nat → Nat) (G : Nat → Nat → Int32) (Sz : Nat → Nat) (Kp : Nat → Int32) (th : Int32) (g a r : Nat) (hg : g < 3) (hgRd : Rd g = some a) (ha : a < 8) (hla : Ln a ≤ 256) (hpl : Pl g ≤ Ln a) (hr : r < 4) (hl : Pl g = Ln a) : vCt l yX4_readLine cX4_readLine 4 (some .int) 2 47 0 0 D vCl (vTy k) sb [.ref (o 0), .int (nI (g)), .int (nI (r))] (mW k o pl B Ln Rm Rd Pl Mk G Sz Kp th) (vDet (some (.int ((-1 : Int32)))) (mW k o pl B Ln Rm Rd Pl Mk G Sz Kp (nI (0)))) := by
  refine vOf (by decide +kernel) (Nat.le_of_ble_eq_true rfl) (fun p9 e9 s9 m9 below9 meth9 c9 X hret _ => ?_)
  refine vAloadN X dX4_readLine_0 0 rfl ?_
  refine vAloadN X dX4_readLine_1 0 rfl ?_
  refine vIloadN X dX4_readLine_2 1 rfl ?_
  refine vCallVd X [.ref (o 0)] (mm_isOtherT l D k o pl sb B Ln Rm Rd Pl Mk G Sz Kp th g (by omega)) (vGV q_838 q_840 q_14 q_29 q_841) ⟨by decide, by decide, (show _ = some 1 from by decide +kernel)⟩ ⟨Nat.le_of_ble_eq_true rfl, Nat.le_of_ble_eq_true rfl⟩ 0 4 rfl rfl rfl rfl (Nat.le_of_ble_eq_true rfl) dX4_readLine_3 ⟨Nat.zero_le _, Nat.zero_le _⟩ ?_
  refine vIfN_eqF X 17 dX4_readLine_6 (by decide) (by omega) (by omega) ?_
  refine vAloadN X dX4_readLine_9 0 rfl ?_
  refine vIloadN X dX4_readLine_10 2 rfl ?_
  refine vCallVd X [.ref (o 0)] (mm_isRowT l D k o pl sb B Ln Rm Rd Pl Mk G Sz Kp th r (by omega)) (vGV q_782 q_784 q_7 q_29 q_785) ⟨by decide, by decide, (show _ = some 1 from by decide +kernel)⟩ ⟨Nat.le_of_ble_eq_true rfl, Nat.le_of_ble_eq_true rfl⟩ 0 4 rfl rfl rfl rfl (Nat.le_of_ble_eq_true rfl) dX4_readLine_11 ⟨Nat.zero_le _, Nat.zero_le _⟩ ?_
  refine vIfN_neT X 21 dX4_readLine_14 (by decide) (by omega) (by omega) ?_
  refine vAloadN X dX4_readLine_21 0 rfl ?_
  refine vGet X (C := RX4) (T := TX4) (N := 10) (ci := 4) (vcons inM) rfl 0 rfl 3 (by decide) (List.mem_cons_of_mem _ q_745) (fun _ h => h) rfl dX4_readLine_22 ?_
  refine vIloadN X dX4_readLine_25 1 rfl ?_
  refine vIaload X (v := nI (a)) 4 1 rfl rfl rfl (by omega) (by decide) (oI_some hgRd) dX4_readLine_26 ?_
  refine vIfN_geT X 34 dX4_readLine_27 (by decide) (by omega) (by omega) ?_
  refine vIconst X dX4_readLine_34 (v := nI (0)) (by decide) ?_
  refine vCallVd X [] (mm_isWrong0 l D k o pl sb B Ln Rm Rd Pl Mk G Sz Kp th ) (vGV q_786 q_788 q_8 q_29 q_789) ⟨by decide, by decide, (show _ = some 1 from by decide +kernel)⟩ ⟨Nat.le_of_ble_eq_true rfl, Nat.le_of_ble_eq_true rfl⟩ 0 4 rfl rfl rfl rfl (Nat.le_of_ble_eq_true rfl) dX4_readLine_35 ⟨Nat.zero_le _, Nat.zero_le _⟩ ?_
  refine vIfN_eqT X 43 dX4_readLine_38 (by decide) (by omega) (by omega) ?_
  refine vAloadN X dX4_readLine_43 0 rfl ?_
  refine vIloadN X dX4_readLine_44 1 rfl ?_
  refine vCallVd X [] (mm_leftOf l D k o pl sb B Ln Rm Rd Pl Mk G Sz Kp (nI (0)) g a (Pl (g)) (by omega) hgRd (by omega) (by omega) rfl (by omega)) (vGV q_879 q_881 q_17 q_29 q_882) ⟨by decide, by decide, (show _ = some 1 from by decide +kernel)⟩ ⟨Nat.le_of_ble_eq_true rfl, Nat.le_of_ble_eq_true rfl⟩ 0 4 rfl rfl rfl rfl (Nat.le_of_ble_eq_true rfl) dX4_readLine_45 ⟨Nat.zero_le _, Nat.zero_le _⟩ ?_
  refine vIfN_neF X 53 dX4_readLine_48 (by decide) (by omega) (by omega) ?_
  refine vIconst X dX4_readLine_51 (v := (-1 : Int32)) (by decide) ?_
  exact vRetI X hret dX4_readLine_52 ⟨rfl, rfl⟩
set_option maxHeartbeats 4000000 in
set_option maxRecDepth 100000 in
theorem mm_readLine0b (l : Launch) (D : va_G) (k : Nat → ClassId) (o : Nat → Nat) (pl : va_W) (sb : Nat) (B : Nat → Nat → Int32) (Ln Rm : Nat → Nat) (Rd : Nat → Option Nat) (Pl Mk : Nat → Nat) (G : Nat → Nat → Int32) (Sz : Nat → Nat) (Kp : Nat → Int32) (th : Int32) (g a r n F : Nat) (hg : g < 3) (hgRd : Rd g = some a) (ha : a < 8) (hla : Ln a ≤ 256) (hpl : Pl g ≤ Ln a) (hr : r < 4) (hl : Pl g < Ln a) (hn : n ≤ Ln a - Pl g) (hnl : ∀ j, j < n → ¬ B a (Pl g + j) = nI 10) (he : n = Ln a - Pl g) (hF : mFree Rm Rd F) (hRm : ∀ r, r < 4 → Rm r < 8) (hRd : ∀ g, g < 3 → ∀ b, Rd g = some b → b < 8) : vCt l yX4_readLine cX4_readLine 4 (some .int) 2 47 0 0 D vCl (vTy k) sb [.ref (o 0), .int (nI (g)), .int (nI (r))] (mW k o pl B Ln Rm Rd Pl Mk G Sz Kp th) (vDet (some (.int (nI (n)))) (mW k o pl (cpB B F n (fun j => B a (Pl g + j))) (va_up Ln F n) (va_up Rm r F) Rd (va_up Pl g (Pl g + n)) Mk G Sz (cpK Kp n (fun j => B a (Pl g + j))) (nI 0))) := by
  refine vOf (by decide +kernel) (Nat.le_of_ble_eq_true rfl) (fun p9 e9 s9 m9 below9 meth9 c9 X hret _ => ?_)
  refine vAloadN X dX4_readLine_0 0 rfl ?_
  refine vAloadN X dX4_readLine_1 0 rfl ?_
  refine vIloadN X dX4_readLine_2 1 rfl ?_
  refine vCallVd X [.ref (o 0)] (mm_isOtherT l D k o pl sb B Ln Rm Rd Pl Mk G Sz Kp th g (by omega)) (vGV q_838 q_840 q_14 q_29 q_841) ⟨by decide, by decide, (show _ = some 1 from by decide +kernel)⟩ ⟨Nat.le_of_ble_eq_true rfl, Nat.le_of_ble_eq_true rfl⟩ 0 4 rfl rfl rfl rfl (Nat.le_of_ble_eq_true rfl) dX4_readLine_3 ⟨Nat.zero_le _, Nat.zero_le _⟩ ?_
  refine vIfN_eqF X 17 dX4_readLine_6 (by decide) (by omega) (by omega) ?_
  refine vAloadN X dX4_readLine_9 0 rfl ?_
  refine vIloadN X dX4_readLine_10 2 rfl ?_
  refine vCallVd X [.ref (o 0)] (mm_isRowT l D k o pl sb B Ln Rm Rd Pl Mk G Sz Kp th r (by omega)) (vGV q_782 q_784 q_7 q_29 q_785) ⟨by decide, by decide, (show _ = some 1 from by decide +kernel)⟩ ⟨Nat.le_of_ble_eq_true rfl, Nat.le_of_ble_eq_true rfl⟩ 0 4 rfl rfl rfl rfl (Nat.le_of_ble_eq_true rfl) dX4_readLine_11 ⟨Nat.zero_le _, Nat.zero_le _⟩ ?_
  refine vIfN_neT X 21 dX4_readLine_14 (by decide) (by omega) (by omega) ?_
  refine vAloadN X dX4_readLine_21 0 rfl ?_
  refine vGet X (C := RX4) (T := TX4) (N := 10) (ci := 4) (vcons inM) rfl 0 rfl 3 (by decide) (List.mem_cons_of_mem _ q_745) (fun _ h => h) rfl dX4_readLine_22 ?_
  refine vIloadN X dX4_readLine_25 1 rfl ?_
  refine vIaload X (v := nI (a)) 4 1 rfl rfl rfl (by omega) (by decide) (oI_some hgRd) dX4_readLine_26 ?_
  refine vIfN_geT X 34 dX4_readLine_27 (by decide) (by omega) (by omega) ?_
  refine vIconst X dX4_readLine_34 (v := nI (0)) (by decide) ?_
  refine vCallVd X [] (mm_isWrong0 l D k o pl sb B Ln Rm Rd Pl Mk G Sz Kp th ) (vGV q_786 q_788 q_8 q_29 q_789) ⟨by decide, by decide, (show _ = some 1 from by decide +kernel)⟩ ⟨Nat.le_of_ble_eq_true rfl, Nat.le_of_ble_eq_true rfl⟩ 0 4 rfl rfl rfl rfl (Nat.le_of_ble_eq_true rfl) dX4_readLine_35 ⟨Nat.zero_le _, Nat.zero_le _⟩ ?_
  refine vIfN_eqT X 43 dX4_readLine_38 (by decide) (by omega) (by omega) ?_
  refine vAloadN X dX4_readLine_43 0 rfl ?_
  refine vIloadN X dX4_readLine_44 1 rfl ?_
  refine vCallVd X [] (mm_leftOf l D k o pl sb B Ln Rm Rd Pl Mk G Sz Kp (nI (0)) g a (Pl (g)) (by omega) hgRd (by omega) (by omega) rfl (by omega)) (vGV q_879 q_881 q_17 q_29 q_882) ⟨by decide, by decide, (show _ = some 1 from by decide +kernel)⟩ ⟨Nat.le_of_ble_eq_true rfl, Nat.le_of_ble_eq_true rfl⟩ 0 4 rfl rfl rfl rfl (Nat.le_of_ble_eq_true rfl) dX4_readLine_45 ⟨Nat.zero_le _, Nat.zero_le _⟩ ?_
  refine vIfN_neT X 53 dX4_readLine_48 (by decide) (by omega) (by omega) ?_
  refine vIconst X dX4_readLine_53 (v := nI (0)) (by decide) ?_
  refine vIstoreN X [(3, .int (nI (0))), (0, .ref (o 0)), (1, .int (nI (g))), (2, .int (nI (r)))] dX4_readLine_54 (by decide) rfl ?_
  refine vSub [0, 1, 2, 3] [(3, .int (nI (0))), (0, .ref (o 0)), (1, .int (nI (g))), (2, .int (nI (r)))] rfl ?_
  refine mL_readLine D k o pl sb B Ln Rm Rd Pl Mk G Sz Kp (nI (0)) g a r n hg hgRd ha hla hpl hn hnl X ?_ (n) 0  (by omega)
  refine vIloadN X dX4_readLine_55 0 rfl ?_
  refine vAloadN X dX4_readLine_56 1 rfl ?_
  refine vIloadN X dX4_readLine_57 2 rfl ?_
  refine vCallVd X [.int (nI (n))] (mm_leftOf l D k o pl sb B Ln Rm Rd Pl Mk G Sz Kp (nI (0)) g a (Pl (g)) (by omega) hgRd (by omega) (by omega) rfl (by omega)) (vGV q_879 q_881 q_17 q_29 q_882) ⟨by decide, by decide, (show _ = some 1 from by decide +kernel)⟩ ⟨Nat.le_of_ble_eq_true rfl, Nat.le_of_ble_eq_true rfl⟩ 0 4 rfl rfl rfl rfl (Nat.le_of_ble_eq_true rfl) dX4_readLine_58 ⟨Nat.zero_le _, Nat.zero_le _⟩ ?_
  refine vIcmpN_geT X 99 dX4_readLine_61 (by decide) (by omega) (by omega) (by omega) ?_
  refine vAloadN X dX4_readLine_99 1 rfl ?_
  refine vIloadN X dX4_readLine_100 2 rfl ?_
  refine vIloadN X dX4_readLine_101 0 rfl ?_
  refine vCallVd X [] (mm_keeps l D k o pl sb B Ln Rm Rd Pl Mk G Sz Kp (nI (0)) g a (n) n hg hgRd (by omega) (by omega) (by omega) (by omega) (by omega)) (vGV q_903 q_905 q_20 q_29 q_906) ⟨by decide, by decide, (show _ = some 2 from by decide +kernel)⟩ ⟨Nat.le_of_ble_eq_true rfl, Nat.le_of_ble_eq_true rfl⟩ 0 4 rfl rfl rfl rfl (Nat.le_of_ble_eq_true rfl) dX4_readLine_102 ⟨Nat.zero_le _, Nat.zero_le _⟩ ?_
  refine vPop X dX4_readLine_105 rfl ?_
  refine vAloadN X dX4_readLine_106 1 rfl ?_
  refine vIloadN X dX4_readLine_107 2 rfl ?_
  refine vCallVd X [] (mm_leftOf l D k o pl sb B Ln Rm Rd (va_up Pl g (Pl g + n)) Mk G Sz (cpK Kp n (fun j => B a (Pl g + j))) (nI (0)) g a (Pl g + n) (by omega) hgRd (by omega) (by omega) (va_up_eq _ _ _) (by omega)) (vGV q_879 q_881 q_17 q_29 q_882) ⟨by decide, by decide, (show _ = some 1 from by decide +kernel)⟩ ⟨Nat.le_of_ble_eq_true rfl, Nat.le_of_ble_eq_true rfl⟩ 0 4 rfl rfl rfl rfl (Nat.le_of_ble_eq_true rfl) dX4_readLine_108 ⟨Nat.zero_le _, Nat.zero_le _⟩ ?_
  refine vIfN_leT X 124 dX4_readLine_111 (by decide) (by omega) (by omega) ?_
  refine vAloadN X dX4_readLine_124 1 rfl ?_
  refine vIloadN X dX4_readLine_125 3 rfl ?_
  refine vIloadN X dX4_readLine_126 0 rfl ?_
  refine vCallVd X [] (mm_becomes l D k o pl sb B Ln Rm Rd (va_up Pl g (Pl g + n)) Mk G Sz (cpK Kp n (fun j => B a (Pl g + j))) (nI (0)) r n F (by omega) (by omega) hF hRm hRd) (vGV q_794 q_796 q_10 q_29 q_797) ⟨by decide, by decide, (show _ = some 2 from by decide +kernel)⟩ ⟨Nat.le_of_ble_eq_true rfl, Nat.le_of_ble_eq_true rfl⟩ 0 4 rfl rfl rfl rfl (Nat.le_of_ble_eq_true rfl) dX4_readLine_127 ⟨Nat.zero_le _, Nat.zero_le _⟩ ?_
  refine vIloadN X dX4_readLine_130 0 rfl ?_
  exact vRetI X hret dX4_readLine_131 ⟨rfl, by rw [cpB_K]⟩
set_option maxHeartbeats 4000000 in
set_option maxRecDepth 100000 in
theorem mm_readLine0c (l : Launch) (D : va_G) (k : Nat → ClassId) (o : Nat → Nat) (pl : va_W) (sb : Nat) (B : Nat → Nat → Int32) (Ln Rm : Nat → Nat) (Rd : Nat → Option Nat) (Pl Mk : Nat → Nat) (G : Nat → Nat → Int32) (Sz : Nat → Nat) (Kp : Nat → Int32) (th : Int32) (g a r n F : Nat) (hg : g < 3) (hgRd : Rd g = some a) (ha : a < 8) (hla : Ln a ≤ 256) (hpl : Pl g ≤ Ln a) (hr : r < 4) (hn : n ≤ Ln a - Pl g) (hnl : ∀ j, j < n → ¬ B a (Pl g + j) = nI 10) (he : n < Ln a - Pl g) (hb : B a (Pl g + n) = nI 10) (hF : mFree Rm Rd F) (hRm : ∀ r, r < 4 → Rm r < 8) (hRd : ∀ g, g < 3 → ∀ b, Rd g = some b → b < 8) : vCt l yX4_readLine cX4_readLine 4 (some .int) 2 47 0 0 D vCl (vTy k) sb [.ref (o 0), .int (nI (g)), .int (nI (r))] (mW k o pl B Ln Rm Rd Pl Mk G Sz Kp th) (vDet (some (.int (nI (n)))) (mW k o pl (cpB B F n (fun j => B a (Pl g + j))) (va_up Ln F n) (va_up Rm r F) Rd (va_up Pl g (Pl g + (n + 1))) Mk G Sz (cpK Kp n (fun j => B a (Pl g + j))) (nI 0))) := by
  refine vOf (by decide +kernel) (Nat.le_of_ble_eq_true rfl) (fun p9 e9 s9 m9 below9 meth9 c9 X hret _ => ?_)
  refine vAloadN X dX4_readLine_0 0 rfl ?_
  refine vAloadN X dX4_readLine_1 0 rfl ?_
  refine vIloadN X dX4_readLine_2 1 rfl ?_
  refine vCallVd X [.ref (o 0)] (mm_isOtherT l D k o pl sb B Ln Rm Rd Pl Mk G Sz Kp th g (by omega)) (vGV q_838 q_840 q_14 q_29 q_841) ⟨by decide, by decide, (show _ = some 1 from by decide +kernel)⟩ ⟨Nat.le_of_ble_eq_true rfl, Nat.le_of_ble_eq_true rfl⟩ 0 4 rfl rfl rfl rfl (Nat.le_of_ble_eq_true rfl) dX4_readLine_3 ⟨Nat.zero_le _, Nat.zero_le _⟩ ?_
  refine vIfN_eqF X 17 dX4_readLine_6 (by decide) (by omega) (by omega) ?_
  refine vAloadN X dX4_readLine_9 0 rfl ?_
  refine vIloadN X dX4_readLine_10 2 rfl ?_
  refine vCallVd X [.ref (o 0)] (mm_isRowT l D k o pl sb B Ln Rm Rd Pl Mk G Sz Kp th r (by omega)) (vGV q_782 q_784 q_7 q_29 q_785) ⟨by decide, by decide, (show _ = some 1 from by decide +kernel)⟩ ⟨Nat.le_of_ble_eq_true rfl, Nat.le_of_ble_eq_true rfl⟩ 0 4 rfl rfl rfl rfl (Nat.le_of_ble_eq_true rfl) dX4_readLine_11 ⟨Nat.zero_le _, Nat.zero_le _⟩ ?_
  refine vIfN_neT X 21 dX4_readLine_14 (by decide) (by omega) (by omega) ?_
  refine vAloadN X dX4_readLine_21 0 rfl ?_
  refine vGet X (C := RX4) (T := TX4) (N := 10) (ci := 4) (vcons inM) rfl 0 rfl 3 (by decide) (List.mem_cons_of_mem _ q_745) (fun _ h => h) rfl dX4_readLine_22 ?_
  refine vIloadN X dX4_readLine_25 1 rfl ?_
  refine vIaload X (v := nI (a)) 4 1 rfl rfl rfl (by omega) (by decide) (oI_some hgRd) dX4_readLine_26 ?_
  refine vIfN_geT X 34 dX4_readLine_27 (by decide) (by omega) (by omega) ?_
  refine vIconst X dX4_readLine_34 (v := nI (0)) (by decide) ?_
  refine vCallVd X [] (mm_isWrong0 l D k o pl sb B Ln Rm Rd Pl Mk G Sz Kp th ) (vGV q_786 q_788 q_8 q_29 q_789) ⟨by decide, by decide, (show _ = some 1 from by decide +kernel)⟩ ⟨Nat.le_of_ble_eq_true rfl, Nat.le_of_ble_eq_true rfl⟩ 0 4 rfl rfl rfl rfl (Nat.le_of_ble_eq_true rfl) dX4_readLine_35 ⟨Nat.zero_le _, Nat.zero_le _⟩ ?_
  refine vIfN_eqT X 43 dX4_readLine_38 (by decide) (by omega) (by omega) ?_
  refine vAloadN X dX4_readLine_43 0 rfl ?_
  refine vIloadN X dX4_readLine_44 1 rfl ?_
  refine vCallVd X [] (mm_leftOf l D k o pl sb B Ln Rm Rd Pl Mk G Sz Kp (nI (0)) g a (Pl (g)) (by omega) hgRd (by omega) (by omega) rfl (by omega)) (vGV q_879 q_881 q_17 q_29 q_882) ⟨by decide, by decide, (show _ = some 1 from by decide +kernel)⟩ ⟨Nat.le_of_ble_eq_true rfl, Nat.le_of_ble_eq_true rfl⟩ 0 4 rfl rfl rfl rfl (Nat.le_of_ble_eq_true rfl) dX4_readLine_45 ⟨Nat.zero_le _, Nat.zero_le _⟩ ?_
  refine vIfN_neT X 53 dX4_readLine_48 (by decide) (by omega) (by omega) ?_
  refine vIconst X dX4_readLine_53 (v := nI (0)) (by decide) ?_
  refine vIstoreN X [(3, .int (nI (0))), (0, .ref (o 0)), (1, .int (nI (g))), (2, .int (nI (r)))] dX4_readLine_54 (by decide) rfl ?_
  refine vSub [0, 1, 2, 3] [(3, .int (nI (0))), (0, .ref (o 0)), (1, .int (nI (g))), (2, .int (nI (r)))] rfl ?_
  refine mL_readLine D k o pl sb B Ln Rm Rd Pl Mk G Sz Kp (nI (0)) g a r n hg hgRd ha hla hpl hn hnl X ?_ (n) 0  (by omega)
  refine vIloadN X dX4_readLine_55 0 rfl ?_
  refine vAloadN X dX4_readLine_56 1 rfl ?_
  refine vIloadN X dX4_readLine_57 2 rfl ?_
  refine vCallVd X [.int (nI (n))] (mm_leftOf l D k o pl sb B Ln Rm Rd Pl Mk G Sz Kp (nI (0)) g a (Pl (g)) (by omega) hgRd (by omega) (by omega) rfl (by omega)) (vGV q_879 q_881 q_17 q_29 q_882) ⟨by decide, by decide, (show _ = some 1 from by decide +kernel)⟩ ⟨Nat.le_of_ble_eq_true rfl, Nat.le_of_ble_eq_true rfl⟩ 0 4 rfl rfl rfl rfl (Nat.le_of_ble_eq_true rfl) dX4_readLine_58 ⟨Nat.zero_le _, Nat.zero_le _⟩ ?_
  refine vIcmpN_geF X 99 dX4_readLine_61 (by decide) (by omega) (by omega) (by omega) ?_
  refine vAloadN X dX4_readLine_64 1 rfl ?_
  refine vGet X (C := RX4) (T := TX4) (N := 10) (ci := 4) (vcons inM) rfl 0 rfl 0 (by decide) (List.mem_cons_of_mem _ q_742) (fun _ h => h) rfl dX4_readLine_65 ?_
  refine vSipush X dX4_readLine_68 (v := nI (256)) (by decide) ?_
  refine vAloadN X dX4_readLine_71 1 rfl ?_
  refine vGet X (C := RX4) (T := TX4) (N := 10) (ci := 4) (vcons inM) rfl 0 rfl 3 (by decide) (List.mem_cons_of_mem _ q_745) (fun _ h => h) rfl dX4_readLine_72 ?_
  refine vIloadN X dX4_readLine_75 2 rfl ?_
  refine vIaload X (v := nI (a)) 4 1 rfl rfl rfl (by omega) (by decide) (oI_some hgRd) dX4_readLine_76 ?_
  refine vImul X dX4_readLine_77 (v := nI ((256) * (a))) (pk_mul _ _) ?_
  refine vAloadN X dX4_readLine_78 1 rfl ?_
  refine vGet X (C := RX4) (T := TX4) (N := 10) (ci := 4) (vcons inM) rfl 0 rfl 4 (by decide) (List.mem_cons_of_mem _ q_746) (fun _ h => h) rfl dX4_readLine_79 ?_
  refine vIloadN X dX4_readLine_82 2 rfl ?_
  refine vIaload X (v := nI (Pl (g))) 5 1 rfl rfl rfl (by omega) (by decide) rfl dX4_readLine_83 ?_
  refine vIadd X dX4_readLine_84 (v := nI (((256) * (a)) + (Pl (g)))) (nI_add _ _) ?_
  refine vIloadN X dX4_readLine_85 0 rfl ?_
  refine vIadd X dX4_readLine_86 (v := nI ((((256) * (a)) + (Pl (g))) + (n))) (nI_add _ _) ?_
  refine vIaload X (v := B (a) (Pl (g) + n)) 1 1 rfl rfl rfl (by omega) (by decide) (fl2_at _ (X := a) (Y := Pl (g) + n) (by omega) (by omega)) dX4_readLine_87 ?_
  refine vBipush X dX4_readLine_88 (v := nI (10)) (by decide) ?_
  refine vIcmp_eqT X 99 dX4_readLine_90 (by decide) (by simpa using hb) ?_
  refine vAloadN X dX4_readLine_99 1 rfl ?_
  refine vIloadN X dX4_readLine_100 2 rfl ?_
  refine vIloadN X dX4_readLine_101 0 rfl ?_
  refine vCallVd X [] (mm_keeps l D k o pl sb B Ln Rm Rd Pl Mk G Sz Kp (nI (0)) g a (n) n hg hgRd (by omega) (by omega) (by omega) (by omega) (by omega)) (vGV q_903 q_905 q_20 q_29 q_906) ⟨by decide, by decide, (show _ = some 2 from by decide +kernel)⟩ ⟨Nat.le_of_ble_eq_true rfl, Nat.le_of_ble_eq_true rfl⟩ 0 4 rfl rfl rfl rfl (Nat.le_of_ble_eq_true rfl) dX4_readLine_102 ⟨Nat.zero_le _, Nat.zero_le _⟩ ?_
  refine vPop X dX4_readLine_105 rfl ?_
  refine vAloadN X dX4_readLine_106 1 rfl ?_
  refine vIloadN X dX4_readLine_107 2 rfl ?_
  refine vCallVd X [] (mm_leftOf l D k o pl sb B Ln Rm Rd (va_up Pl g (Pl g + n)) Mk G Sz (cpK Kp n (fun j => B a (Pl g + j))) (nI (0)) g a (Pl g + n) (by omega) hgRd (by omega) (by omega) (va_up_eq _ _ _) (by omega)) (vGV q_879 q_881 q_17 q_29 q_882) ⟨by decide, by decide, (show _ = some 1 from by decide +kernel)⟩ ⟨Nat.le_of_ble_eq_true rfl, Nat.le_of_ble_eq_true rfl⟩ 0 4 rfl rfl rfl rfl (Nat.le_of_ble_eq_true rfl) dX4_readLine_108 ⟨Nat.zero_le _, Nat.zero_le _⟩ ?_
  refine vIfN_leF X 124 dX4_readLine_111 (by decide) (by omega) (by omega) ?_
  refine vAloadN X dX4_readLine_114 1 rfl ?_
  refine vGet X (C := RX4) (T := TX4) (N := 10) (ci := 4) (vcons inM) rfl 0 rfl 4 (by decide) (List.mem_cons_of_mem _ q_746) (fun _ h => h) rfl dX4_readLine_115 ?_
  refine vIloadN X dX4_readLine_118 2 rfl ?_
  refine vDup2 X dX4_readLine_119 rfl rfl ?_
  refine vIaload X (v := nI (Pl g + n)) 5 1 rfl rfl rfl (by omega) (by decide) (congrArg nI (va_up_eq _ _ _)) dX4_readLine_120 ?_
  refine vIconst X dX4_readLine_121 (v := nI (1)) (by decide) ?_
  refine vIadd X dX4_readLine_122 (v := nI ((Pl g + n) + (1))) (nI_add _ _) ?_
  refine vIastore X (g := (fun q => nI ((va_up (va_up Pl g (Pl g + n)) (g) ((Pl g + n) + (1))) q))) 5 1 rfl rfl rfl (by omega) (by decide) (nI_up _ _ _) dX4_readLine_123 ?_
  refine vWs (ws' := mW k o pl B Ln Rm Rd (va_up (va_up Pl g (Pl g + n)) (g) ((Pl g + n) + (1))) Mk G Sz (cpK Kp n (fun j => B a (Pl g + j))) (nI (0))) rfl ?_
  refine vAloadN X dX4_readLine_124 1 rfl ?_
  refine vIloadN X dX4_readLine_125 3 rfl ?_
  refine vIloadN X dX4_readLine_126 0 rfl ?_
  refine vCallVd X [] (mm_becomes l D k o pl sb B Ln Rm Rd (va_up (va_up Pl g (Pl g + n)) (g) ((Pl g + n) + (1))) Mk G Sz (cpK Kp n (fun j => B a (Pl g + j))) (nI (0)) r n F (by omega) (by omega) hF hRm hRd) (vGV q_794 q_796 q_10 q_29 q_797) ⟨by decide, by decide, (show _ = some 2 from by decide +kernel)⟩ ⟨Nat.le_of_ble_eq_true rfl, Nat.le_of_ble_eq_true rfl⟩ 0 4 rfl rfl rfl rfl (Nat.le_of_ble_eq_true rfl) dX4_readLine_127 ⟨Nat.zero_le _, Nat.zero_le _⟩ ?_
  refine vIloadN X dX4_readLine_130 0 rfl ?_
  exact vRetI X hret dX4_readLine_131 ⟨rfl, by rw [cpB_K, va_up_up]; rfl⟩
