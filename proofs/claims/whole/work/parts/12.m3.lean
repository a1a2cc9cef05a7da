set_option maxHeartbeats 4000000 in
set_option maxRecDepth 100000 in
theorem mm_free (l : Launch) (D : va_G) (k : Nat → ClassId) (o : Nat → Nat) (pl : va_W) (sb : Nat) (B : Nat → Nat → Int32) (Ln Rm : Nat → Nat) (Rd : Nat → Option Nat) (Pl Mk : Nat → Nat) (G : Nat → Nat → Int32) (Sz : Nat → Nat) (Kp : Nat → Int32) (th : Int32) (F : Nat) (hF : mFree Rm Rd F) (hRm : ∀ r, r < 4 → Rm r < 8) (hRd : ∀ g, g < 3 → ∀ b, Rd g = some b → b < 8) : vCt l yX4_free cX4_free 4 (some .int) 0 0 0 0 D vCl (vTy k) sb [.ref (o 0)] (mW k o pl B Ln Rm Rd Pl Mk G Sz Kp th) (vDet (some (.int (nI (F)))) (mW k o pl B Ln Rm Rd Pl Mk G Sz Kp th)) := by
  have hF8 := hF.1
  refine vOf (by decide +kernel) (Nat.le_of_ble_eq_true rfl) (fun p9 e9 s9 m9 below9 meth9 c9 X hret _ => ?_)
  refine vIconst X dX4_free_0 (v := nI (0)) (by decide) ?_
  refine vIstoreN X [(1, .int (nI (0))), (0, .ref (o 0))] dX4_free_1 (by decide) rfl ?_
  refine vSub [0, 1] [(1, .int (nI (0))), (0, .ref (o 0))] rfl ?_
  refine mL_free D k o pl sb B Ln Rm Rd Pl Mk G Sz Kp th F hF hRm hRd X ?_ (F) 0  (by omega)
  refine vIloadN X dX4_free_76 0 rfl ?_
  exact vRetI X hret dX4_free_77 ⟨rfl, rfl⟩
set_option maxHeartbeats 4000000 in
set_option maxRecDepth 100000 in
theorem mm_becomes (l : Launch) (D : va_G) (k : Nat → ClassId) (o : Nat → Nat) (pl : va_W) (sb : Nat) (B : Nat → Nat → Int32) (Ln Rm : Nat → Nat) (Rd : Nat → Option Nat) (Pl Mk : Nat → Nat) (G : Nat → Nat → Int32) (Sz : Nat → Nat) (Kp : Nat → Int32) (th : Int32) (r n F : Nat) (hr : r < 4) (hn : n ≤ 256) (hF : mFree Rm Rd F) (hRm : ∀ r, r < 4 → Rm r < 8) (hRd : ∀ g, g < 3 → ∀ b, Rd g = some b → b < 8) : vCt l yX4_becomes cX4_becomes 5 none 1 23 0 0 D vCl (vTy k) sb [.ref (o 0), .int (nI (r)), .int (nI (n))] (mW k o pl B Ln Rm Rd Pl Mk G Sz Kp th) (vDet none (mW k o pl (cpB B F n Kp) (va_up Ln (F) (n)) (va_up Rm (r) (F)) Rd Pl Mk G Sz Kp th)) := by
  have hF8 := hF.1
  refine vOf (by decide +kernel) (Nat.le_of_ble_eq_true rfl) (fun p9 e9 s9 m9 below9 meth9 c9 X hret _ => ?_)
  refine vAloadN X dX4_becomes_0 0 rfl ?_
  refine vCallVd X [] (mm_free l D k o pl sb B Ln Rm Rd Pl Mk G Sz Kp th F hF hRm hRd) (vGV q_798 q_800 q_11 q_29 q_801) ⟨by decide, by decide, (show _ = some 0 from by decide +kernel)⟩ ⟨Nat.le_of_ble_eq_true rfl, Nat.le_of_ble_eq_true rfl⟩ 0 4 rfl rfl rfl rfl (Nat.le_of_ble_eq_true rfl) dX4_becomes_1 ⟨Nat.zero_le _, Nat.zero_le _⟩ ?_
  refine vIstoreN X [(3, .int (nI (F))), (0, .ref (o 0)), (1, .int (nI (r))), (2, .int (nI (n)))] dX4_becomes_4 (by decide) rfl ?_
  refine vIconst X dX4_becomes_5 (v := nI (0)) (by decide) ?_
  refine vIstore X [(4, .int (nI (0))), (3, .int (nI (F))), (0, .ref (o 0)), (1, .int (nI (r))), (2, .int (nI (n)))] dX4_becomes_6 (by decide) rfl ?_
  refine vSub [0, 1, 2, 3, 4] [(4, .int (nI (0))), (3, .int (nI (F))), (0, .ref (o 0)), (1, .int (nI (r))), (2, .int (nI (n)))] rfl ?_
  refine mL_becomes D k o pl sb B Ln Rm Rd Pl Mk G Sz Kp th r n F hF8 hn X ?_ (n) 0 _ (by omega) (cpB_0 _ _ _)
  refine vAloadN X dX4_becomes_40 2 rfl ?_
  refine vGet X (C := RX4) (T := TX4) (N := 10) (ci := 4) (vcons inM) rfl 0 rfl 1 (by decide) (List.mem_cons_of_mem _ q_743) (fun _ h => h) rfl dX4_becomes_41 ?_
  refine vIloadN X dX4_becomes_44 1 rfl ?_
  refine vIloadN X dX4_becomes_45 4 rfl ?_
  refine vIastore X (g := (fun q => nI ((va_up Ln (F) (n)) q))) 2 1 rfl rfl rfl (by omega) (by decide) (nI_up _ _ _) dX4_becomes_46 ?_
  refine vWs (ws' := mW k o pl (cpB B F n Kp) (va_up Ln (F) (n)) Rm Rd Pl Mk G Sz Kp th) rfl ?_
  refine vAloadN X dX4_becomes_47 2 rfl ?_
  refine vGet X (C := RX4) (T := TX4) (N := 10) (ci := 4) (vcons inM) rfl 0 rfl 2 (by decide) (List.mem_cons_of_mem _ q_744) (fun _ h => h) rfl dX4_becomes_48 ?_
  refine vIloadN X dX4_becomes_51 3 rfl ?_
  refine vIloadN X dX4_becomes_52 1 rfl ?_
  refine vIastore X (g := (fun q => nI ((va_up Rm (r) (F)) q))) 3 1 rfl rfl rfl (by omega) (by decide) (nI_up _ _ _) dX4_becomes_53 ?_
  refine vWs (ws' := mW k o pl (cpB B F n Kp) (va_up Ln (F) (n)) (va_up Rm (r) (F)) Rd Pl Mk G Sz Kp th) rfl ?_
  exact vRetV X hret dX4_becomes_54 ⟨rfl, rfl⟩
set_option maxHeartbeats 4000000 in
set_option maxRecDepth 100000 in
theorem mm_make1 (l : Launch) (D : va_G) (k : Nat → ClassId) (o : Nat → Nat) (pl : va_W) (sb : Nat) (B : Nat → Nat → Int32) (Ln Rm : Nat → Nat) (Rd : Nat → Option Nat) (Pl Mk : Nat → Nat) (G : Nat → Nat → Int32) (Sz : Nat → Nat) (Kp : Nat → Int32) (th : Int32) (x y : Int32) (hx : ¬ vRow x) : vCt l yX4_make cX4_make 5 (some .int) 2 47 0 0 D vCl (vTy k) sb [.ref (o 0), .int (x), .int (y)] (mW k o pl B Ln Rm Rd Pl Mk G Sz Kp th) (vDet (some (.int (nI (0)))) (mW k o pl B Ln Rm Rd Pl Mk G Sz Kp (nI (1)))) := by
  refine vOf (by decide +kernel) (Nat.le_of_ble_eq_true rfl) (fun p9 e9 s9 m9 below9 meth9 c9 X hret _ => ?_)
  refine vAloadN X dX4_make_0 0 rfl ?_
  refine vAloadN X dX4_make_1 0 rfl ?_
  refine vIloadN X dX4_make_2 1 rfl ?_
  refine vCallVd X [.ref (o 0)] (mm_isRowF l D k o pl sb B Ln Rm Rd Pl Mk G Sz Kp th x hx) (vGV q_782 q_784 q_7 q_29 q_785) ⟨by decide, by decide, (show _ = some 1 from by decide +kernel)⟩ ⟨Nat.le_of_ble_eq_true rfl, Nat.le_of_ble_eq_true rfl⟩ 0 4 rfl rfl rfl rfl (Nat.le_of_ble_eq_true rfl) dX4_make_3 ⟨Nat.zero_le _, Nat.zero_le _⟩ ?_
  refine vIfN_neF X 13 dX4_make_6 (by decide) (by omega) (by omega) ?_
  refine vIconst X dX4_make_9 (v := nI (1)) (by decide) ?_
  refine vGoto X 29 dX4_make_10 (by decide) ?_
  refine vCallVd X [] (mm_isWrong1 l D k o pl sb B Ln Rm Rd Pl Mk G Sz Kp th 1 (by decide) (by decide)) (vGV q_786 q_788 q_8 q_29 q_789) ⟨by decide, by decide, (show _ = some 1 from by decide +kernel)⟩ ⟨Nat.le_of_ble_eq_true rfl, Nat.le_of_ble_eq_true rfl⟩ 0 4 rfl rfl rfl rfl (Nat.le_of_ble_eq_true rfl) dX4_make_29 ⟨Nat.zero_le _, Nat.zero_le _⟩ ?_
  refine vIfN_eqF X 37 dX4_make_32 (by decide) (by omega) (by omega) ?_
  refine vIconst X dX4_make_35 (v := nI (0)) (by decide) ?_
  exact vRetI X hret dX4_make_36 ⟨rfl, rfl⟩
set_option maxHeartbeats 4000000 in
set_option maxRecDepth 100000 in
theorem mm_make2a (l : Launch) (D : va_G) (k : Nat → ClassId) (o : Nat → Nat) (pl : va_W) (sb : Nat) (B : Nat → Nat → Int32) (Ln Rm : Nat → Nat) (Rd : Nat → Option Nat) (Pl Mk : Nat → Nat) (G : Nat → Nat → Int32) (Sz : Nat → Nat) (Kp : Nat → Int32) (th : Int32) (r : Nat) (y : Int32) (hr : r < 4) (hy : y < nI 0) : vCt l yX4_make cX4_make 5 (some .int) 2 47 0 0 D vCl (vTy k) sb [.ref (o 0), .int (nI (r)), .int (y)] (mW k o pl B Ln Rm Rd Pl Mk G Sz Kp th) (vDet (some (.int (nI (0)))) (mW k o pl B Ln Rm Rd Pl Mk G Sz Kp (nI (2)))) := by
  refine vOf (by decide +kernel) (Nat.le_of_ble_eq_true rfl) (fun p9 e9 s9 m9 below9 meth9 c9 X hret _ => ?_)
  refine vAloadN X dX4_make_0 0 rfl ?_
  refine vAloadN X dX4_make_1 0 rfl ?_
  refine vIloadN X dX4_make_2 1 rfl ?_
  refine vCallVd X [.ref (o 0)] (mm_isRowT l D k o pl sb B Ln Rm Rd Pl Mk G Sz Kp th r (by omega)) (vGV q_782 q_784 q_7 q_29 q_785) ⟨by decide, by decide, (show _ = some 1 from by decide +kernel)⟩ ⟨Nat.le_of_ble_eq_true rfl, Nat.le_of_ble_eq_true rfl⟩ 0 4 rfl rfl rfl rfl (Nat.le_of_ble_eq_true rfl) dX4_make_3 ⟨Nat.zero_le _, Nat.zero_le _⟩ ?_
  refine vIfN_neT X 13 dX4_make_6 (by decide) (by omega) (by omega) ?_
  refine vIloadN X dX4_make_13 2 rfl ?_
  refine vIf_ltT X 24 dX4_make_14 (by decide) (by first | assumption | exact Int32.not_lt.mpr (by assumption) | exact Int32.not_le.mpr (by assumption) | exact Int32.not_lt.mp (by assumption) | exact Int32.not_le.mp (by assumption) | decide) ?_
  refine vIconst X dX4_make_24 (v := nI (2)) (by decide) ?_
  refine vGoto X 29 dX4_make_25 (by decide) ?_
  refine vCallVd X [] (mm_isWrong1 l D k o pl sb B Ln Rm Rd Pl Mk G Sz Kp th 2 (by decide) (by decide)) (vGV q_786 q_788 q_8 q_29 q_789) ⟨by decide, by decide, (show _ = some 1 from by decide +kernel)⟩ ⟨Nat.le_of_ble_eq_true rfl, Nat.le_of_ble_eq_true rfl⟩ 0 4 rfl rfl rfl rfl (Nat.le_of_ble_eq_true rfl) dX4_make_29 ⟨Nat.zero_le _, Nat.zero_le _⟩ ?_
  refine vIfN_eqF X 37 dX4_make_32 (by decide) (by omega) (by omega) ?_
  refine vIconst X dX4_make_35 (v := nI (0)) (by decide) ?_
  exact vRetI X hret dX4_make_36 ⟨rfl, rfl⟩
set_option maxHeartbeats 4000000 in
set_option maxRecDepth 100000 in
theorem mm_make2b (l : Launch) (D : va_G) (k : Nat → ClassId) (o : Nat → Nat) (pl : va_W) (sb : Nat) (B : Nat → Nat → Int32) (Ln Rm : Nat → Nat) (Rd : Nat → Option Nat) (Pl Mk : Nat → Nat) (G : Nat → Nat → Int32) (Sz : Nat → Nat) (Kp : Nat → Int32) (th : Int32) (r : Nat) (y : Int32) (hr : r < 4) (hy0 : nI 0 ≤ y) (hy : nI 256 < y) : vCt l yX4_make cX4_make 5 (some .int) 2 47 0 0 D vCl (vTy k) sb [.ref (o 0), .int (nI (r)), .int (y)] (mW k o pl B Ln Rm Rd Pl Mk G Sz Kp th) (vDet (some (.int (nI (0)))) (mW k o pl B Ln Rm Rd Pl Mk G Sz Kp (nI (2)))) := by
  refine vOf (by decide +kernel) (Nat.le_of_ble_eq_true rfl) (fun p9 e9 s9 m9 below9 meth9 c9 X hret _ => ?_)
  refine vAloadN X dX4_make_0 0 rfl ?_
  refine vAloadN X dX4_make_1 0 rfl ?_
  refine vIloadN X dX4_make_2 1 rfl ?_
  refine vCallVd X [.ref (o 0)] (mm_isRowT l D k o pl sb B Ln Rm Rd Pl Mk G Sz Kp th r (by omega)) (vGV q_782 q_784 q_7 q_29 q_785) ⟨by decide, by decide, (show _ = some 1 from by decide +kernel)⟩ ⟨Nat.le_of_ble_eq_true rfl, Nat.le_of_ble_eq_true rfl⟩ 0 4 rfl rfl rfl rfl (Nat.le_of_ble_eq_true rfl) dX4_make_3 ⟨Nat.zero_le _, Nat.zero_le _⟩ ?_
  refine vIfN_neT X 13 dX4_make_6 (by decide) (by omega) (by omega) ?_
  refine vIloadN X dX4_make_13 2 rfl ?_
  refine vIf_ltF X 24 dX4_make_14 (by decide) (by first | assumption | exact Int32.not_lt.mpr (by assumption) | exact Int32.not_le.mpr (by assumption) | exact Int32.not_lt.mp (by assumption) | exact Int32.not_le.mp (by assumption) | decide) ?_
  refine vIloadN X dX4_make_17 2 rfl ?_
  refine vSipush X dX4_make_18 (v := nI (256)) (by decide) ?_
  refine vIcmp_leF X 28 dX4_make_21 (by decide) (by first | assumption | exact Int32.not_lt.mpr (by assumption) | exact Int32.not_le.mpr (by assumption) | exact Int32.not_lt.mp (by assumption) | exact Int32.not_le.mp (by assumption) | decide) ?_
  refine vIconst X dX4_make_24 (v := nI (2)) (by decide) ?_
  refine vGoto X 29 dX4_make_25 (by decide) ?_
  refine vCallVd X [] (mm_isWrong1 l D k o pl sb B Ln Rm Rd Pl Mk G Sz Kp th 2 (by decide) (by decide)) (vGV q_786 q_788 q_8 q_29 q_789) ⟨by decide, by decide, (show _ = some 1 from by decide +kernel)⟩ ⟨Nat.le_of_ble_eq_true rfl, Nat.le_of_ble_eq_true rfl⟩ 0 4 rfl rfl rfl rfl (Nat.le_of_ble_eq_true rfl) dX4_make_29 ⟨Nat.zero_le _, Nat.zero_le _⟩ ?_
  refine vIfN_eqF X 37 dX4_make_32 (by decide) (by omega) (by omega) ?_
  refine vIconst X dX4_make_35 (v := nI (0)) (by decide) ?_
  exact vRetI X hret dX4_make_36 ⟨rfl, rfl⟩
def zK (Kp : Nat → Int32) (i : Nat) : Nat → Int32 := fun j => if j < i then nI 0 else Kp j
theorem zK_0 (Kp : Nat → Int32) : Kp = zK Kp 0 := by funext j; simp [zK]
theorem zK_1 (Kp : Nat → Int32) (i : Nat) : upd (zK Kp i) i (nI 0) = zK Kp (i + 1) := by
  funext j
  simp only [upd, zK]
  by_cases h : j = i
  · simp [h]
  · have : (j < i + 1) = (j < i) := by simp only [eq_iff_iff]; omega
    simp [h, this]
-- make
set_option maxHeartbeats 4000000 in
set_option maxRecDepth 100000 in
theorem mL_make {p9 : Program} {l : Launch} {e9 : Env} {s9 : State} {m9 : MethodId} {args9 : Array Value} {below9 : List Frame} {meth9 : Method} {c9 : Code} {Q9 : State → Prop} (D : va_G) (k : Nat → ClassId) (o : Nat → Nat) (pl : va_W) (sb : Nat) (B : Nat → Nat → Int32) (Ln Rm : Nat → Nat) (Rd : Nat → Option Nat) (Pl Mk : Nat → Nat) (G : Nat → Nat → Int32) (Sz : Nat → Nat) (Kp : Nat → Int32) (th : Int32) (r n : Nat) (q : Int32) (hn : n ≤ 256) (X : vCX p9 s9 m9 args9 meth9 c9 cX4_make 5 yX4_make.cls (Cond.code yX4_make cX4_make 5 (some .int) :: vGW) D vCl (vTy k) sb) (hex : vV p9 l e9 ({ frames := 2, cells := 0, slots := 0, locals := 47 }) s9 m9 args9 below9 meth9 c9 5 D vCl sb Q9 (mW k o pl B Ln Rm Rd Pl Mk G Sz (zK Kp n) th) 0 0 66 [(3, .int (q)), (0, .ref (o 0)), (1, .int (nI (r))), (2, .int (nI (n)))] []) : ∀ (z i : Nat) (K1 : Nat → Int32), i + z = n → K1 = zK Kp i → vV p9 l e9 ({ frames := 2, cells := 0, slots := 0, locals := 47 }) s9 m9 args9 below9 meth9 c9 5 D vCl sb Q9 (mW k o pl B Ln Rm Rd Pl Mk G Sz K1 th) 0 0 46 [(4, .int (nI (i))), (3, .int (q)), (0, .ref (o 0)), (1, .int (nI (r))), (2, .int (nI (n)))] [] := by
  intro z
  induction z with
  | zero =>
    intro i K1 hi hK1
    have hin : n = i := by omega
    subst hin
    subst hK1
    refine vIload X dX4_make_46 0 rfl ?_
    refine vIloadN X dX4_make_48 4 rfl ?_
    refine vIcmpN_geT X 66 dX4_make_49 (by decide) (by omega) (by omega) (by omega) ?_
    refine vSub [1, 2, 3, 4] [(3, .int (q)), (0, .ref (o 0)), (1, .int (nI (r))), (2, .int (nI (n)))] rfl ?_
    exact hex
  | succ z ih =>
    intro i K1 hi hK1
    refine vIload X dX4_make_46 0 rfl ?_
    refine vIloadN X dX4_make_48 4 rfl ?_
    refine vIcmpN_geF X 66 dX4_make_49 (by decide) (by omega) (by omega) (by omega) ?_
    refine vAloadN X dX4_make_52 2 rfl ?_
    refine vGet X (C := RX4) (T := TX4) (N := 10) (ci := 4) (vcons inM) rfl 0 rfl 8 (by decide) (List.mem_cons_of_mem _ q_750) (fun _ h => h) rfl dX4_make_53 ?_
    refine vIload X dX4_make_56 0 rfl ?_
    refine vIconst X dX4_make_58 (v := nI (0)) (by decide) ?_
    refine vIastore X (g := upd K1 (i) (nI (0))) 9 1 rfl rfl rfl (by omega) (by decide) rfl dX4_make_59 ?_
    refine vWs (ws' := mW k o pl B Ln Rm Rd Pl Mk G Sz (upd K1 (i) (nI (0))) th) rfl ?_
    refine vIinc X [(4, .int (nI (i + 1))), (3, .int (q)), (0, .ref (o 0)), (1, .int (nI (r))), (2, .int (nI (n)))] dX4_make_60 0 rfl (nI_inc _) (by decide) rfl ?_
    refine vGoto X 46 dX4_make_63 (by decide) ?_
    refine vSub [0, 1, 2, 3, 4] [(4, .int (nI (i + 1))), (3, .int (q)), (0, .ref (o 0)), (1, .int (nI (r))), (2, .int (nI (n)))] rfl ?_
    exact ih (i + 1) _ (by omega) (by rw [hK1]; exact zK_1 _ _)
set_option maxHeartbeats 4000000 in
set_option maxRecDepth 100000 in
theorem mm_make0 (l : Launch) (D : va_G) (k : Nat → ClassId) (o : Nat → Nat) (pl : va_W) (sb : Nat) (B : Nat → Nat → Int32) (Ln Rm : Nat → Nat) (Rd : Nat → Option Nat) (Pl Mk : Nat → Nat) (G : Nat → Nat → Int32) (Sz : Nat → Nat) (Kp : Nat → Int32) (th : Int32) (r n F : Nat) (hr : r < 4) (hn : n ≤ 256) (hF : mFree Rm Rd F) (hRm : ∀ r, r < 4 → Rm r < 8) (hRd : ∀ g, g < 3 → ∀ b, Rd g = some b → b < 8) : vCt l yX4_make cX4_make 5 (some .int) 2 47 0 0 D vCl (vTy k) sb [.ref (o 0), .int (nI (r)), .int (nI (n))] (mW k o pl B Ln Rm Rd Pl Mk G Sz Kp th) (vDet (some (.int (nI (Ln (Rm r))))) (mW k o pl (cpB B F n (zK Kp n)) (va_up Ln F n) (va_up Rm r F) Rd Pl Mk G Sz (zK Kp n) (nI (0)))) := by
  have hRr := hRm r hr
  refine vOf (by decide +kernel) (Nat.le_of_ble_eq_true rfl) (fun p9 e9 s9 m9 below9 meth9 c9 X hret _ => ?_)
  refine vAloadN X dX4_make_0 0 rfl ?_
  refine vAloadN X dX4_make_1 0 rfl ?_
  refine vIloadN X dX4_make_2 1 rfl ?_
  refine vCallVd X [.ref (o 0)] (mm_isRowT l D k o pl sb B Ln Rm Rd Pl Mk G Sz Kp th r (by omega)) (vGV q_782 q_784 q_7 q_29 q_785) ⟨by decide, by decide, (show _ = some 1 from by decide +kernel)⟩ ⟨Nat.le_of_ble_eq_true rfl, Nat.le_of_ble_eq_true rfl⟩ 0 4 rfl rfl rfl rfl (Nat.le_of_ble_eq_true rfl) dX4_make_3 ⟨Nat.zero_le _, Nat.zero_le _⟩ ?_
  refine vIfN_neT X 13 dX4_make_6 (by decide) (by omega) (by omega) ?_
  refine vIloadN X dX4_make_13 2 rfl ?_
  refine vIfN_ltF X 24 dX4_make_14 (by decide) (by omega) (by omega) ?_
  refine vIloadN X dX4_make_17 2 rfl ?_
  refine vSipush X dX4_make_18 (v := nI (256)) (by decide) ?_
  refine vIcmpN_leT X 28 dX4_make_21 (by decide) (by omega) (by omega) (by omega) ?_
  refine vIconst X dX4_make_28 (v := nI (0)) (by decide) ?_
  refine vCallVd X [] (mm_isWrong0 l D k o pl sb B Ln Rm Rd Pl Mk G Sz Kp th ) (vGV q_786 q_788 q_8 q_29 q_789) ⟨by decide, by decide, (show _ = some 1 from by decide +kernel)⟩ ⟨Nat.le_of_ble_eq_true rfl, Nat.le_of_ble_eq_true rfl⟩ 0 4 rfl rfl rfl rfl (Nat.le_of_ble_eq_true rfl) dX4_make_29 ⟨Nat.zero_le _, Nat.zero_le _⟩ ?_
  refine vIfN_eqT X 37 dX4_make_32 (by decide) (by omega) (by omega) ?_
  refine vAloadN X dX4_make_37 0 rfl ?_
  refine vIloadN X dX4_make_38 1 rfl ?_
  refine vCallVd X [] (mm_long0 l D k o pl sb B Ln Rm Rd Pl Mk G Sz Kp (nI (0)) r (by omega) (by omega)) (vGV q_790 q_792 q_9 q_29 q_793) ⟨by decide, by decide, (show _ = some 1 from by decide +kernel)⟩ ⟨Nat.le_of_ble_eq_true rfl, Nat.le_of_ble_eq_true rfl⟩ 0 4 rfl rfl rfl rfl (Nat.le_of_ble_eq_true rfl) dX4_make_39 ⟨Nat.zero_le _, Nat.zero_le _⟩ ?_
  refine vIstoreN X [(3, .int (nI (Ln (Rm r)))), (0, .ref (o 0)), (1, .int (nI (r))), (2, .int (nI (n)))] dX4_make_42 (by decide) rfl ?_
  refine vIconst X dX4_make_43 (v := nI (0)) (by decide) ?_
  refine vIstore X [(4, .int (nI (0))), (3, .int (nI (Ln (Rm r)))), (0, .ref (o 0)), (1, .int (nI (r))), (2, .int (nI (n)))] dX4_make_44 (by decide) rfl ?_
  refine vSub [0, 1, 2, 3, 4] [(4, .int (nI (0))), (3, .int (nI (Ln (Rm r)))), (0, .ref (o 0)), (1, .int (nI (r))), (2, .int (nI (n)))] rfl ?_
  refine mL_make D k o pl sb B Ln Rm Rd Pl Mk G Sz Kp (nI (0)) r n (nI (Ln (Rm r))) hn X ?_ (n) 0 _ (by omega) (zK_0 _)
  refine vAloadN X dX4_make_66 1 rfl ?_
  refine vIloadN X dX4_make_67 2 rfl ?_
  refine vIloadN X dX4_make_68 3 rfl ?_
  refine vCallVd X [] (mm_becomes l D k o pl sb B Ln Rm Rd Pl Mk G Sz (zK Kp n) (nI (0)) r n F (by omega) (by omega) hF hRm hRd) (vGV q_794 q_796 q_10 q_29 q_797) ⟨by decide, by decide, (show _ = some 2 from by decide +kernel)⟩ ⟨Nat.le_of_ble_eq_true rfl, Nat.le_of_ble_eq_true rfl⟩ 0 4 rfl rfl rfl rfl (Nat.le_of_ble_eq_true rfl) dX4_make_69 ⟨Nat.zero_le _, Nat.zero_le _⟩ ?_
  refine vIloadN X dX4_make_72 0 rfl ?_
  exact vRetI X hret dX4_make_73 ⟨rfl, rfl⟩
set_option maxHeartbeats 4000000 in
set_option maxRecDepth 100000 in
theorem mm_lend1a (l : Launch) (D : va_G) (k : Nat → ClassId) (o : Nat → Nat) (pl : va_W) (sb : Nat) (B : Nat → Nat → Int32) (Ln Rm : Nat → Nat) (Rd : Nat → Option Nat) (Pl Mk : Nat → Nat) (G : Nat → Nat → Int32) (Sz : Nat → Nat) (Kp : Nat → Int32) (th : Int32) (x y : Int32) (hx : ¬ vRow x) : vCt l yX4_lend cX4_lend 4 (some .int) 1 21 0 0 D vCl (vTy k) sb [.ref (o 0), .int (x), .int (y)] (mW k o pl B Ln Rm Rd Pl Mk G Sz Kp th) (vDet (some (.int (nI (0)))) (mW k o pl B Ln Rm Rd Pl Mk G Sz Kp (nI (1)))) := by
  refine vOf (by decide +kernel) (Nat.le_of_ble_eq_true rfl) (fun p9 e9 s9 m9 below9 meth9 c9 X hret _ => ?_)
  refine vAloadN X dX4_lend_0 0 rfl ?_
  refine vAloadN X dX4_lend_1 0 rfl ?_
  refine vIloadN X dX4_lend_2 1 rfl ?_
  refine vCallVd X [.ref (o 0)] (mm_isRowF l D k o pl sb B Ln Rm Rd Pl Mk G Sz Kp th x hx) (vGV q_782 q_784 q_7 q_29 q_785) ⟨by decide, by decide, (show _ = some 1 from by decide +kernel)⟩ ⟨Nat.le_of_ble_eq_true rfl, Nat.le_of_ble_eq_true rfl⟩ 0 4 rfl rfl rfl rfl (Nat.le_of_ble_eq_true rfl) dX4_lend_3 ⟨Nat.zero_le _, Nat.zero_le _⟩ ?_
  refine vIfN_eqT X 21 dX4_lend_6 (by decide) (by omega) (by omega) ?_
  refine vIconst X dX4_lend_21 (v := nI (1)) (by decide) ?_
  refine vCallVd X [] (mm_isWrong1 l D k o pl sb B Ln Rm Rd Pl Mk G Sz Kp th 1 (by decide) (by decide)) (vGV q_786 q_788 q_8 q_29 q_789) ⟨by decide, by decide, (show _ = some 1 from by decide +kernel)⟩ ⟨Nat.le_of_ble_eq_true rfl, Nat.le_of_ble_eq_true rfl⟩ 0 4 rfl rfl rfl rfl (Nat.le_of_ble_eq_true rfl) dX4_lend_22 ⟨Nat.zero_le _, Nat.zero_le _⟩ ?_
  refine vIfN_eqF X 30 dX4_lend_25 (by decide) (by omega) (by omega) ?_
  refine vIconst X dX4_lend_28 (v := nI (0)) (by decide) ?_
  exact vRetI X hret dX4_lend_29 ⟨rfl, rfl⟩
set_option maxHeartbeats 4000000 in
set_option maxRecDepth 100000 in
theorem mm_lend1b (l : Launch) (D : va_G) (k : Nat → ClassId) (o : Nat → Nat) (pl : va_W) (sb : Nat) (B : Nat → Nat → Int32) (Ln Rm : Nat → Nat) (Rd : Nat → Option Nat) (Pl Mk : Nat → Nat) (G : Nat → Nat → Int32) (Sz : Nat → Nat) (Kp : Nat → Int32) (th : Int32) (r : Nat) (y : Int32) (hr : r < 4) (hy : ¬ vRow y) : vCt l yX4_lend cX4_lend 4 (some .int) 1 21 0 0 D vCl (vTy k) sb [.ref (o 0), .int (nI (r)), .int (y)] (mW k o pl B Ln Rm Rd Pl Mk G Sz Kp th) (vDet (some (.int (nI (0)))) (mW k o pl B Ln Rm Rd Pl Mk G Sz Kp (nI (1)))) := by
  refine vOf (by decide +kernel) (Nat.le_of_ble_eq_true rfl) (fun p9 e9 s9 m9 below9 meth9 c9 X hret _ => ?_)
  refine vAloadN X dX4_lend_0 0 rfl ?_
  refine vAloadN X dX4_lend_1 0 rfl ?_
  refine vIloadN X dX4_lend_2 1 rfl ?_
  refine vCallVd X [.ref (o 0)] (mm_isRowT l D k o pl sb B Ln Rm Rd Pl Mk G Sz Kp th r (by omega)) (vGV q_782 q_784 q_7 q_29 q_785) ⟨by decide, by decide, (show _ = some 1 from by decide +kernel)⟩ ⟨Nat.le_of_ble_eq_true rfl, Nat.le_of_ble_eq_true rfl⟩ 0 4 rfl rfl rfl rfl (Nat.le_of_ble_eq_true rfl) dX4_lend_3 ⟨Nat.zero_le _, Nat.zero_le _⟩ ?_
  refine vIfN_eqF X 21 dX4_lend_6 (by decide) (by omega) (by omega) ?_
  refine vAloadN X dX4_lend_9 0 rfl ?_
  refine vIloadN X dX4_lend_10 2 rfl ?_
  refine vCallVd X [.ref (o 0)] (mm_isRowF l D k o pl sb B Ln Rm Rd Pl Mk G Sz Kp th y hy) (vGV q_782 q_784 q_7 q_29 q_785) ⟨by decide, by decide, (show _ = some 1 from by decide +kernel)⟩ ⟨Nat.le_of_ble_eq_true rfl, Nat.le_of_ble_eq_true rfl⟩ 0 4 rfl rfl rfl rfl (Nat.le_of_ble_eq_true rfl) dX4_lend_11 ⟨Nat.zero_le _, Nat.zero_le _⟩ ?_
  refine vIfN_eqT X 21 dX4_lend_14 (by decide) (by omega) (by omega) ?_
  refine vIconst X dX4_lend_21 (v := nI (1)) (by decide) ?_
  refine vCallVd X [] (mm_isWrong1 l D k o pl sb B Ln Rm Rd Pl Mk G Sz Kp th 1 (by decide) (by decide)) (vGV q_786 q_788 q_8 q_29 q_789) ⟨by decide, by decide, (show _ = some 1 from by decide +kernel)⟩ ⟨Nat.le_of_ble_eq_true rfl, Nat.le_of_ble_eq_true rfl⟩ 0 4 rfl rfl rfl rfl (Nat.le_of_ble_eq_true rfl) dX4_lend_22 ⟨Nat.zero_le _, Nat.zero_le _⟩ ?_
  refine vIfN_eqF X 30 dX4_lend_25 (by decide) (by omega) (by omega) ?_
  refine vIconst X dX4_lend_28 (v := nI (0)) (by decide) ?_
  exact vRetI X hret dX4_lend_29 ⟨rfl, rfl⟩
set_option maxHeartbeats 4000000 in
set_option maxRecDepth 100000 in
theorem mm_lend0 (l : Launch) (D : va_G) (k : Nat → ClassId) (o : Nat → Nat) (pl : va_W) (sb : Nat) (B : Nat → Nat → Int32) (Ln Rm : Nat → Nat) (Rd : Nat → Option Nat) (Pl Mk : Nat → Nat) (G : Nat → Nat → Int32) (Sz : Nat → Nat) (Kp : Nat → Int32) (th : Int32) (r u : Nat) (hr : r < 4) (hu : u < 4) (hRm : ∀ r, r < 4 → Rm r < 8) : vCt l yX4_lend cX4_lend 4 (some .int) 1 21 0 0 D vCl (vTy k) sb [.ref (o 0), .int (nI (r)), .int (nI (u))] (mW k o pl B Ln Rm Rd Pl Mk G Sz Kp th) (vDet (some (.int (nI (Ln (Rm u))))) (mW k o pl B Ln (va_up Rm (u) (Rm (r))) Rd Pl Mk G Sz Kp (nI (0)))) := by
  have hRr := hRm r hr
  have hRu := hRm u hu
  refine vOf (by decide +kernel) (Nat.le_of_ble_eq_true rfl) (fun p9 e9 s9 m9 below9 meth9 c9 X hret _ => ?_)
  refine vAloadN X dX4_lend_0 0 rfl ?_
  refine vAloadN X dX4_lend_1 0 rfl ?_
  refine vIloadN X dX4_lend_2 1 rfl ?_
  refine vCallVd X [.ref (o 0)] (mm_isRowT l D k o pl sb B Ln Rm Rd Pl Mk G Sz Kp th r (by omega)) (vGV q_782 q_784 q_7 q_29 q_785) ⟨by decide, by decide, (show _ = some 1 from by decide +kernel)⟩ ⟨Nat.le_of_ble_eq_true rfl, Nat.le_of_ble_eq_true rfl⟩ 0 4 rfl rfl rfl rfl (Nat.le_of_ble_eq_true rfl) dX4_lend_3 ⟨Nat.zero_le _, Nat.zero_le _⟩ ?_
  refine vIfN_eqF X 21 dX4_lend_6 (by decide) (by omega) (by omega) ?_
  refine vAloadN X dX4_lend_9 0 rfl ?_
  refine vIloadN X dX4_lend_10 2 rfl ?_
  refine vCallVd X [.ref (o 0)] (mm_isRowT l D k o pl sb B Ln Rm Rd Pl Mk G Sz Kp th u (by omega)) (vGV q_782 q_784 q_7 q_29 q_785) ⟨by decide, by decide, (show _ = some 1 from by decide +kernel)⟩ ⟨Nat.le_of_ble_eq_true rfl, Nat.le_of_ble_eq_true rfl⟩ 0 4 rfl rfl rfl rfl (Nat.le_of_ble_eq_true rfl) dX4_lend_11 ⟨Nat.zero_le _, Nat.zero_le _⟩ ?_
  refine vIfN_eqF X 21 dX4_lend_14 (by decide) (by omega) (by omega) ?_
  refine vIconst X dX4_lend_17 (v := nI (0)) (by decide) ?_
  refine vGoto X 22 dX4_lend_18 (by decide) ?_
  refine vCallVd X [] (mm_isWrong0 l D k o pl sb B Ln Rm Rd Pl Mk G Sz Kp th ) (vGV q_786 q_788 q_8 q_29 q_789) ⟨by decide, by decide, (show _ = some 1 from by decide +kernel)⟩ ⟨Nat.le_of_ble_eq_true rfl, Nat.le_of_ble_eq_true rfl⟩ 0 4 rfl rfl rfl rfl (Nat.le_of_ble_eq_true rfl) dX4_lend_22 ⟨Nat.zero_le _, Nat.zero_le _⟩ ?_
  refine vIfN_eqT X 30 dX4_lend_25 (by decide) (by omega) (by omega) ?_
  refine vAloadN X dX4_lend_30 0 rfl ?_
  refine vIloadN X dX4_lend_31 2 rfl ?_
  refine vCallVd X [] (mm_long0 l D k o pl sb B Ln Rm Rd Pl Mk G Sz Kp (nI (0)) u (by omega) (by omega)) (vGV q_790 q_792 q_9 q_29 q_793) ⟨by decide, by decide, (show _ = some 1 from by decide +kernel)⟩ ⟨Nat.le_of_ble_eq_true rfl, Nat.le_of_ble_eq_true rfl⟩ 0 4 rfl rfl rfl rfl (Nat.le_of_ble_eq_true rfl) dX4_lend_32 ⟨Nat.zero_le _, Nat.zero_le _⟩ ?_
  refine vIstoreN X [(3, .int (nI (Ln (Rm u)))), (0, .ref (o 0)), (1, .int (nI (r))), (2, .int (nI (u)))] dX4_lend_35 (by decide) rfl ?_
  refine vAloadN X dX4_lend_36 1 rfl ?_
  refine vGet X (C := RX4) (T := TX4) (N := 10) (ci := 4) (vcons inM) rfl 0 rfl 2 (by decide) (List.mem_cons_of_mem _ q_744) (fun _ h => h) rfl dX4_lend_37 ?_
  refine vIloadN X dX4_lend_40 3 rfl ?_
  refine vAloadN X dX4_lend_41 1 rfl ?_
  refine vGet X (C := RX4) (T := TX4) (N := 10) (ci := 4) (vcons inM) rfl 0 rfl 2 (by decide) (List.mem_cons_of_mem _ q_744) (fun _ h => h) rfl dX4_lend_42 ?_
  refine vIloadN X dX4_lend_45 2 rfl ?_
  refine vIaload X (v := nI (Rm (r))) 3 1 rfl rfl rfl (by omega) (by decide) rfl dX4_lend_46 ?_
  refine vIastore X (g := (fun q => nI ((va_up Rm (u) (Rm (r))) q))) 3 1 rfl rfl rfl (by omega) (by decide) (nI_up _ _ _) dX4_lend_47 ?_
  refine vWs (ws' := mW k o pl B Ln (va_up Rm (u) (Rm (r))) Rd Pl Mk G Sz Kp (nI (0))) rfl ?_
  refine vIloadN X dX4_lend_48 0 rfl ?_
  exact vRetI X hret dX4_lend_49 ⟨rfl, rfl⟩
set_option maxHeartbeats 4000000 in
set_option maxRecDepth 100000 in
theorem mm_length1 (l : Launch) (D : va_G) (k : Nat → ClassId) (o : Nat → Nat) (pl : va_W) (sb : Nat) (B : Nat → Nat → Int32) (Ln Rm : Nat → Nat) (Rd : Nat → Option Nat) (Pl Mk : Nat → Nat) (G : Nat → Nat → Int32) (Sz : Nat → Nat) (Kp : Nat → Int32) (th : Int32) (x : Int32) (hx : ¬ vRow x) : vCt l yX4_length cX4_length 2 (some .int) 1 21 0 0 D vCl (vTy k) sb [.ref (o 0), .int (x)] (mW k o pl B Ln Rm Rd Pl Mk G Sz Kp th) (vDet (some (.int (nI (0)))) (mW k o pl B Ln Rm Rd Pl Mk G Sz Kp (nI (1)))) := by
  refine vOf (by decide +kernel) (Nat.le_of_ble_eq_true rfl) (fun p9 e9 s9 m9 below9 meth9 c9 X hret _ => ?_)
  refine vAloadN X dX4_length_0 0 rfl ?_
  refine vAloadN X dX4_length_1 0 rfl ?_
  refine vIloadN X dX4_length_2 1 rfl ?_
  refine vCallVd X [.ref (o 0)] (mm_isRowF l D k o pl sb B Ln Rm Rd Pl Mk G Sz Kp th x hx) (vGV q_782 q_784 q_7 q_29 q_785) ⟨by decide, by decide, (show _ = some 1 from by decide +kernel)⟩ ⟨Nat.le_of_ble_eq_true rfl, Nat.le_of_ble_eq_true rfl⟩ 0 4 rfl rfl rfl rfl (Nat.le_of_ble_eq_true rfl) dX4_length_3 ⟨Nat.zero_le _, Nat.zero_le _⟩ ?_
  refine vIfN_eqT X 13 dX4_length_6 (by decide) (by omega) (by omega) ?_
  refine vIconst X dX4_length_13 (v := nI (1)) (by decide) ?_
  refine vCallVd X [] (mm_isWrong1 l D k o pl sb B Ln Rm Rd Pl Mk G Sz Kp th 1 (by decide) (by decide)) (vGV q_786 q_788 q_8 q_29 q_789) ⟨by decide, by decide, (show _ = some 1 from by decide +kernel)⟩ ⟨Nat.le_of_ble_eq_true rfl, Nat.le_of_ble_eq_true rfl⟩ 0 4 rfl rfl rfl rfl (Nat.le_of_ble_eq_true rfl) dX4_length_14 ⟨Nat.zero_le _, Nat.zero_le _⟩ ?_
  refine vIfN_eqF X 24 dX4_length_17 (by decide) (by omega) (by omega) ?_
  refine vIconst X dX4_length_20 (v := nI (0)) (by decide) ?_
  refine vGoto X 29 dX4_length_21 (by decide) ?_
  exact vRetI X hret dX4_length_29 ⟨rfl, rfl⟩
set_option maxHeartbeats 4000000 in
set_option maxRecDepth 100000 in
theorem mm_length0 (l : Launch) (D : va_G) (k : Nat → ClassId) (o : Nat → Nat) (pl : va_W) (sb : Nat) (B : Nat → Nat → Int32) (Ln Rm : Nat → Nat) (Rd : Nat → Option Nat) (Pl Mk : Nat → Nat) (G : Nat → Nat → Int32) (Sz : Nat → Nat) (Kp : Nat → Int32) (th : Int32) (r : Nat) (hr : r < 4) (hRm : ∀ r, r < 4 → Rm r < 8) : vCt l yX4_length cX4_length 2 (some .int) 1 21 0 0 D vCl (vTy k) sb [.ref (o 0), .int (nI (r))] (mW k o pl B Ln Rm Rd Pl Mk G Sz Kp th) (vDet (some (.int (nI (Ln (Rm r))))) (mW k o pl B Ln Rm Rd Pl Mk G Sz Kp (nI (0)))) := by
  have hRr := hRm r hr
  refine vOf (by decide +kernel) (Nat.le_of_ble_eq_true rfl) (fun p9 e9 s9 m9 below9 meth9 c9 X hret _ => ?_)
  refine vAloadN X dX4_length_0 0 rfl ?_
  refine vAloadN X dX4_length_1 0 rfl ?_
  refine vIloadN X dX4_length_2 1 rfl ?_
  refine vCallVd X [.ref (o 0)] (mm_isRowT l D k o pl sb B Ln Rm Rd Pl Mk G Sz Kp th r (by omega)) (vGV q_782 q_784 q_7 q_29 q_785) ⟨by decide, by decide, (show _ = some 1 from by decide +kernel)⟩ ⟨Nat.le_of_ble_eq_true rfl, Nat.le_of_ble_eq_true rfl⟩ 0 4 rfl rfl rfl rfl (Nat.le_of_ble_eq_true rfl) dX4_length_3 ⟨Nat.zero_le _, Nat.zero_le _⟩ ?_
  refine vIfN_eqF X 13 dX4_length_6 (by decide) (by omega) (by omega) ?_
  refine vIconst X dX4_length_9 (v := nI (0)) (by decide) ?_
  refine vGoto X 14 dX4_length_10 (by decide) ?_
  refine vCallVd X [] (mm_isWrong0 l D k o pl sb B Ln Rm Rd Pl Mk G Sz Kp th ) (vGV q_786 q_788 q_8 q_29 q_789) ⟨by decide, by decide, (show _ = some 1 from by decide +kernel)⟩ ⟨Nat.le_of_ble_eq_true rfl, Nat.le_of_ble_eq_true rfl⟩ 0 4 rfl rfl rfl rfl (Nat.le_of_ble_eq_true rfl) dX4_length_14 ⟨Nat.zero_le _, Nat.zero_le _⟩ ?_
  refine vIfN_eqT X 24 dX4_length_17 (by decide) (by omega) (by omega) ?_
  refine vAloadN X dX4_length_24 0 rfl ?_
  refine vIloadN X dX4_length_25 1 rfl ?_
  refine vCallVd X [] (mm_long0 l D k o pl sb B Ln Rm Rd Pl Mk G Sz Kp (nI (0)) r (by omega) (by omega)) (vGV q_790 q_792 q_9 q_29 q_793) ⟨by decide, by decide, (show _ = some 1 from by decide +kernel)⟩ ⟨Nat.le_of_ble_eq_true rfl, Nat.le_of_ble_eq_true rfl⟩ 0 4 rfl rfl rfl rfl (Nat.le_of_ble_eq_true rfl) dX4_length_26 ⟨Nat.zero_le _, Nat.zero_le _⟩ ?_
  exact vRetI X hret dX4_length_29 ⟨rfl, rfl⟩
set_option maxHeartbeats 4000000 in
set_option maxRecDepth 100000 in
theorem mm_low (l : Launch) (D : va_G) (k : Nat → ClassId) (o : Nat → Nat) (pl : va_W) (sb : Nat) (B : Nat → Nat → Int32) (Ln Rm : Nat → Nat) (Rd : Nat → Option Nat) (Pl Mk : Nat → Nat) (G : Nat → Nat → Int32) (Sz : Nat → Nat) (Kp : Nat → Int32) (th : Int32) (x : Int32)  : vCt l yX4_low cX4_low 3 (some .int) 0 0 0 0 D vCl (vTy k) sb [.ref (o 0), .int (x)] (mW k o pl B Ln Rm Rd Pl Mk G Sz Kp th) (vDet (some (.int (lb x))) (mW k o pl B Ln Rm Rd Pl Mk G Sz Kp th)) := by
  refine vOf (by decide +kernel) (Nat.le_of_ble_eq_true rfl) (fun p9 e9 s9 m9 below9 meth9 c9 X hret _ => ?_)
  refine vIloadN X dX4_low_0 1 rfl ?_
  refine vSipush X dX4_low_1 (v := nI (255)) (by decide) ?_
  refine vIand X dX4_low_4 (v := (x) &&& (nI (255))) rfl ?_
  refine vIstoreN X [(2, .int ((x) &&& (nI (255)))), (0, .ref (o 0)), (1, .int (x))] dX4_low_5 (by decide) rfl ?_
  refine vIloadN X dX4_low_6 0 rfl ?_
  refine vSipush X dX4_low_7 (v := nI (128)) (by decide) ?_
  refine vIcmp_ge X 17 dX4_low_10 (by decide) (fun hc10 => ?_) (fun hc10 => ?_)
  · refine vIloadN X dX4_low_17 0 rfl ?_
    refine vSipush X dX4_low_18 (v := nI (256)) (by decide) ?_
    refine vIsub X dX4_low_21 (v := ((x) &&& (nI (255))) - (nI (256))) rfl ?_
    exact vRetI X hret dX4_low_22 ⟨by rw [low_ge hc10], rfl⟩
  · refine vIloadN X dX4_low_13 0 rfl ?_
    refine vGoto X 22 dX4_low_14 (by decide) ?_
    exact vRetI X hret dX4_low_22 ⟨by rw [low_lt (Int32.not_le.mp hc10)], rfl⟩
set_option maxHeartbeats 4000000 in
set_option maxRecDepth 100000 in
theorem mm_get1 (l : Launch) (D : va_G) (k : Nat → ClassId) (o : Nat → Nat) (pl : va_W) (sb : Nat) (B : Nat → Nat → Int32) (Ln Rm : Nat → Nat) (Rd : Nat → Option Nat) (Pl Mk : Nat → Nat) (G : Nat → Nat → Int32) (Sz : Nat → Nat) (Kp : Nat → Int32) (th : Int32) (x y : Int32) (hRm : ∀ r, r < 4 → Rm r < 8) (hLn : ∀ a, Ln a ≤ 256) (hpart : ¬ vPart Ln Rm x y (nI 1)) : vCt l yX4_get cX4_get 3 (some .int) 2 44 0 0 D vCl (vTy k) sb [.ref (o 0), .int (x), .int (y)] (mW k o pl B Ln Rm Rd Pl Mk G Sz Kp th) (vDet (some (.int (nI (0)))) (mW k o pl B Ln Rm Rd Pl Mk G Sz Kp (nI (1)))) := by
  refine vOf (by decide +kernel) (Nat.le_of_ble_eq_true rfl) (fun p9 e9 s9 m9 below9 meth9 c9 X hret _ => ?_)
  refine vAloadN X dX4_get_0 0 rfl ?_
  refine vAloadN X dX4_get_1 0 rfl ?_
  refine vIloadN X dX4_get_2 1 rfl ?_
  refine vIloadN X dX4_get_3 2 rfl ?_
  refine vIconst X dX4_get_4 (v := nI (1)) (by decide) ?_
  refine vCallVd X [.ref (o 0)] (mm_isPartF l D k o pl sb B Ln Rm Rd Pl Mk G Sz Kp th x y (nI (1)) hRm hLn hpart) (vGV q_814 q_816 q_12 q_29 q_817) ⟨by decide, by decide, (show _ = some 3 from by decide +kernel)⟩ ⟨Nat.le_of_ble_eq_true rfl, Nat.le_of_ble_eq_true rfl⟩ 0 4 rfl rfl rfl rfl (Nat.le_of_ble_eq_true rfl) dX4_get_5 ⟨Nat.zero_le _, Nat.zero_le _⟩ ?_
  refine vIfN_eqT X 15 dX4_get_8 (by decide) (by omega) (by omega) ?_
  refine vIconst X dX4_get_15 (v := nI (1)) (by decide) ?_
  refine vCallVd X [] (mm_isWrong1 l D k o pl sb B Ln Rm Rd Pl Mk G Sz Kp th 1 (by decide) (by decide)) (vGV q_786 q_788 q_8 q_29 q_789) ⟨by decide, by decide, (show _ = some 1 from by decide +kernel)⟩ ⟨Nat.le_of_ble_eq_true rfl, Nat.le_of_ble_eq_true rfl⟩ 0 4 rfl rfl rfl rfl (Nat.le_of_ble_eq_true rfl) dX4_get_16 ⟨Nat.zero_le _, Nat.zero_le _⟩ ?_
  refine vIfN_eqF X 26 dX4_get_19 (by decide) (by omega) (by omega) ?_
  refine vIconst X dX4_get_22 (v := nI (0)) (by decide) ?_
  refine vGoto X 43 dX4_get_23 (by decide) ?_
  exact vRetI X hret dX4_get_43 ⟨rfl, rfl⟩
set_option maxHeartbeats 4000000 in
set_option maxRecDepth 100000 in
theorem mm_get0 (l : Launch) (D : va_G) (k : Nat → ClassId) (o : Nat → Nat) (pl : va_W) (sb : Nat) (B : Nat → Nat → Int32) (Ln Rm : Nat → Nat) (Rd : Nat → Option Nat) (Pl Mk : Nat → Nat) (G : Nat → Nat → Int32) (Sz : Nat → Nat) (Kp : Nat → Int32) (th : Int32) (r i : Nat) (hr : r < 4) (hi : i + 1 ≤ Ln (Rm r)) (hRm : ∀ r, r < 4 → Rm r < 8) (hLn : ∀ a, Ln a ≤ 256) : vCt l yX4_get cX4_get 3 (some .int) 2 44 0 0 D vCl (vTy k) sb [.ref (o 0), .int (nI (r)), .int (nI (i))] (mW k o pl B Ln Rm Rd Pl Mk G Sz Kp th) (vDet (some (.int (B (Rm r) i))) (mW k o pl B Ln Rm Rd Pl Mk G Sz Kp (nI (0)))) := by
  have hRr := hRm r hr
  have hLr := hLn (Rm r)
  refine vOf (by decide +kernel) (Nat.le_of_ble_eq_true rfl) (fun p9 e9 s9 m9 below9 meth9 c9 X hret _ => ?_)
  refine vAloadN X dX4_get_0 0 rfl ?_
  refine vAloadN X dX4_get_1 0 rfl ?_
  refine vIloadN X dX4_get_2 1 rfl ?_
  refine vIloadN X dX4_get_3 2 rfl ?_
  refine vIconst X dX4_get_4 (v := nI (1)) (by decide) ?_
  refine vCallVd X [.ref (o 0)] (mm_isPartT l D k o pl sb B Ln Rm Rd Pl Mk G Sz Kp th r i 1 (by omega) (by omega) (by omega) (by omega)) (vGV q_814 q_816 q_12 q_29 q_817) ⟨by decide, by decide, (show _ = some 3 from by decide +kernel)⟩ ⟨Nat.le_of_ble_eq_true rfl, Nat.le_of_ble_eq_true rfl⟩ 0 4 rfl rfl rfl rfl (Nat.le_of_ble_eq_true rfl) dX4_get_5 ⟨Nat.zero_le _, Nat.zero_le _⟩ ?_
  refine vIfN_eqF X 15 dX4_get_8 (by decide) (by omega) (by omega) ?_
  refine vIconst X dX4_get_11 (v := nI (0)) (by decide) ?_
  refine vGoto X 16 dX4_get_12 (by decide) ?_
  refine vCallVd X [] (mm_isWrong0 l D k o pl sb B Ln Rm Rd Pl Mk G Sz Kp th ) (vGV q_786 q_788 q_8 q_29 q_789) ⟨by decide, by decide, (show _ = some 1 from by decide +kernel)⟩ ⟨Nat.le_of_ble_eq_true rfl, Nat.le_of_ble_eq_true rfl⟩ 0 4 rfl rfl rfl rfl (Nat.le_of_ble_eq_true rfl) dX4_get_16 ⟨Nat.zero_le _, Nat.zero_le _⟩ ?_
  refine vIfN_eqT X 26 dX4_get_19 (by decide) (by omega) (by omega) ?_
  refine vAloadN X dX4_get_26 0 rfl ?_
  refine vGet X (C := RX4) (T := TX4) (N := 10) (ci := 4) (vcons inM) rfl 0 rfl 0 (by decide) (List.mem_cons_of_mem _ q_742) (fun _ h => h) rfl dX4_get_27 ?_
  refine vSipush X dX4_get_30 (v := nI (256)) (by decide) ?_
  refine vAloadN X dX4_get_33 0 rfl ?_
  refine vGet X (C := RX4) (T := TX4) (N := 10) (ci := 4) (vcons inM) rfl 0 rfl 2 (by decide) (List.mem_cons_of_mem _ q_744) (fun _ h => h) rfl dX4_get_34 ?_
  refine vIloadN X dX4_get_37 1 rfl ?_
  refine vIaload X (v := nI (Rm (r))) 3 1 rfl rfl rfl (by omega) (by decide) rfl dX4_get_38 ?_
  refine vImul X dX4_get_39 (v := nI ((256) * (Rm (r)))) (pk_mul _ _) ?_
  refine vIloadN X dX4_get_40 2 rfl ?_
  refine vIadd X dX4_get_41 (v := nI (((256) * (Rm (r))) + (i))) (nI_add _ _) ?_
  refine vIaload X (v := B (Rm (r)) (i)) 1 1 rfl rfl rfl (by omega) (by decide) (fl2_at _ (X := Rm (r)) (Y := i) (by omega) (by omega)) dX4_get_42 ?_
  exact vRetI X hret dX4_get_43 ⟨rfl, rfl⟩
set_option maxHeartbeats 4000000 in
set_option maxRecDepth 100000 in
theorem mm_put1 (l : Launch) (D : va_G) (k : Nat → ClassId) (o : Nat → Nat) (pl : va_W) (sb : Nat) (B : Nat → Nat → Int32) (Ln Rm : Nat → Nat) (Rd : Nat → Option Nat) (Pl Mk : Nat → Nat) (G : Nat → Nat → Int32) (Sz : Nat → Nat) (Kp : Nat → Int32) (th : Int32) (x y v : Int32) (hRm : ∀ r, r < 4 → Rm r < 8) (hLn : ∀ a, Ln a ≤ 256) (hpart : ¬ vPart Ln Rm x y (nI 1)) : vCt l yX4_put cX4_put 6 (some .int) 2 44 0 0 D vCl (vTy k) sb [.ref (o 0), .int (x), .int (y), .int (v)] (mW k o pl B Ln Rm Rd Pl Mk G Sz Kp th) (vDet (some (.int (nI (0)))) (mW k o pl B Ln Rm Rd Pl Mk G Sz Kp (nI (1)))) := by
  refine vOf (by decide +kernel) (Nat.le_of_ble_eq_true rfl) (fun p9 e9 s9 m9 below9 meth9 c9 X hret _ => ?_)
  refine vAloadN X dX4_put_0 0 rfl ?_
  refine vAloadN X dX4_put_1 0 rfl ?_
  refine vIloadN X dX4_put_2 1 rfl ?_
  refine vIloadN X dX4_put_3 2 rfl ?_
  refine vIconst X dX4_put_4 (v := nI (1)) (by decide) ?_
  refine vCallVd X [.ref (o 0)] (mm_isPartF l D k o pl sb B Ln Rm Rd Pl Mk G Sz Kp th x y (nI (1)) hRm hLn hpart) (vGV q_814 q_816 q_12 q_29 q_817) ⟨by decide, by decide, (show _ = some 3 from by decide +kernel)⟩ ⟨Nat.le_of_ble_eq_true rfl, Nat.le_of_ble_eq_true rfl⟩ 0 4 rfl rfl rfl rfl (Nat.le_of_ble_eq_true rfl) dX4_put_5 ⟨Nat.zero_le _, Nat.zero_le _⟩ ?_
  refine vIfN_eqT X 15 dX4_put_8 (by decide) (by omega) (by omega) ?_
  refine vIconst X dX4_put_15 (v := nI (1)) (by decide) ?_
  refine vCallVd X [] (mm_isWrong1 l D k o pl sb B Ln Rm Rd Pl Mk G Sz Kp th 1 (by decide) (by decide)) (vGV q_786 q_788 q_8 q_29 q_789) ⟨by decide, by decide, (show _ = some 1 from by decide +kernel)⟩ ⟨Nat.le_of_ble_eq_true rfl, Nat.le_of_ble_eq_true rfl⟩ 0 4 rfl rfl rfl rfl (Nat.le_of_ble_eq_true rfl) dX4_put_16 ⟨Nat.zero_le _, Nat.zero_le _⟩ ?_
  refine vIfN_eqF X 24 dX4_put_19 (by decide) (by omega) (by omega) ?_
  refine vIconst X dX4_put_22 (v := nI (0)) (by decide) ?_
  exact vRetI X hret dX4_put_23 ⟨rfl, rfl⟩
set_option maxHeartbeats 4000000 in
set_option maxRecDepth 100000 in
theorem mm_put0 (l : Launch) (D : va_G) (k : Nat → ClassId) (o : Nat → Nat) (pl : va_W) (sb : Nat) (B : Nat → Nat → Int32) (Ln Rm : Nat → Nat) (Rd : Nat → Option Nat) (Pl Mk : Nat → Nat) (G : Nat → Nat → Int32) (Sz : Nat → Nat) (Kp : Nat → Int32) (th : Int32) (r i : Nat) (v : Int32) (hr : r < 4) (hi : i + 1 ≤ Ln (Rm r)) (hRm : ∀ r, r < 4 → Rm r < 8) (hLn : ∀ a, Ln a ≤ 256) : vCt l yX4_put cX4_put 6 (some .int) 2 44 0 0 D vCl (vTy k) sb [.ref (o 0), .int (nI (r)), .int (nI (i)), .int (v)] (mW k o pl B Ln Rm Rd Pl Mk G Sz Kp th) (vDet (some (.int (B (Rm r) i))) (mW k o pl (up2 B (Rm (r)) (i) (lb (v))) Ln Rm Rd Pl Mk G Sz Kp (nI (0)))) := by
  have hRr := hRm r hr
  have hLr := hLn (Rm r)
  refine vOf (by decide +kernel) (Nat.le_of_ble_eq_true rfl) (fun p9 e9 s9 m9 below9 meth9 c9 X hret _ => ?_)
  refine vAloadN X dX4_put_0 0 rfl ?_
  refine vAloadN X dX4_put_1 0 rfl ?_
  refine vIloadN X dX4_put_2 1 rfl ?_
  refine vIloadN X dX4_put_3 2 rfl ?_
  refine vIconst X dX4_put_4 (v := nI (1)) (by decide) ?_
  refine vCallVd X [.ref (o 0)] (mm_isPartT l D k o pl sb B Ln Rm Rd Pl Mk G Sz Kp th r i 1 (by omega) (by omega) (by omega) (by omega)) (vGV q_814 q_816 q_12 q_29 q_817) ⟨by decide, by decide, (show _ = some 3 from by decide +kernel)⟩ ⟨Nat.le_of_ble_eq_true rfl, Nat.le_of_ble_eq_true rfl⟩ 0 4 rfl rfl rfl rfl (Nat.le_of_ble_eq_true rfl) dX4_put_5 ⟨Nat.zero_le _, Nat.zero_le _⟩ ?_
  refine vIfN_eqF X 15 dX4_put_8 (by decide) (by omega) (by omega) ?_
  refine vIconst X dX4_put_11 (v := nI (0)) (by decide) ?_
  refine vGoto X 16 dX4_put_12 (by decide) ?_
  refine vCallVd X [] (mm_isWrong0 l D k o pl sb B Ln Rm Rd Pl Mk G Sz Kp th ) (vGV q_786 q_788 q_8 q_29 q_789) ⟨by decide, by decide, (show _ = some 1 from by decide +kernel)⟩ ⟨Nat.le_of_ble_eq_true rfl, Nat.le_of_ble_eq_true rfl⟩ 0 4 rfl rfl rfl rfl (Nat.le_of_ble_eq_true rfl) dX4_put_16 ⟨Nat.zero_le _, Nat.zero_le _⟩ ?_
  refine vIfN_eqT X 24 dX4_put_19 (by decide) (by omega) (by omega) ?_
  refine vSipush X dX4_put_24 (v := nI (256)) (by decide) ?_
  refine vAloadN X dX4_put_27 0 rfl ?_
  refine vGet X (C := RX4) (T := TX4) (N := 10) (ci := 4) (vcons inM) rfl 0 rfl 2 (by decide) (List.mem_cons_of_mem _ q_744) (fun _ h => h) rfl dX4_put_28 ?_
  refine vIloadN X dX4_put_31 1 rfl ?_
  refine vIaload X (v := nI (Rm (r))) 3 1 rfl rfl rfl (by omega) (by decide) rfl dX4_put_32 ?_
  refine vImul X dX4_put_33 (v := nI ((256) * (Rm (r)))) (pk_mul _ _) ?_
  refine vIloadN X dX4_put_34 2 rfl ?_
  refine vIadd X dX4_put_35 (v := nI (((256) * (Rm (r))) + (i))) (nI_add _ _) ?_
  refine vIstore X [(4, .int (nI (((256) * (Rm (r))) + (i)))), (0, .ref (o 0)), (1, .int (nI (r))), (2, .int (nI (i))), (3, .int (v))] dX4_put_36 (by decide) rfl ?_
  refine vAloadN X dX4_put_38 1 rfl ?_
  refine vGet X (C := RX4) (T := TX4) (N := 10) (ci := 4) (vcons inM) rfl 0 rfl 0 (by decide) (List.mem_cons_of_mem _ q_742) (fun _ h => h) rfl dX4_put_39 ?_
  refine vIload X dX4_put_42 0 rfl ?_
  refine vIaload X (v := B (Rm (r)) (i)) 1 1 rfl rfl rfl (by omega) (by decide) (fl2_at _ (X := Rm (r)) (Y := i) (by omega) (by omega)) dX4_put_44 ?_
  refine vIstore X [(5, .int (B (Rm (r)) (i))), (4, .int (nI (((256) * (Rm (r))) + (i)))), (0, .ref (o 0)), (1, .int (nI (r))), (2, .int (nI (i))), (3, .int (v))] dX4_put_45 (by decide) rfl ?_
  refine vAloadN X dX4_put_47 2 rfl ?_
  refine vGet X (C := RX4) (T := TX4) (N := 10) (ci := 4) (vcons inM) rfl 0 rfl 0 (by decide) (List.mem_cons_of_mem _ q_742) (fun _ h => h) rfl dX4_put_48 ?_
  refine vIload X dX4_put_51 1 rfl ?_
  refine vAloadN X dX4_put_53 2 rfl ?_
  refine vIloadN X dX4_put_54 5 rfl ?_
  refine vCallVd X [.int (nI (((256) * (Rm (r))) + (i))), .ref (o 1)] (mm_low l D k o pl sb B Ln Rm Rd Pl Mk G Sz Kp (nI (0)) v) (vGV q_822 q_824 q_13 q_29 q_825) ⟨by decide, by decide, (show _ = some 1 from by decide +kernel)⟩ ⟨Nat.le_of_ble_eq_true rfl, Nat.le_of_ble_eq_true rfl⟩ 0 4 rfl rfl rfl rfl (Nat.le_of_ble_eq_true rfl) dX4_put_55 ⟨Nat.zero_le _, Nat.zero_le _⟩ ?_
  refine vIastore X (g := fl2 (up2 B (Rm (r)) (i) (lb (v)))) 1 1 rfl rfl rfl (by omega) (by decide) (fl2_up _ _ (X := Rm (r)) (Y := i) (by omega) (by omega)) dX4_put_58 ?_
  refine vWs (ws' := mW k o pl (up2 B (Rm (r)) (i) (lb (v))) Ln Rm Rd Pl Mk G Sz Kp (nI (0))) rfl ?_
  refine vIload X dX4_put_59 0 rfl ?_
  exact vRetI X hret dX4_put_61 ⟨rfl, rfl⟩
def fillB (B : Nat → Nat → Int32) (R f i : Nat) (x st : Int32) : Nat → Nat → Int32 := fun a b => if a = R ∧ f ≤ b ∧ b < f + i then lb (x + nI (b - f) * st) else B a b
def smB (g : Nat → Int32) (f : Nat) : Nat → Int32
  | 0 => nI 0
  | i + 1 => smB g f i + g (f + i)
theorem fillB_0 (B : Nat → Nat → Int32) (R f : Nat) (x st : Int32) : B = fillB B R f 0 x st := by
  funext a b
  show B a b = if _ then _ else _
  rw [if_neg (by omega)]
theorem fillB_1 (B : Nat → Nat → Int32) (R f i : Nat) (x st : Int32) : up2 (fillB B R f i x st) R (f + i) (lb (x + nI i * st)) = fillB B R f (i + 1) x st := by
  funext a b
  simp only [up2, fillB]
  by_cases h1 : a = R <;> by_cases h2 : b = f + i
  · subst h2
    have q1 : f ≤ f + i := by omega
    have q2 : f + i < f + (i + 1) := by omega
    have q3 : f + i - f = i := by omega
    simp [h1, q3]
  · have : (f ≤ b ∧ b < f + (i + 1)) = (f ≤ b ∧ b < f + i) := by simp only [eq_iff_iff]; omega
    simp [h1, h2, this]
  · simp [h1]
  · simp [h1]
theorem fillB_at (B : Nat → Nat → Int32) (R f i : Nat) (x st : Int32) : fillB B R f i x st R (f + i) = B R (f + i) := by
  have : ¬ (f ≤ f + i ∧ f + i < f + i) := by omega
  simp [fillB, this]
set_option maxHeartbeats 4000000 in
set_option maxRecDepth 100000 in
theorem mL_fill {p9 : Program} {l : Launch} {e9 : Env} {s9 : State} {m9 : MethodId} {args9 : Array Value} {below9 : List Frame} {meth9 : Method} {c9 : Code} {Q9 : State → Prop} (D : va_G) (k : Nat → ClassId) (o : Nat → Nat) (pl : va_W) (sb : Nat) (B : Nat → Nat → Int32) (Ln Rm : Nat → Nat) (Rd : Nat → Option Nat) (Pl Mk : Nat → Nat) (G : Nat → Nat → Int32) (Sz : Nat → Nat) (Kp : Nat → Int32) (th : Int32) (r f n : Nat) (x st : Int32) (hr : r < 4) (hp : f + n ≤ Ln (Rm r)) (hRm : ∀ r, r < 4 → Rm r < 8) (hLn : ∀ a, Ln a ≤ 256) (X : vCX p9 s9 m9 args9 meth9 c9 cX4_fill 9 yX4_fill.cls (Cond.code yX4_fill cX4_fill 9 (some .int) :: vGW) D vCl (vTy k) sb) (hex : vV p9 l e9 ({ frames := 2, cells := 0, slots := 0, locals := 44 }) s9 m9 args9 below9 meth9 c9 9 D vCl sb Q9 (mW k o pl (fillB B (Rm r) f n x st) Ln Rm Rd Pl Mk G Sz Kp th) 0 0 90 [(6, .int (smB (B (Rm r)) f n)), (0, .ref (o 0)), (1, .int (nI (r))), (2, .int (nI (f))), (3, .int (nI (n))), (4, .int (x)), (5, .int (st))] []) : ∀ (z i : Nat) (B1 : Nat → Nat → Int32) (s1 : Int32), i + z = n → B1 = fillB B (Rm r) f i x st → s1 = smB (B (Rm r)) f i → vV p9 l e9 ({ frames := 2, cells := 0, slots := 0, locals := 44 }) s9 m9 args9 below9 meth9 c9 9 D vCl sb Q9 (mW k o pl B1 Ln Rm Rd Pl Mk G Sz Kp th) 0 0 30 [(7, .int (nI (i))), (6, .int (s1)), (0, .ref (o 0)), (1, .int (nI (r))), (2, .int (nI (f))), (3, .int (nI (n))), (4, .int (x)), (5, .int (st))] [] := by
  intro z
  induction z with
  | zero =>
    intro i B1 s1 hi hB1 hs1
    have hin : n = i := by omega
    subst hin
    subst hB1
    subst hs1
    have hLr := hLn (Rm r)
    refine vIload X dX4_fill_30 0 rfl ?_
    refine vIloadN X dX4_fill_32 5 rfl ?_
    refine vIcmpN_geT X 90 dX4_fill_33 (by decide) (by omega) (by omega) (by omega) ?_
    refine vSub [1, 2, 3, 4, 5, 6, 7] [(6, .int (smB (B (Rm r)) f n)), (0, .ref (o 0)), (1, .int (nI (r))), (2, .int (nI (f))), (3, .int (nI (n))), (4, .int (x)), (5, .int (st))] rfl ?_
    exact hex
  | succ z ih =>
    intro i B1 s1 hi hB1 hs1
    have hRr := hRm r hr
    have hLr := hLn (Rm r)
    refine vIload X dX4_fill_30 0 rfl ?_
    refine vIloadN X dX4_fill_32 5 rfl ?_
    refine vIcmpN_geF X 90 dX4_fill_33 (by decide) (by omega) (by omega) (by omega) ?_
    refine vSipush X dX4_fill_36 (v := nI (256)) (by decide) ?_
    refine vAloadN X dX4_fill_39 2 rfl ?_
    refine vGet X (C := RX4) (T := TX4) (N := 10) (ci := 4) (vcons inM) rfl 0 rfl 2 (by decide) (List.mem_cons_of_mem _ q_744) (fun _ h => h) rfl dX4_fill_40 ?_
    refine vIloadN X dX4_fill_43 3 rfl ?_
    refine vIaload X (v := nI (Rm (r))) 3 1 rfl rfl rfl (by omega) (by decide) rfl dX4_fill_44 ?_
    refine vImul X dX4_fill_45 (v := nI ((256) * (Rm (r)))) (pk_mul _ _) ?_
    refine vIloadN X dX4_fill_46 4 rfl ?_
    refine vIadd X dX4_fill_47 (v := nI (((256) * (Rm (r))) + (f))) (nI_add _ _) ?_
    refine vIload X dX4_fill_48 0 rfl ?_
    refine vIadd X dX4_fill_50 (v := nI ((((256) * (Rm (r))) + (f)) + (i))) (nI_add _ _) ?_
    refine vIstore X [(8, .int (nI ((((256) * (Rm (r))) + (f)) + (i)))), (7, .int (nI (i))), (6, .int (s1)), (0, .ref (o 0)), (1, .int (nI (r))), (2, .int (nI (f))), (3, .int (nI (n))), (4, .int (x)), (5, .int (st))] dX4_fill_51 (by decide) rfl ?_
    refine vIload X dX4_fill_53 2 rfl ?_
    refine vAloadN X dX4_fill_55 3 rfl ?_
    refine vGet X (C := RX4) (T := TX4) (N := 10) (ci := 4) (vcons inM) rfl 0 rfl 0 (by decide) (List.mem_cons_of_mem _ q_742) (fun _ h => h) rfl dX4_fill_56 ?_
    refine vIload X dX4_fill_59 0 rfl ?_
    refine vIaload X (v := B1 (Rm (r)) (f + i)) 1 1 rfl rfl rfl (by omega) (by decide) (fl2_at _ (X := Rm (r)) (Y := f + i) (by omega) (by omega)) dX4_fill_61 ?_
    refine vIadd X dX4_fill_62 (v := (s1) + (B1 (Rm (r)) (f + i))) rfl ?_
    refine vIstore X [(6, .int ((s1) + (B1 (Rm (r)) (f + i)))), (8, .int (nI ((((256) * (Rm (r))) + (f)) + (i)))), (7, .int (nI (i))), (0, .ref (o 0)), (1, .int (nI (r))), (2, .int (nI (f))), (3, .int (nI (n))), (4, .int (x)), (5, .int (st))] dX4_fill_63 (by decide) rfl ?_
    refine vAloadN X dX4_fill_65 3 rfl ?_
    refine vGet X (C := RX4) (T := TX4) (N := 10) (ci := 4) (vcons inM) rfl 0 rfl 0 (by decide) (List.mem_cons_of_mem _ q_742) (fun _ h => h) rfl dX4_fill_66 ?_
    refine vIload X dX4_fill_69 1 rfl ?_
    refine vAloadN X dX4_fill_71 3 rfl ?_
    refine vIload X dX4_fill_72 7 rfl ?_
    refine vIload X dX4_fill_74 2 rfl ?_
    refine vIload X dX4_fill_76 8 rfl ?_
    refine vImul X dX4_fill_78 (v := (nI (i)) * (st)) rfl ?_
    refine vIadd X dX4_fill_79 (v := (x) + ((nI (i)) * (st))) rfl ?_
    refine vCallVd X [.int (nI ((((256) * (Rm (r))) + (f)) + (i))), .ref (o 1)] (mm_low l D k o pl sb B1 Ln Rm Rd Pl Mk G Sz Kp th ((x) + ((nI (i)) * (st)))) (vGV q_822 q_824 q_13 q_29 q_825) ⟨by decide, by decide, (show _ = some 1 from by decide +kernel)⟩ ⟨Nat.le_of_ble_eq_true rfl, Nat.le_of_ble_eq_true rfl⟩ 0 4 rfl rfl rfl rfl (Nat.le_of_ble_eq_true rfl) dX4_fill_80 ⟨Nat.zero_le _, Nat.zero_le _⟩ ?_
    refine vIastore X (g := fl2 (up2 B1 (Rm (r)) (f + i) (lb ((x) + ((nI (i)) * (st)))))) 1 1 rfl rfl rfl (by omega) (by decide) (fl2_up _ _ (X := Rm (r)) (Y := f + i) (by omega) (by omega)) dX4_fill_83 ?_
    refine vWs (ws' := mW k o pl (up2 B1 (Rm (r)) (f + i) (lb ((x) + ((nI (i)) * (st))))) Ln Rm Rd Pl Mk G Sz Kp th) rfl ?_
    refine vIinc X [(7, .int (nI (i + 1))), (6, .int ((s1) + (B1 (Rm (r)) (f + i)))), (8, .int (nI ((((256) * (Rm (r))) + (f)) + (i)))), (0, .ref (o 0)), (1, .int (nI (r))), (2, .int (nI (f))), (3, .int (nI (n))), (4, .int (x)), (5, .int (st))] dX4_fill_84 2 rfl (nI_inc _) (by decide) rfl ?_
    refine vGoto X 30 dX4_fill_87 (by decide) ?_
    refine vSub [0, 1, 3, 4, 5, 6, 7, 8] [(7, .int (nI (i + 1))), (6, .int ((s1) + (B1 (Rm (r)) (f + i)))), (0, .ref (o 0)), (1, .int (nI (r))), (2, .int (nI (f))), (3, .int (nI (n))), (4, .int (x)), (5, .int (st))] rfl ?_
    exact ih (i + 1) _ _ (by omega) (by rw [hB1]; exact fillB_1 _ _ _ _ _ _) (by rw [hs1, hB1, fillB_at]; rfl)
set_option maxHeartbeats 4000000 in
set_option maxRecDepth 100000 in
theorem mm_fill1 (l : Launch) (D : va_G) (k : Nat → ClassId) (o : Nat → Nat) (pl : va_W) (sb : Nat) (B : Nat → Nat → Int32) (Ln Rm : Nat → Nat) (Rd : Nat → Option Nat) (Pl Mk : Nat → Nat) (G : Nat → Nat → Int32) (Sz : Nat → Nat) (Kp : Nat → Int32) (th : Int32) (x f n y z : Int32) (hRm : ∀ r, r < 4 → Rm r < 8) (hLn : ∀ a, Ln a ≤ 256) (hpart : ¬ vPart Ln Rm x f n) : vCt l yX4_fill cX4_fill 9 (some .int) 2 44 0 0 D vCl (vTy k) sb [.ref (o 0), .int (x), .int (f), .int (n), .int (y), .int (z)] (mW k o pl B Ln Rm Rd Pl Mk G Sz Kp th) (vDet (some (.int (nI (0)))) (mW k o pl B Ln Rm Rd Pl Mk G Sz Kp (nI (1)))) := by
  refine vOf (by decide +kernel) (Nat.le_of_ble_eq_true rfl) (fun p9 e9 s9 m9 below9 meth9 c9 X hret _ => ?_)
  refine vAloadN X dX4_fill_0 0 rfl ?_
  refine vAloadN X dX4_fill_1 0 rfl ?_
  refine vIloadN X dX4_fill_2 1 rfl ?_
  refine vIloadN X dX4_fill_3 2 rfl ?_
  refine vIloadN X dX4_fill_4 3 rfl ?_
  refine vCallVd X [.ref (o 0)] (mm_isPartF l D k o pl sb B Ln Rm Rd Pl Mk G Sz Kp th x f n hRm hLn hpart) (vGV q_814 q_816 q_12 q_29 q_817) ⟨by decide, by decide, (show _ = some 3 from by decide +kernel)⟩ ⟨Nat.le_of_ble_eq_true rfl, Nat.le_of_ble_eq_true rfl⟩ 0 4 rfl rfl rfl rfl (Nat.le_of_ble_eq_true rfl) dX4_fill_5 ⟨Nat.zero_le _, Nat.zero_le _⟩ ?_
  refine vIfN_eqT X 15 dX4_fill_8 (by decide) (by omega) (by omega) ?_
  refine vIconst X dX4_fill_15 (v := nI (1)) (by decide) ?_
  refine vCallVd X [] (mm_isWrong1 l D k o pl sb B Ln Rm Rd Pl Mk G Sz Kp th 1 (by decide) (by decide)) (vGV q_786 q_788 q_8 q_29 q_789) ⟨by decide, by decide, (show _ = some 1 from by decide +kernel)⟩ ⟨Nat.le_of_ble_eq_true rfl, Nat.le_of_ble_eq_true rfl⟩ 0 4 rfl rfl rfl rfl (Nat.le_of_ble_eq_true rfl) dX4_fill_16 ⟨Nat.zero_le _, Nat.zero_le _⟩ ?_
  refine vIfN_eqF X 24 dX4_fill_19 (by decide) (by omega) (by omega) ?_
  refine vIconst X dX4_fill_22 (v := nI (0)) (by decide) ?_
  exact vRetI X hret dX4_fill_23 ⟨rfl, rfl⟩
set_option maxHeartbeats 4000000 in
set_option maxRecDepth 100000 in
theorem mm_fill0 (l : Launch) (D : va_G) (k : Nat → ClassId) (o : Nat → Nat) (pl : va_W) (sb : Nat) (B : Nat → Nat → Int32) (Ln Rm : Nat → Nat) (Rd : Nat → Option Nat) (Pl Mk : Nat → Nat) (G : Nat → Nat → Int32) (Sz : Nat → Nat) (Kp : Nat → Int32) (th : Int32) (r f n : Nat) (x st : Int32) (hr : r < 4) (hp : f + n ≤ Ln (Rm r)) (hRm : ∀ r, r < 4 → Rm r < 8) (hLn : ∀ a, Ln a ≤ 256) : vCt l yX4_fill cX4_fill 9 (some .int) 2 44 0 0 D vCl (vTy k) sb [.ref (o 0), .int (nI (r)), .int (nI (f)), .int (nI (n)), .int (x), .int (st)] (mW k o pl B Ln Rm Rd Pl Mk G Sz Kp th) (vDet (some (.int (smB (B (Rm r)) f n))) (mW k o pl (fillB B (Rm r) f n x st) Ln Rm Rd Pl Mk G Sz Kp (nI (0)))) := by
  have hRr := hRm r hr
  have hLr := hLn (Rm r)
  refine vOf (by decide +kernel) (Nat.le_of_ble_eq_true rfl) (fun p9 e9 s9 m9 below9 meth9 c9 X hret _ => ?_)
  refine vAloadN X dX4_fill_0 0 rfl ?_
  refine vAloadN X dX4_fill_1 0 rfl ?_
  refine vIloadN X dX4_fill_2 1 rfl ?_
  refine vIloadN X dX4_fill_3 2 rfl ?_
  refine vIloadN X dX4_fill_4 3 rfl ?_
  refine vCallVd X [.ref (o 0)] (mm_isPartT l D k o pl sb B Ln Rm Rd Pl Mk G Sz Kp th r f n (by omega) (by omega) (by omega) (by omega)) (vGV q_814 q_816 q_12 q_29 q_817) ⟨by decide, by decide, (show _ = some 3 from by decide +kernel)⟩ ⟨Nat.le_of_ble_eq_true rfl, Nat.le_of_ble_eq_true rfl⟩ 0 4 rfl rfl rfl rfl (Nat.le_of_ble_eq_true rfl) dX4_fill_5 ⟨Nat.zero_le _, Nat.zero_le _⟩ ?_
  refine vIfN_eqF X 15 dX4_fill_8 (by decide) (by omega) (by omega) ?_
  refine vIconst X dX4_fill_11 (v := nI (0)) (by decide) ?_
  refine vGoto X 16 dX4_fill_12 (by decide) ?_
  refine vCallVd X [] (mm_isWrong0 l D k o pl sb B Ln Rm Rd Pl Mk G Sz Kp th ) (vGV q_786 q_788 q_8 q_29 q_789) ⟨by decide, by decide, (show _ = some 1 from by decide +kernel)⟩ ⟨Nat.le_of_ble_eq_true rfl, Nat.le_of_ble_eq_true rfl⟩ 0 4 rfl rfl rfl rfl (Nat.le_of_ble_eq_true rfl) dX4_fill_16 ⟨Nat.zero_le _, Nat.zero_le _⟩ ?_
  refine vIfN_eqT X 24 dX4_fill_19 (by decide) (by omega) (by omega) ?_
  refine vIconst X dX4_fill_24 (v := nI (0)) (by decide) ?_
  refine vIstore X [(6, .int (nI (0))), (0, .ref (o 0)), (1, .int (nI (r))), (2, .int (nI (f))), (3, .int (nI (n))), (4, .int (x)), (5, .int (st))] dX4_fill_25 (by decide) rfl ?_
  refine vIconst X dX4_fill_27 (v := nI (0)) (by decide) ?_
  refine vIstore X [(7, .int (nI (0))), (6, .int (nI (0))), (0, .ref (o 0)), (1, .int (nI (r))), (2, .int (nI (f))), (3, .int (nI (n))), (4, .int (x)), (5, .int (st))] dX4_fill_28 (by decide) rfl ?_
  refine vSub [0, 1, 2, 3, 4, 5, 6, 7] [(7, .int (nI (0))), (6, .int (nI (0))), (0, .ref (o 0)), (1, .int (nI (r))), (2, .int (nI (f))), (3, .int (nI (n))), (4, .int (x)), (5, .int (st))] rfl ?_
  refine mL_fill D k o pl sb B Ln Rm Rd Pl Mk G Sz Kp (nI (0)) r f n x st hr hp hRm hLn X ?_ (n) 0 _ _ (by omega) (fillB_0 _ _ _ _ _) rfl
  refine vIload X dX4_fill_90 0 rfl ?_
  exact vRetI X hret dX4_fill_92 ⟨rfl, rfl⟩
