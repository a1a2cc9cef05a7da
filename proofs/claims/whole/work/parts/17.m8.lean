set_option maxHeartbeats 4000000 in
set_option maxRecDepth 100000 in
theorem mm_leftShare1 (l : Launch) (D : va_G) (k : Nat → ClassId) (o : Nat → Nat) (pl : va_W) (sb : Nat) (B : Nat → Nat → Int32) (Ln Rm : Nat → Nat) (Rd : Nat → Option Nat) (Pl Mk : Nat → Nat) (G : Nat → Nat → Int32) (Sz : Nat → Nat) (Kp : Nat → Int32) (th : Int32) (x : Int32) (hx : ¬ vOther x) : vCt l yX4_leftShare cX4_leftShare 2 (some .float) 1 21 0 0 D vCl (vTy k) sb [.ref (o 0), .int (x)] (mW k o pl B Ln Rm Rd Pl Mk G Sz Kp th) (vDet (some (.float (FP.fconst0))) (mW k o pl B Ln Rm Rd Pl Mk G Sz Kp (nI (1)))) := by
  refine vOf (by decide +kernel) (Nat.le_of_ble_eq_true rfl) (fun p9 e9 s9 m9 below9 meth9 c9 X hret _ => ?_)
  refine vAloadN X dX4_leftShare_0 0 rfl ?_
  refine vAloadN X dX4_leftShare_1 0 rfl ?_
  refine vIloadN X dX4_leftShare_2 1 rfl ?_
  refine vCallVd X [.ref (o 0)] (mm_isOtherF l D k o pl sb B Ln Rm Rd Pl Mk G Sz Kp th x hx) (vGV q_838 q_840 q_14 q_29 q_841) ⟨by decide, by decide, (show _ = some 1 from by decide +kernel)⟩ ⟨Nat.le_of_ble_eq_true rfl, Nat.le_of_ble_eq_true rfl⟩ 0 4 rfl rfl rfl rfl (Nat.le_of_ble_eq_true rfl) dX4_leftShare_3 ⟨Nat.zero_le _, Nat.zero_le _⟩ ?_
  refine vIfN_neF X 13 dX4_leftShare_6 (by decide) (by omega) (by omega) ?_
  refine vIconst X dX4_leftShare_9 (v := nI (1)) (by decide) ?_
  refine vGoto X 45 dX4_leftShare_10 (by decide) ?_
  refine vCallVd X [] (mm_isWrong1 l D k o pl sb B Ln Rm Rd Pl Mk G Sz Kp th 1 (by decide) (by decide)) (vGV q_786 q_788 q_8 q_29 q_789) ⟨by decide, by decide, (show _ = some 1 from by decide +kernel)⟩ ⟨Nat.le_of_ble_eq_true rfl, Nat.le_of_ble_eq_true rfl⟩ 0 4 rfl rfl rfl rfl (Nat.le_of_ble_eq_true rfl) dX4_leftShare_45 ⟨Nat.zero_le _, Nat.zero_le _⟩ ?_
  refine vIfN_eqF X 53 dX4_leftShare_48 (by decide) (by omega) (by omega) ?_
  refine vFconst0 X dX4_leftShare_51 ?_
  exact vRetF X hret dX4_leftShare_52 ⟨rfl, rfl⟩
set_option maxHeartbeats 4000000 in
set_option maxRecDepth 100000 in
theorem mm_leftShare2 (l : Launch) (D : va_G) (k : Nat → ClassId) (o : Nat → Nat) (pl : va_W) (sb : Nat) (B : Nat → Nat → Int32) (Ln Rm : Nat → Nat) (Rd : Nat → Option Nat) (Pl Mk : Nat → Nat) (G : Nat → Nat → Int32) (Sz : Nat → Nat) (Kp : Nat → Int32) (th : Int32) (g : Nat) (hg : g < 3) (hgRd : Rd g = none) : vCt l yX4_leftShare cX4_leftShare 2 (some .float) 1 21 0 0 D vCl (vTy k) sb [.ref (o 0), .int (nI (g))] (mW k o pl B Ln Rm Rd Pl Mk G Sz Kp th) (vDet (some (.float (FP.fconst0))) (mW k o pl B Ln Rm Rd Pl Mk G Sz Kp (nI (2)))) := by
  refine vOf (by decide +kernel) (Nat.le_of_ble_eq_true rfl) (fun p9 e9 s9 m9 below9 meth9 c9 X hret _ => ?_)
  refine vAloadN X dX4_leftShare_0 0 rfl ?_
  refine vAloadN X dX4_leftShare_1 0 rfl ?_
  refine vIloadN X dX4_leftShare_2 1 rfl ?_
  refine vCallVd X [.ref (o 0)] (mm_isOtherT l D k o pl sb B Ln Rm Rd Pl Mk G Sz Kp th g (by omega)) (vGV q_838 q_840 q_14 q_29 q_841) ⟨by decide, by decide, (show _ = some 1 from by decide +kernel)⟩ ⟨Nat.le_of_ble_eq_true rfl, Nat.le_of_ble_eq_true rfl⟩ 0 4 rfl rfl rfl rfl (Nat.le_of_ble_eq_true rfl) dX4_leftShare_3 ⟨Nat.zero_le _, Nat.zero_le _⟩ ?_
  refine vIfN_neT X 13 dX4_leftShare_6 (by decide) (by omega) (by omega) ?_
  refine vAloadN X dX4_leftShare_13 0 rfl ?_
  refine vGet X (C := RX4) (T := TX4) (N := 10) (ci := 4) (vcons inM) rfl 0 rfl 3 (by decide) (List.mem_cons_of_mem _ q_745) (fun _ h => h) rfl dX4_leftShare_14 ?_
  refine vIloadN X dX4_leftShare_17 1 rfl ?_
  refine vIaload X (v := (-1 : Int32)) 4 1 rfl rfl rfl (by omega) (by decide) (oI_none hgRd) dX4_leftShare_18 ?_
  refine vIf_geF X 26 dX4_leftShare_19 (by decide) (by first | assumption | exact Int32.not_lt.mpr (by assumption) | exact Int32.not_le.mpr (by assumption) | exact Int32.not_lt.mp (by assumption) | exact Int32.not_le.mp (by assumption) | decide) ?_
  refine vIconst X dX4_leftShare_22 (v := nI (2)) (by decide) ?_
  refine vGoto X 45 dX4_leftShare_23 (by decide) ?_
  refine vCallVd X [] (mm_isWrong1 l D k o pl sb B Ln Rm Rd Pl Mk G Sz Kp th 2 (by decide) (by decide)) (vGV q_786 q_788 q_8 q_29 q_789) ⟨by decide, by decide, (show _ = some 1 from by decide +kernel)⟩ ⟨Nat.le_of_ble_eq_true rfl, Nat.le_of_ble_eq_true rfl⟩ 0 4 rfl rfl rfl rfl (Nat.le_of_ble_eq_true rfl) dX4_leftShare_45 ⟨Nat.zero_le _, Nat.zero_le _⟩ ?_
  refine vIfN_eqF X 53 dX4_leftShare_48 (by decide) (by omega) (by omega) ?_
  refine vFconst0 X dX4_leftShare_51 ?_
  exact vRetF X hret dX4_leftShare_52 ⟨rfl, rfl⟩
set_option maxHeartbeats 4000000 in
set_option maxRecDepth 100000 in
theorem mm_leftShare3 (l : Launch) (D : va_G) (k : Nat → ClassId) (o : Nat → Nat) (pl : va_W) (sb : Nat) (B : Nat → Nat → Int32) (Ln Rm : Nat → Nat) (Rd : Nat → Option Nat) (Pl Mk : Nat → Nat) (G : Nat → Nat → Int32) (Sz : Nat → Nat) (Kp : Nat → Int32) (th : Int32) (g a : Nat) (hg : g < 3) (hgRd : Rd g = some a) (ha : a < 8) (hl : Ln a = 0) : vCt l yX4_leftShare cX4_leftShare 2 (some .float) 1 21 0 0 D vCl (vTy k) sb [.ref (o 0), .int (nI (g))] (mW k o pl B Ln Rm Rd Pl Mk G Sz Kp th) (vDet (some (.float (FP.fconst0))) (mW k o pl B Ln Rm Rd Pl Mk G Sz Kp (nI (3)))) := by
  refine vOf (by decide +kernel) (Nat.le_of_ble_eq_true rfl) (fun p9 e9 s9 m9 below9 meth9 c9 X hret _ => ?_)
  refine vAloadN X dX4_leftShare_0 0 rfl ?_
  refine vAloadN X dX4_leftShare_1 0 rfl ?_
  refine vIloadN X dX4_leftShare_2 1 rfl ?_
  refine vCallVd X [.ref (o 0)] (mm_isOtherT l D k o pl sb B Ln Rm Rd Pl Mk G Sz Kp th g (by omega)) (vGV q_838 q_840 q_14 q_29 q_841) ⟨by decide, by decide, (show _ = some 1 from by decide +kernel)⟩ ⟨Nat.le_of_ble_eq_true rfl, Nat.le_of_ble_eq_true rfl⟩ 0 4 rfl rfl rfl rfl (Nat.le_of_ble_eq_true rfl) dX4_leftShare_3 ⟨Nat.zero_le _, Nat.zero_le _⟩ ?_
  refine vIfN_neT X 13 dX4_leftShare_6 (by decide) (by omega) (by omega) ?_
  refine vAloadN X dX4_leftShare_13 0 rfl ?_
  refine vGet X (C := RX4) (T := TX4) (N := 10) (ci := 4) (vcons inM) rfl 0 rfl 3 (by decide) (List.mem_cons_of_mem _ q_745) (fun _ h => h) rfl dX4_leftShare_14 ?_
  refine vIloadN X dX4_leftShare_17 1 rfl ?_
  refine vIaload X (v := nI (a)) 4 1 rfl rfl rfl (by omega) (by decide) (oI_some hgRd) dX4_leftShare_18 ?_
  refine vIfN_geT X 26 dX4_leftShare_19 (by decide) (by omega) (by omega) ?_
  refine vAloadN X dX4_leftShare_26 0 rfl ?_
  refine vGet X (C := RX4) (T := TX4) (N := 10) (ci := 4) (vcons inM) rfl 0 rfl 1 (by decide) (List.mem_cons_of_mem _ q_743) (fun _ h => h) rfl dX4_leftShare_27 ?_
  refine vAloadN X dX4_leftShare_30 0 rfl ?_
  refine vGet X (C := RX4) (T := TX4) (N := 10) (ci := 4) (vcons inM) rfl 0 rfl 3 (by decide) (List.mem_cons_of_mem _ q_745) (fun _ h => h) rfl dX4_leftShare_31 ?_
  refine vIloadN X dX4_leftShare_34 1 rfl ?_
  refine vIaload X (v := nI (a)) 4 1 rfl rfl rfl (by omega) (by decide) (oI_some hgRd) dX4_leftShare_35 ?_
  refine vIaload X (v := nI (Ln (a))) 2 1 rfl rfl rfl (by omega) (by decide) rfl dX4_leftShare_36 ?_
  refine vIfN_neF X 44 dX4_leftShare_37 (by decide) (by omega) (by omega) ?_
  refine vIconst X dX4_leftShare_40 (v := nI (3)) (by decide) ?_
  refine vGoto X 45 dX4_leftShare_41 (by decide) ?_
  refine vCallVd X [] (mm_isWrong1 l D k o pl sb B Ln Rm Rd Pl Mk G Sz Kp th 3 (by decide) (by decide)) (vGV q_786 q_788 q_8 q_29 q_789) ⟨by decide, by decide, (show _ = some 1 from by decide +kernel)⟩ ⟨Nat.le_of_ble_eq_true rfl, Nat.le_of_ble_eq_true rfl⟩ 0 4 rfl rfl rfl rfl (Nat.le_of_ble_eq_true rfl) dX4_leftShare_45 ⟨Nat.zero_le _, Nat.zero_le _⟩ ?_
  refine vIfN_eqF X 53 dX4_leftShare_48 (by decide) (by omega) (by omega) ?_
  refine vFconst0 X dX4_leftShare_51 ?_
  exact vRetF X hret dX4_leftShare_52 ⟨rfl, rfl⟩
set_option maxHeartbeats 4000000 in
set_option maxRecDepth 100000 in
theorem mm_leftShare0 (l : Launch) (D : va_G) (k : Nat → ClassId) (o : Nat → Nat) (pl : va_W) (sb : Nat) (B : Nat → Nat → Int32) (Ln Rm : Nat → Nat) (Rd : Nat → Option Nat) (Pl Mk : Nat → Nat) (G : Nat → Nat → Int32) (Sz : Nat → Nat) (Kp : Nat → Int32) (th : Int32) (g a : Nat) (hg : g < 3) (hgRd : Rd g = some a) (ha : a < 8) (hla : Ln a ≤ 256) (hpl : Pl g ≤ Ln a) (hl : 0 < Ln a) (hnn : vf_n32 (FP.fdiv (FP.i2f (nI (Ln a - Pl g))) (FP.i2f (nI (Ln a))))) : vCt l yX4_leftShare cX4_leftShare 2 (some .float) 1 21 0 0 D vCl (vTy k) sb [.ref (o 0), .int (nI (g))] (mW k o pl B Ln Rm Rd Pl Mk G Sz Kp th) (vDet (some (.float (FP.fdiv (FP.i2f (nI (Ln a - Pl g))) (FP.i2f (nI (Ln a)))))) (mW k o pl B Ln Rm Rd Pl Mk G Sz Kp (nI (0)))) := by
  refine vOf (by decide +kernel) (Nat.le_of_ble_eq_true rfl) (fun p9 e9 s9 m9 below9 meth9 c9 X hret _ => ?_)
  refine vAloadN X dX4_leftShare_0 0 rfl ?_
  refine vAloadN X dX4_leftShare_1 0 rfl ?_
  refine vIloadN X dX4_leftShare_2 1 rfl ?_
  refine vCallVd X [.ref (o 0)] (mm_isOtherT l D k o pl sb B Ln Rm Rd Pl Mk G Sz Kp th g (by omega)) (vGV q_838 q_840 q_14 q_29 q_841) ⟨by decide, by decide, (show _ = some 1 from by decide +kernel)⟩ ⟨Nat.le_of_ble_eq_true rfl, Nat.le_of_ble_eq_true rfl⟩ 0 4 rfl rfl rfl rfl (Nat.le_of_ble_eq_true rfl) dX4_leftShare_3 ⟨Nat.zero_le _, Nat.zero_le _⟩ ?_
  refine vIfN_neT X 13 dX4_leftShare_6 (by decide) (by omega) (by omega) ?_
  refine vAloadN X dX4_leftShare_13 0 rfl ?_
  refine vGet X (C := RX4) (T := TX4) (N := 10) (ci := 4) (vcons inM) rfl 0 rfl 3 (by decide) (List.mem_cons_of_mem _ q_745) (fun _ h => h) rfl dX4_leftShare_14 ?_
  refine vIloadN X dX4_leftShare_17 1 rfl ?_
  refine vIaload X (v := nI (a)) 4 1 rfl rfl rfl (by omega) (by decide) (oI_some hgRd) dX4_leftShare_18 ?_
  refine vIfN_geT X 26 dX4_leftShare_19 (by decide) (by omega) (by omega) ?_
  refine vAloadN X dX4_leftShare_26 0 rfl ?_
  refine vGet X (C := RX4) (T := TX4) (N := 10) (ci := 4) (vcons inM) rfl 0 rfl 1 (by decide) (List.mem_cons_of_mem _ q_743) (fun _ h => h) rfl dX4_leftShare_27 ?_
  refine vAloadN X dX4_leftShare_30 0 rfl ?_
  refine vGet X (C := RX4) (T := TX4) (N := 10) (ci := 4) (vcons inM) rfl 0 rfl 3 (by decide) (List.mem_cons_of_mem _ q_745) (fun _ h => h) rfl dX4_leftShare_31 ?_
  refine vIloadN X dX4_leftShare_34 1 rfl ?_
  refine vIaload X (v := nI (a)) 4 1 rfl rfl rfl (by omega) (by decide) (oI_some hgRd) dX4_leftShare_35 ?_
  refine vIaload X (v := nI (Ln (a))) 2 1 rfl rfl rfl (by omega) (by decide) rfl dX4_leftShare_36 ?_
  refine vIfN_neT X 44 dX4_leftShare_37 (by decide) (by omega) (by omega) ?_
  refine vIconst X dX4_leftShare_44 (v := nI (0)) (by decide) ?_
  refine vCallVd X [] (mm_isWrong0 l D k o pl sb B Ln Rm Rd Pl Mk G Sz Kp th ) (vGV q_786 q_788 q_8 q_29 q_789) ⟨by decide, by decide, (show _ = some 1 from by decide +kernel)⟩ ⟨Nat.le_of_ble_eq_true rfl, Nat.le_of_ble_eq_true rfl⟩ 0 4 rfl rfl rfl rfl (Nat.le_of_ble_eq_true rfl) dX4_leftShare_45 ⟨Nat.zero_le _, Nat.zero_le _⟩ ?_
  refine vIfN_eqT X 53 dX4_leftShare_48 (by decide) (by omega) (by omega) ?_
  refine vAloadN X dX4_leftShare_53 0 rfl ?_
  refine vIloadN X dX4_leftShare_54 1 rfl ?_
  refine vCallVd X [] (mm_leftOf l D k o pl sb B Ln Rm Rd Pl Mk G Sz Kp (nI (0)) g a (Pl (g)) (by omega) hgRd (by omega) (by omega) rfl (by omega)) (vGV q_879 q_881 q_17 q_29 q_882) ⟨by decide, by decide, (show _ = some 1 from by decide +kernel)⟩ ⟨Nat.le_of_ble_eq_true rfl, Nat.le_of_ble_eq_true rfl⟩ 0 4 rfl rfl rfl rfl (Nat.le_of_ble_eq_true rfl) dX4_leftShare_55 ⟨Nat.zero_le _, Nat.zero_le _⟩ ?_
  refine vI2f X dX4_leftShare_58 ?_
  refine vAloadN X dX4_leftShare_59 0 rfl ?_
  refine vGet X (C := RX4) (T := TX4) (N := 10) (ci := 4) (vcons inM) rfl 0 rfl 1 (by decide) (List.mem_cons_of_mem _ q_743) (fun _ h => h) rfl dX4_leftShare_60 ?_
  refine vAloadN X dX4_leftShare_63 0 rfl ?_
  refine vGet X (C := RX4) (T := TX4) (N := 10) (ci := 4) (vcons inM) rfl 0 rfl 3 (by decide) (List.mem_cons_of_mem _ q_745) (fun _ h => h) rfl dX4_leftShare_64 ?_
  refine vIloadN X dX4_leftShare_67 1 rfl ?_
  refine vIaload X (v := nI (a)) 4 1 rfl rfl rfl (by omega) (by decide) (oI_some hgRd) dX4_leftShare_68 ?_
  refine vIaload X (v := nI (Ln (a))) 2 1 rfl rfl rfl (by omega) (by decide) rfl dX4_leftShare_69 ?_
  refine vI2f X dX4_leftShare_70 ?_
  refine vFdiv X dX4_leftShare_71 hnn ?_
  exact vRetF X hret dX4_leftShare_72 ⟨rfl, rfl⟩
def smS (Sz : Nat → Nat) : Nat → Nat
  | 0 => 0
  | i + 1 => smS Sz i + Sz i
def cnS (Sz : Nat → Nat) : Nat → Nat
  | 0 => 0
  | i + 1 => cnS Sz i + (if 0 < Sz i then 1 else 0)
theorem smS_le {Sz : Nat → Nat} (h : ∀ g, g < 3 → Sz g ≤ 256) : ∀ i, i ≤ 3 → smS Sz i ≤ 256 * i
  | 0, _ => by simp [smS]
  | i + 1, q => by
    have h1 := smS_le h i (by omega)
    have h2 := h i (by omega)
    simp only [smS]
    omega
theorem cnS_le (Sz : Nat → Nat) : ∀ i, cnS Sz i ≤ i
  | 0 => by simp [cnS]
  | i + 1 => by
    have := cnS_le Sz i
    simp only [cnS]
    split <;> omega
set_option maxHeartbeats 4000000 in
set_option maxRecDepth 100000 in
theorem mL_meanSize {p9 : Program} {l : Launch} {e9 : Env} {s9 : State} {m9 : MethodId} {args9 : Array Value} {below9 : List Frame} {meth9 : Method} {c9 : Code} {Q9 : State → Prop} (D : va_G) (k : Nat → ClassId) (o : Nat → Nat) (pl : va_W) (sb : Nat) (B : Nat → Nat → Int32) (Ln Rm : Nat → Nat) (Rd : Nat → Option Nat) (Pl Mk : Nat → Nat) (G : Nat → Nat → Int32) (Sz : Nat → Nat) (Kp : Nat → Int32) (th : Int32)  (hSz : ∀ g, g < 3 → Sz g ≤ 256) (X : vCX p9 s9 m9 args9 meth9 c9 cX4_meanSize 4 yX4_meanSize.cls (Cond.code yX4_meanSize cX4_meanSize 4 (some .double) :: vGW) D vCl (vTy k) sb) (hex : vV p9 l e9 ({ frames := 1, cells := 0, slots := 0, locals := 21 }) s9 m9 args9 below9 meth9 c9 4 D vCl sb Q9 (mW k o pl B Ln Rm Rd Pl Mk G Sz Kp th) 0 0 43 [(2, .int (nI (cnS Sz 3))), (1, .int (nI (smS Sz 3))), (0, .ref (o 0))] []) : ∀ (z i : Nat) (s1 : Nat) (c1 : Nat), i + z = 3 → s1 = smS Sz i → c1 = cnS Sz i → vV p9 l e9 ({ frames := 1, cells := 0, slots := 0, locals := 21 }) s9 m9 args9 below9 meth9 c9 4 D vCl sb Q9 (mW k o pl B Ln Rm Rd Pl Mk G Sz Kp th) 0 0 6 [(3, .int (nI (i))), (2, .int (nI (c1))), (1, .int (nI (s1))), (0, .ref (o 0))] [] := by
  intro z
  induction z with
  | zero =>
    intro i s1 c1 hi hs1 hc1
    have hin : 3 = i := by omega
    subst hin
    subst hs1
    subst hc1
    refine vIloadN X dX4_meanSize_6 0 rfl ?_
    refine vIconst X dX4_meanSize_7 (v := nI (3)) (by decide) ?_
    refine vIcmpN_geT X 43 dX4_meanSize_8 (by decide) (by omega) (by omega) (by omega) ?_
    refine vSub [1, 2, 3] [(2, .int (nI (cnS Sz 3))), (1, .int (nI (smS Sz 3))), (0, .ref (o 0))] rfl ?_
    exact hex
  | succ z ih =>
    intro i s1 c1 hi hs1 hc1
    have hSi := hSz i (by omega)
    refine vIloadN X dX4_meanSize_6 0 rfl ?_
    refine vIconst X dX4_meanSize_7 (v := nI (3)) (by decide) ?_
    refine vIcmpN_geF X 43 dX4_meanSize_8 (by decide) (by omega) (by omega) (by omega) ?_
    refine vIloadN X dX4_meanSize_11 2 rfl ?_
    refine vAloadN X dX4_meanSize_12 3 rfl ?_
    refine vGet X (C := RX4) (T := TX4) (N := 10) (ci := 4) (vcons inM) rfl 0 rfl 7 (by decide) (List.mem_cons_of_mem _ q_749) (fun _ h => h) rfl dX4_meanSize_13 ?_
    refine vIloadN X dX4_meanSize_16 0 rfl ?_
    refine vIaload X (v := nI (Sz (i))) 8 1 rfl rfl rfl (by omega) (by decide) rfl dX4_meanSize_17 ?_
    refine vIadd X dX4_meanSize_18 (v := nI ((s1) + (Sz (i)))) (nI_add _ _) ?_
    refine vIstoreN X [(1, .int (nI ((s1) + (Sz (i))))), (3, .int (nI (i))), (2, .int (nI (c1))), (0, .ref (o 0))] dX4_meanSize_19 (by decide) rfl ?_
    refine vIloadN X dX4_meanSize_20 2 rfl ?_
    refine vAloadN X dX4_meanSize_21 3 rfl ?_
    refine vGet X (C := RX4) (T := TX4) (N := 10) (ci := 4) (vcons inM) rfl 0 rfl 7 (by decide) (List.mem_cons_of_mem _ q_749) (fun _ h => h) rfl dX4_meanSize_22 ?_
    refine vIloadN X dX4_meanSize_25 1 rfl ?_
    refine vIaload X (v := nI (Sz (i))) 8 1 rfl rfl rfl (by omega) (by decide) rfl dX4_meanSize_26 ?_
    refine vIf_le X 34 dX4_meanSize_27 (by decide) (fun hc27 => ?_) (fun hc27 => ?_)
    · have hc27 : ¬ 0 < Sz i := by
        intro q
        have := (nI_leI (b := 0) (by omega) (by omega)).mp hc27
        omega
      refine vIconst X dX4_meanSize_34 (v := nI (0)) (by decide) ?_
      refine vIadd X dX4_meanSize_35 (v := nI ((c1) + (0))) (nI_add _ _) ?_
      refine vIstoreN X [(2, .int (nI ((c1) + (0)))), (1, .int (nI ((s1) + (Sz (i))))), (3, .int (nI (i))), (0, .ref (o 0))] dX4_meanSize_36 (by decide) rfl ?_
      refine vIinc X [(3, .int (nI (i + 1))), (2, .int (nI ((c1) + (0)))), (1, .int (nI ((s1) + (Sz (i))))), (0, .ref (o 0))] dX4_meanSize_37 2 rfl (nI_inc _) (by decide) rfl ?_
      refine vGoto X 6 dX4_meanSize_40 (by decide) ?_
      refine vSub [0, 1, 2, 3] [(3, .int (nI (i + 1))), (2, .int (nI ((c1) + (0)))), (1, .int (nI ((s1) + (Sz (i))))), (0, .ref (o 0))] rfl ?_
      exact ih (i + 1) _ _ (by omega) (by rw [hs1]; rfl) (by rw [hc1]; simp [cnS, hc27])
    · have hc27 : 0 < Sz i := Nat.lt_of_not_le (fun q => hc27 ((nI_leI (b := 0) (by omega) (by omega)).mpr q))
      refine vIconst X dX4_meanSize_30 (v := nI (1)) (by decide) ?_
      refine vGoto X 35 dX4_meanSize_31 (by decide) ?_
      refine vIadd X dX4_meanSize_35 (v := nI ((c1) + (1))) (nI_add _ _) ?_
      refine vIstoreN X [(2, .int (nI ((c1) + (1)))), (1, .int (nI ((s1) + (Sz (i))))), (3, .int (nI (i))), (0, .ref (o 0))] dX4_meanSize_36 (by decide) rfl ?_
      refine vIinc X [(3, .int (nI (i + 1))), (2, .int (nI ((c1) + (1)))), (1, .int (nI ((s1) + (Sz (i))))), (0, .ref (o 0))] dX4_meanSize_37 2 rfl (nI_inc _) (by decide) rfl ?_
      refine vGoto X 6 dX4_meanSize_40 (by decide) ?_
      refine vSub [0, 1, 2, 3] [(3, .int (nI (i + 1))), (2, .int (nI ((c1) + (1)))), (1, .int (nI ((s1) + (Sz (i))))), (0, .ref (o 0))] rfl ?_
      exact ih (i + 1) _ _ (by omega) (by rw [hs1]; rfl) (by rw [hc1]; simp [cnS, hc27])
set_option maxHeartbeats 4000000 in
set_option maxRecDepth 100000 in
theorem mm_meanSize1 (l : Launch) (D : va_G) (k : Nat → ClassId) (o : Nat → Nat) (pl : va_W) (sb : Nat) (B : Nat → Nat → Int32) (Ln Rm : Nat → Nat) (Rd : Nat → Option Nat) (Pl Mk : Nat → Nat) (G : Nat → Nat → Int32) (Sz : Nat → Nat) (Kp : Nat → Int32) (th : Int32)  (hSz : ∀ g, g < 3 → Sz g ≤ 256) (hz : cnS Sz 3 = 0) : vCt l yX4_meanSize cX4_meanSize 4 (some .double) 1 21 0 0 D vCl (vTy k) sb [.ref (o 0)] (mW k o pl B Ln Rm Rd Pl Mk G Sz Kp th) (vDet (some (.double (FP.dconst0))) (mW k o pl B Ln Rm Rd Pl Mk G Sz Kp (nI (1)))) := by
  have hc3 := cnS_le Sz 3
  have hs3 := smS_le hSz 3 (by omega)
  refine vOf (by decide +kernel) (Nat.le_of_ble_eq_true rfl) (fun p9 e9 s9 m9 below9 meth9 c9 X hret _ => ?_)
  refine vIconst X dX4_meanSize_0 (v := nI (0)) (by decide) ?_
  refine vIstoreN X [(1, .int (nI (0))), (0, .ref (o 0))] dX4_meanSize_1 (by decide) rfl ?_
  refine vIconst X dX4_meanSize_2 (v := nI (0)) (by decide) ?_
  refine vIstoreN X [(2, .int (nI (0))), (1, .int (nI (0))), (0, .ref (o 0))] dX4_meanSize_3 (by decide) rfl ?_
  refine vIconst X dX4_meanSize_4 (v := nI (0)) (by decide) ?_
  refine vIstoreN X [(3, .int (nI (0))), (2, .int (nI (0))), (1, .int (nI (0))), (0, .ref (o 0))] dX4_meanSize_5 (by decide) rfl ?_
  refine vSub [0, 1, 2, 3] [(3, .int (nI (0))), (2, .int (nI (0))), (1, .int (nI (0))), (0, .ref (o 0))] rfl ?_
  refine mL_meanSize D k o pl sb B Ln Rm Rd Pl Mk G Sz Kp th hSz X ?_ (3) 0 _ _ (by omega) rfl rfl
  refine vAloadN X dX4_meanSize_43 2 rfl ?_
  refine vIloadN X dX4_meanSize_44 0 rfl ?_
  refine vIfN_neF X 52 dX4_meanSize_45 (by decide) (by omega) (by omega) ?_
  refine vIconst X dX4_meanSize_48 (v := nI (1)) (by decide) ?_
  refine vGoto X 53 dX4_meanSize_49 (by decide) ?_
  refine vCallVd X [] (mm_isWrong1 l D k o pl sb B Ln Rm Rd Pl Mk G Sz Kp th 1 (by decide) (by decide)) (vGV q_786 q_788 q_8 q_29 q_789) ⟨by decide, by decide, (show _ = some 1 from by decide +kernel)⟩ ⟨Nat.le_of_ble_eq_true rfl, Nat.le_of_ble_eq_true rfl⟩ 0 4 rfl rfl rfl rfl (Nat.le_of_ble_eq_true rfl) dX4_meanSize_53 ⟨Nat.zero_le _, Nat.zero_le _⟩ ?_
  refine vIfN_eqF X 63 dX4_meanSize_56 (by decide) (by omega) (by omega) ?_
  refine vDconst0 X dX4_meanSize_59 ?_
  refine vGoto X 68 dX4_meanSize_60 (by decide) ?_
  exact vRetD X hret dX4_meanSize_68 ⟨rfl, rfl⟩
set_option maxHeartbeats 4000000 in
set_option maxRecDepth 100000 in
theorem mm_meanSize0 (l : Launch) (D : va_G) (k : Nat → ClassId) (o : Nat → Nat) (pl : va_W) (sb : Nat) (B : Nat → Nat → Int32) (Ln Rm : Nat → Nat) (Rd : Nat → Option Nat) (Pl Mk : Nat → Nat) (G : Nat → Nat → Int32) (Sz : Nat → Nat) (Kp : Nat → Int32) (th : Int32)  (hSz : ∀ g, g < 3 → Sz g ≤ 256) (hz : 0 < cnS Sz 3) (hnn : vf_n64 (FP.ddiv (FP.i2d (nI (smS Sz 3))) (FP.i2d (nI (cnS Sz 3))))) : vCt l yX4_meanSize cX4_meanSize 4 (some .double) 1 21 0 0 D vCl (vTy k) sb [.ref (o 0)] (mW k o pl B Ln Rm Rd Pl Mk G Sz Kp th) (vDet (some (.double (FP.ddiv (FP.i2d (nI (smS Sz 3))) (FP.i2d (nI (cnS Sz 3)))))) (mW k o pl B Ln Rm Rd Pl Mk G Sz Kp (nI (0)))) := by
  have hc3 := cnS_le Sz 3
  have hs3 := smS_le hSz 3 (by omega)
  refine vOf (by decide +kernel) (Nat.le_of_ble_eq_true rfl) (fun p9 e9 s9 m9 below9 meth9 c9 X hret _ => ?_)
  refine vIconst X dX4_meanSize_0 (v := nI (0)) (by decide) ?_
  refine vIstoreN X [(1, .int (nI (0))), (0, .ref (o 0))] dX4_meanSize_1 (by decide) rfl ?_
  refine vIconst X dX4_meanSize_2 (v := nI (0)) (by decide) ?_
  refine vIstoreN X [(2, .int (nI (0))), (1, .int (nI (0))), (0, .ref (o 0))] dX4_meanSize_3 (by decide) rfl ?_
  refine vIconst X dX4_meanSize_4 (v := nI (0)) (by decide) ?_
  refine vIstoreN X [(3, .int (nI (0))), (2, .int (nI (0))), (1, .int (nI (0))), (0, .ref (o 0))] dX4_meanSize_5 (by decide) rfl ?_
  refine vSub [0, 1, 2, 3] [(3, .int (nI (0))), (2, .int (nI (0))), (1, .int (nI (0))), (0, .ref (o 0))] rfl ?_
  refine mL_meanSize D k o pl sb B Ln Rm Rd Pl Mk G Sz Kp th hSz X ?_ (3) 0 _ _ (by omega) rfl rfl
  refine vAloadN X dX4_meanSize_43 2 rfl ?_
  refine vIloadN X dX4_meanSize_44 0 rfl ?_
  refine vIfN_neT X 52 dX4_meanSize_45 (by decide) (by omega) (by omega) ?_
  refine vIconst X dX4_meanSize_52 (v := nI (0)) (by decide) ?_
  refine vCallVd X [] (mm_isWrong0 l D k o pl sb B Ln Rm Rd Pl Mk G Sz Kp th ) (vGV q_786 q_788 q_8 q_29 q_789) ⟨by decide, by decide, (show _ = some 1 from by decide +kernel)⟩ ⟨Nat.le_of_ble_eq_true rfl, Nat.le_of_ble_eq_true rfl⟩ 0 4 rfl rfl rfl rfl (Nat.le_of_ble_eq_true rfl) dX4_meanSize_53 ⟨Nat.zero_le _, Nat.zero_le _⟩ ?_
  refine vIfN_eqT X 63 dX4_meanSize_56 (by decide) (by omega) (by omega) ?_
  refine vIloadN X dX4_meanSize_63 1 rfl ?_
  refine vI2d X dX4_meanSize_64 ?_
  refine vIloadN X dX4_meanSize_65 0 rfl ?_
  refine vI2d X dX4_meanSize_66 ?_
  refine vDdiv X dX4_meanSize_67 hnn ?_
  exact vRetD X hret dX4_meanSize_68 ⟨rfl, rfl⟩
def ckI (g : Nat → Int32) (s : Int64) : Nat → Int64
  | 0 => s
  | i + 1 => (31 : Int64) * ckI g s i + (g i).toInt64
def ckR (B : Nat → Nat → Int32) (Ln Rm : Nat → Nat) : Nat → Int64
  | 0 => (7 : Int64)
  | r + 1 => ckI (B (Rm r)) ((31 : Int64) * ckR B Ln Rm r + lN (Ln (Rm r))) (Ln (Rm r))
def ckG (G : Nat → Nat → Int32) (Sz : Nat → Nat) (s : Int64) : Nat → Int64
  | 0 => s
  | g + 1 => ckI (G g) ((31 : Int64) * ckG G Sz s g + lN (Sz g)) (Sz g)
def ckL (Ln : Nat → Nat) (Rd : Nat → Option Nat) (Pl : Nat → Nat) (g : Nat) : Int64 := match Rd g with
  | none => (-1 : Int32).toInt64
  | some a => lN (Ln a - Pl g)
def ckD (Ln : Nat → Nat) (Rd : Nat → Option Nat) (Pl : Nat → Nat) (s : Int64) : Nat → Int64
  | 0 => s
  | g + 1 => (31 : Int64) * ckD Ln Rd Pl s g + ckL Ln Rd Pl g
set_option maxHeartbeats 4000000 in
set_option maxRecDepth 100000 in
theorem mL_ck1 {p9 : Program} {l : Launch} {e9 : Env} {s9 : State} {m9 : MethodId} {args9 : Array Value} {below9 : List Frame} {meth9 : Method} {c9 : Code} {Q9 : State → Prop} (D : va_G) (k : Nat → ClassId) (o : Nat → Nat) (pl : va_W) (sb : Nat) (B : Nat → Nat → Int32) (Ln Rm : Nat → Nat) (Rd : Nat → Option Nat) (Pl Mk : Nat → Nat) (G : Nat → Nat → Int32) (Sz : Nat → Nat) (Kp : Nat → Int32) (th : Int32) (r : Nat) (s0 : Int64) (hr : r < 4) (hRm : ∀ r, r < 4 → Rm r < 8) (hLn : ∀ a, Ln a ≤ 256) (X : vCX p9 s9 m9 args9 meth9 c9 cX4_checksum 5 yX4_checksum.cls (Cond.code yX4_checksum cX4_checksum 5 (some .long) :: vGW) D vCl (vTy k) sb) (hex : vV p9 l e9 ({ frames := 1, cells := 0, slots := 0, locals := 21 }) s9 m9 args9 below9 meth9 c9 5 D vCl sb Q9 (mW k o pl B Ln Rm Rd Pl Mk G Sz Kp th) 0 0 74 [(1, .long (ckI (B (Rm r)) s0 (Ln (Rm r)))), (3, .int (nI (r))), (0, .ref (o 0))] []) : ∀ (z i : Nat) (s1 : Int64), i + z = Ln (Rm r) → s1 = ckI (B (Rm r)) s0 i → vV p9 l e9 ({ frames := 1, cells := 0, slots := 0, locals := 21 }) s9 m9 args9 below9 meth9 c9 5 D vCl sb Q9 (mW k o pl B Ln Rm Rd Pl Mk G Sz Kp th) 0 0 32 [(4, .int (nI (i))), (1, .long (s1)), (3, .int (nI (r))), (0, .ref (o 0))] [] := by
  intro z
  induction z with
  | zero =>
    intro i s1 hi hs1
    have hRr := hRm r hr
    have hLr := hLn (Rm r)
    have hin : i = Ln (Rm r) := by omega
    subst hin
    subst hs1
    refine vIload X dX4_checksum_32 0 rfl ?_
    refine vAloadN X dX4_checksum_34 3 rfl ?_
    refine vIloadN X dX4_checksum_35 2 rfl ?_
    refine vCallVd X [.int (nI (Ln (Rm r)))] (mm_long0 l D k o pl sb B Ln Rm Rd Pl Mk G Sz Kp th r (by omega) (by omega)) (vGV q_790 q_792 q_9 q_29 q_793) ⟨by decide, by decide, (show _ = some 1 from by decide +kernel)⟩ ⟨Nat.le_of_ble_eq_true rfl, Nat.le_of_ble_eq_true rfl⟩ 0 4 rfl rfl rfl rfl (Nat.le_of_ble_eq_true rfl) dX4_checksum_36 ⟨Nat.zero_le _, Nat.zero_le _⟩ ?_
    refine vIcmpN_geT X 74 dX4_checksum_39 (by decide) (by omega) (by omega) (by omega) ?_
    refine vSub [1, 2, 3] [(1, .long (ckI (B (Rm r)) s0 (Ln (Rm r)))), (3, .int (nI (r))), (0, .ref (o 0))] rfl ?_
    exact hex
  | succ z ih =>
    intro i s1 hi hs1
    have hRr := hRm r hr
    have hLr := hLn (Rm r)
    refine vIload X dX4_checksum_32 0 rfl ?_
    refine vAloadN X dX4_checksum_34 3 rfl ?_
    refine vIloadN X dX4_checksum_35 2 rfl ?_
    refine vCallVd X [.int (nI (i))] (mm_long0 l D k o pl sb B Ln Rm Rd Pl Mk G Sz Kp th r (by omega) (by omega)) (vGV q_790 q_792 q_9 q_29 q_793) ⟨by decide, by decide, (show _ = some 1 from by decide +kernel)⟩ ⟨Nat.le_of_ble_eq_true rfl, Nat.le_of_ble_eq_true rfl⟩ 0 4 rfl rfl rfl rfl (Nat.le_of_ble_eq_true rfl) dX4_checksum_36 ⟨Nat.zero_le _, Nat.zero_le _⟩ ?_
    refine vIcmpN_geF X 74 dX4_checksum_39 (by decide) (by omega) (by omega) (by omega) ?_
    refine vLdc2 X (v := (31 : Int64)) (List.mem_cons_of_mem _ q_977) dX4_checksum_42 ?_
    refine vLloadN X dX4_checksum_45 1 rfl ?_
    refine vLmul X dX4_checksum_46 (v := ((31 : Int64)) * (s1)) rfl ?_
    refine vAloadN X dX4_checksum_47 3 rfl ?_
    refine vGet X (C := RX4) (T := TX4) (N := 10) (ci := 4) (vcons inM) rfl 0 rfl 0 (by decide) (List.mem_cons_of_mem _ q_742) (fun _ h => h) rfl dX4_checksum_48 ?_
    refine vSipush X dX4_checksum_51 (v := nI (256)) (by decide) ?_
    refine vAloadN X dX4_checksum_54 3 rfl ?_
    refine vGet X (C := RX4) (T := TX4) (N := 10) (ci := 4) (vcons inM) rfl 0 rfl 2 (by decide) (List.mem_cons_of_mem _ q_744) (fun _ h => h) rfl dX4_checksum_55 ?_
    refine vIloadN X dX4_checksum_58 2 rfl ?_
    refine vIaload X (v := nI (Rm (r))) 3 1 rfl rfl rfl (by omega) (by decide) rfl dX4_checksum_59 ?_
    refine vImul X dX4_checksum_60 (v := nI ((256) * (Rm (r)))) (pk_mul _ _) ?_
    refine vIload X dX4_checksum_61 0 rfl ?_
    refine vIadd X dX4_checksum_63 (v := nI (((256) * (Rm (r))) + (i))) (nI_add _ _) ?_
    refine vIaload X (v := B (Rm (r)) (i)) 1 1 rfl rfl rfl (by omega) (by decide) (fl2_at _ (X := Rm (r)) (Y := i) (by omega) (by omega)) dX4_checksum_64 ?_
    refine vI2l X dX4_checksum_65 (v := (B (Rm (r)) (i)).toInt64) rfl ?_
    refine vLadd X dX4_checksum_66 (v := (((31 : Int64)) * (s1)) + ((B (Rm (r)) (i)).toInt64)) rfl ?_
    refine vLstoreN X [(1, .long ((((31 : Int64)) * (s1)) + ((B (Rm (r)) (i)).toInt64))), (4, .int (nI (i))), (3, .int (nI (r))), (0, .ref (o 0))] dX4_checksum_67 (by decide) rfl ?_
    refine vIinc X [(4, .int (nI (i + 1))), (1, .long ((((31 : Int64)) * (s1)) + ((B (Rm (r)) (i)).toInt64))), (3, .int (nI (r))), (0, .ref (o 0))] dX4_checksum_68 1 rfl (nI_inc _) (by decide) rfl ?_
    refine vGoto X 32 dX4_checksum_71 (by decide) ?_
    refine vSub [0, 1, 2, 3] [(4, .int (nI (i + 1))), (1, .long ((((31 : Int64)) * (s1)) + ((B (Rm (r)) (i)).toInt64))), (3, .int (nI (r))), (0, .ref (o 0))] rfl ?_
    exact ih (i + 1) _ (by omega) (by rw [hs1]; rfl)
set_option maxHeartbeats 4000000 in
set_option maxRecDepth 100000 in
theorem mL_ck2 {p9 : Program} {l : Launch} {e9 : Env} {s9 : State} {m9 : MethodId} {args9 : Array Value} {below9 : List Frame} {meth9 : Method} {c9 : Code} {Q9 : State → Prop} (D : va_G) (k : Nat → ClassId) (o : Nat → Nat) (pl : va_W) (sb : Nat) (B : Nat → Nat → Int32) (Ln Rm : Nat → Nat) (Rd : Nat → Option Nat) (Pl Mk : Nat → Nat) (G : Nat → Nat → Int32) (Sz : Nat → Nat) (Kp : Nat → Int32) (th : Int32)  (hRm : ∀ r, r < 4 → Rm r < 8) (hLn : ∀ a, Ln a ≤ 256) (X : vCX p9 s9 m9 args9 meth9 c9 cX4_checksum 5 yX4_checksum.cls (Cond.code yX4_checksum cX4_checksum 5 (some .long) :: vGW) D vCl (vTy k) sb) (hex : vV p9 l e9 ({ frames := 1, cells := 0, slots := 0, locals := 21 }) s9 m9 args9 below9 meth9 c9 5 D vCl sb Q9 (mW k o pl B Ln Rm Rd Pl Mk G Sz Kp th) 0 0 80 [(1, .long (ckR B Ln Rm 4)), (0, .ref (o 0))] []) : ∀ (z i : Nat) (t1 : Int64), i + z = 4 → t1 = ckR B Ln Rm i → vV p9 l e9 ({ frames := 1, cells := 0, slots := 0, locals := 21 }) s9 m9 args9 below9 meth9 c9 5 D vCl sb Q9 (mW k o pl B Ln Rm Rd Pl Mk G Sz Kp th) 0 0 11 [(1, .long (t1)), (3, .int (nI (i))), (0, .ref (o 0))] [] := by
  intro z
  induction z with
  | zero =>
    intro i t1 hi ht1
    have hin : 4 = i := by omega
    subst hin
    subst ht1
    refine vIloadN X dX4_checksum_11 1 rfl ?_
    refine vIconst X dX4_checksum_12 (v := nI (4)) (by decide) ?_
    refine vIcmpN_geT X 80 dX4_checksum_13 (by decide) (by omega) (by omega) (by omega) ?_
    refine vSub [0, 2] [(1, .long (ckR B Ln Rm 4)), (0, .ref (o 0))] rfl ?_
    exact hex
  | succ z ih =>
    intro i t1 hi ht1
    have hRi := hRm i (by omega)
    have hLi := hLn (Rm i)
    refine vIloadN X dX4_checksum_11 1 rfl ?_
    refine vIconst X dX4_checksum_12 (v := nI (4)) (by decide) ?_
    refine vIcmpN_geF X 80 dX4_checksum_13 (by decide) (by omega) (by omega) (by omega) ?_
    refine vLdc2 X (v := (31 : Int64)) (List.mem_cons_of_mem _ q_977) dX4_checksum_16 ?_
    refine vLloadN X dX4_checksum_19 0 rfl ?_
    refine vLmul X dX4_checksum_20 (v := ((31 : Int64)) * (t1)) rfl ?_
    refine vAloadN X dX4_checksum_21 2 rfl ?_
    refine vIloadN X dX4_checksum_22 1 rfl ?_
    refine vCallVd X [.long (((31 : Int64)) * (t1))] (mm_long0 l D k o pl sb B Ln Rm Rd Pl Mk G Sz Kp th i (by omega) (by omega)) (vGV q_790 q_792 q_9 q_29 q_793) ⟨by decide, by decide, (show _ = some 1 from by decide +kernel)⟩ ⟨Nat.le_of_ble_eq_true rfl, Nat.le_of_ble_eq_true rfl⟩ 0 4 rfl rfl rfl rfl (Nat.le_of_ble_eq_true rfl) dX4_checksum_23 ⟨Nat.zero_le _, Nat.zero_le _⟩ ?_
    refine vI2l X dX4_checksum_26 (v := lN (Ln (Rm i))) (nI_l (by omega)) ?_
    refine vLadd X dX4_checksum_27 (v := (((31 : Int64)) * (t1)) + (lN (Ln (Rm i)))) rfl ?_
    refine vLstoreN X [(1, .long ((((31 : Int64)) * (t1)) + (lN (Ln (Rm i))))), (3, .int (nI (i))), (0, .ref (o 0))] dX4_checksum_28 (by decide) rfl ?_
    refine vIconst X dX4_checksum_29 (v := nI (0)) (by decide) ?_
    refine vIstore X [(4, .int (nI (0))), (1, .long ((((31 : Int64)) * (t1)) + (lN (Ln (Rm i))))), (3, .int (nI (i))), (0, .ref (o 0))] dX4_checksum_30 (by decide) rfl ?_
    refine vSub [0, 1, 2, 3] [(4, .int (nI (0))), (1, .long ((((31 : Int64)) * (t1)) + (lN (Ln (Rm i))))), (3, .int (nI (i))), (0, .ref (o 0))] rfl ?_
    refine mL_ck1 D k o pl sb B Ln Rm Rd Pl Mk G Sz Kp th i _ (by omega) hRm hLn X ?_ (Ln (Rm i)) 0 _ (by omega) rfl
    refine vIinc X [(3, .int (nI (i + 1))), (1, .long (ckI (B (Rm i)) ((((31 : Int64)) * (t1)) + (lN (Ln (Rm i)))) (Ln (Rm i)))), (0, .ref (o 0))] dX4_checksum_74 1 rfl (nI_inc _) (by decide) rfl ?_
    refine vGoto X 11 dX4_checksum_77 (by decide) ?_
    refine vSub [1, 0, 2] [(1, .long (ckI (B (Rm i)) ((((31 : Int64)) * (t1)) + (lN (Ln (Rm i)))) (Ln (Rm i)))), (3, .int (nI (i + 1))), (0, .ref (o 0))] rfl ?_
    exact ih (i + 1) _ (by omega) (by rw [ht1]; rfl)
set_option maxHeartbeats 4000000 in
set_option maxRecDepth 100000 in
theorem mL_ck3 {p9 : Program} {l : Launch} {e9 : Env} {s9 : State} {m9 : MethodId} {args9 : Array Value} {below9 : List Frame} {meth9 : Method} {c9 : Code} {Q9 : State → Prop} (D : va_G) (k : Nat → ClassId) (o : Nat → Nat) (pl : va_W) (sb : Nat) (B : Nat → Nat → Int32) (Ln Rm : Nat → Nat) (Rd : Nat → Option Nat) (Pl Mk : Nat → Nat) (G : Nat → Nat → Int32) (Sz : Nat → Nat) (Kp : Nat → Int32) (th : Int32) (g : Nat) (s0 : Int64) (hg : g < 3) (hSz : ∀ g, g < 3 → Sz g ≤ 256) (X : vCX p9 s9 m9 args9 meth9 c9 cX4_checksum 5 yX4_checksum.cls (Cond.code yX4_checksum cX4_checksum 5 (some .long) :: vGW) D vCl (vTy k) sb) (hex : vV p9 l e9 ({ frames := 1, cells := 0, slots := 0, locals := 21 }) s9 m9 args9 below9 meth9 c9 5 D vCl sb Q9 (mW k o pl B Ln Rm Rd Pl Mk G Sz Kp th) 0 0 142 [(1, .long (ckI (G g) s0 (Sz g))), (3, .int (nI (g))), (0, .ref (o 0))] []) : ∀ (z i : Nat) (s1 : Int64), i + z = Sz g → s1 = ckI (G g) s0 i → vV p9 l e9 ({ frames := 1, cells := 0, slots := 0, locals := 21 }) s9 m9 args9 below9 meth9 c9 5 D vCl sb Q9 (mW k o pl B Ln Rm Rd Pl Mk G Sz Kp th) 0 0 104 [(4, .int (nI (i))), (1, .long (s1)), (3, .int (nI (g))), (0, .ref (o 0))] [] := by
  intro z
  induction z with
  | zero =>
    intro i s1 hi hs1
    have hSg := hSz g hg
    have hin : i = Sz g := by omega
    subst hin
    subst hs1
    refine vIload X dX4_checksum_104 0 rfl ?_
    refine vAloadN X dX4_checksum_106 3 rfl ?_
    refine vGet X (C := RX4) (T := TX4) (N := 10) (ci := 4) (vcons inM) rfl 0 rfl 7 (by decide) (List.mem_cons_of_mem _ q_749) (fun _ h => h) rfl dX4_checksum_107 ?_
    refine vIloadN X dX4_checksum_110 2 rfl ?_
    refine vIaload X (v := nI (Sz (g))) 8 1 rfl rfl rfl (by omega) (by decide) rfl dX4_checksum_111 ?_
    refine vIcmpN_geT X 142 dX4_checksum_112 (by decide) (by omega) (by omega) (by omega) ?_
    refine vSub [1, 2, 3] [(1, .long (ckI (G g) s0 (Sz g))), (3, .int (nI (g))), (0, .ref (o 0))] rfl ?_
    exact hex
  | succ z ih =>
    intro i s1 hi hs1
    have hSg := hSz g hg
    refine vIload X dX4_checksum_104 0 rfl ?_
    refine vAloadN X dX4_checksum_106 3 rfl ?_
    refine vGet X (C := RX4) (T := TX4) (N := 10) (ci := 4) (vcons inM) rfl 0 rfl 7 (by decide) (List.mem_cons_of_mem _ q_749) (fun _ h => h) rfl dX4_checksum_107 ?_
    refine vIloadN X dX4_checksum_110 2 rfl ?_
    refine vIaload X (v := nI (Sz (g))) 8 1 rfl rfl rfl (by omega) (by decide) rfl dX4_checksum_111 ?_
    refine vIcmpN_geF X 142 dX4_checksum_112 (by decide) (by omega) (by omega) (by omega) ?_
    refine vLdc2 X (v := (31 : Int64)) (List.mem_cons_of_mem _ q_977) dX4_checksum_115 ?_
    refine vLloadN X dX4_checksum_118 1 rfl ?_
    refine vLmul X dX4_checksum_119 (v := ((31 : Int64)) * (s1)) rfl ?_
    refine vAloadN X dX4_checksum_120 3 rfl ?_
    refine vGet X (C := RX4) (T := TX4) (N := 10) (ci := 4) (vcons inM) rfl 0 rfl 6 (by decide) (List.mem_cons_of_mem _ q_748) (fun _ h => h) rfl dX4_checksum_121 ?_
    refine vSipush X dX4_checksum_124 (v := nI (256)) (by decide) ?_
    refine vIloadN X dX4_checksum_127 2 rfl ?_
    refine vImul X dX4_checksum_128 (v := nI ((256) * (g))) (pk_mul _ _) ?_
    refine vIload X dX4_checksum_129 0 rfl ?_
    refine vIadd X dX4_checksum_131 (v := nI (((256) * (g)) + (i))) (nI_add _ _) ?_
    refine vIaload X (v := G (g) (i)) 7 1 rfl rfl rfl (by omega) (by decide) (fl2_at _ (X := g) (Y := i) (by omega) (by omega)) dX4_checksum_132 ?_
    refine vI2l X dX4_checksum_133 (v := (G (g) (i)).toInt64) rfl ?_
    refine vLadd X dX4_checksum_134 (v := (((31 : Int64)) * (s1)) + ((G (g) (i)).toInt64)) rfl ?_
    refine vLstoreN X [(1, .long ((((31 : Int64)) * (s1)) + ((G (g) (i)).toInt64))), (4, .int (nI (i))), (3, .int (nI (g))), (0, .ref (o 0))] dX4_checksum_135 (by decide) rfl ?_
    refine vIinc X [(4, .int (nI (i + 1))), (1, .long ((((31 : Int64)) * (s1)) + ((G (g) (i)).toInt64))), (3, .int (nI (g))), (0, .ref (o 0))] dX4_checksum_136 1 rfl (nI_inc _) (by decide) rfl ?_
    refine vGoto X 104 dX4_checksum_139 (by decide) ?_
    refine vSub [0, 1, 2, 3] [(4, .int (nI (i + 1))), (1, .long ((((31 : Int64)) * (s1)) + ((G (g) (i)).toInt64))), (3, .int (nI (g))), (0, .ref (o 0))] rfl ?_
    exact ih (i + 1) _ (by omega) (by rw [hs1]; rfl)
set_option maxHeartbeats 4000000 in
set_option maxRecDepth 100000 in
theorem mL_ck4 {p9 : Program} {l : Launch} {e9 : Env} {s9 : State} {m9 : MethodId} {args9 : Array Value} {below9 : List Frame} {meth9 : Method} {c9 : Code} {Q9 : State → Prop} (D : va_G) (k : Nat → ClassId) (o : Nat → Nat) (pl : va_W) (sb : Nat) (B : Nat → Nat → Int32) (Ln Rm : Nat → Nat) (Rd : Nat → Option Nat) (Pl Mk : Nat → Nat) (G : Nat → Nat → Int32) (Sz : Nat → Nat) (Kp : Nat → Int32) (th : Int32) (s0 : Int64) (hSz : ∀ g, g < 3 → Sz g ≤ 256) (X : vCX p9 s9 m9 args9 meth9 c9 cX4_checksum 5 yX4_checksum.cls (Cond.code yX4_checksum cX4_checksum 5 (some .long) :: vGW) D vCl (vTy k) sb) (hex : vV p9 l e9 ({ frames := 1, cells := 0, slots := 0, locals := 21 }) s9 m9 args9 below9 meth9 c9 5 D vCl sb Q9 (mW k o pl B Ln Rm Rd Pl Mk G Sz Kp th) 0 0 148 [(1, .long (ckG G Sz s0 3)), (0, .ref (o 0))] []) : ∀ (z i : Nat) (t1 : Int64), i + z = 3 → t1 = ckG G Sz s0 i → vV p9 l e9 ({ frames := 1, cells := 0, slots := 0, locals := 21 }) s9 m9 args9 below9 meth9 c9 5 D vCl sb Q9 (mW k o pl B Ln Rm Rd Pl Mk G Sz Kp th) 0 0 82 [(1, .long (t1)), (3, .int (nI (i))), (0, .ref (o 0))] [] := by
  intro z
  induction z with
  | zero =>
    intro i t1 hi ht1
    have hin : 3 = i := by omega
    subst hin
    subst ht1
    refine vIloadN X dX4_checksum_82 1 rfl ?_
    refine vIconst X dX4_checksum_83 (v := nI (3)) (by decide) ?_
    refine vIcmpN_geT X 148 dX4_checksum_84 (by decide) (by omega) (by omega) (by omega) ?_
    refine vSub [0, 2] [(1, .long (ckG G Sz s0 3)), (0, .ref (o 0))] rfl ?_
    exact hex
  | succ z ih =>
    intro i t1 hi ht1
    have hSi := hSz i (by omega)
    refine vIloadN X dX4_checksum_82 1 rfl ?_
    refine vIconst X dX4_checksum_83 (v := nI (3)) (by decide) ?_
    refine vIcmpN_geF X 148 dX4_checksum_84 (by decide) (by omega) (by omega) (by omega) ?_
    refine vLdc2 X (v := (31 : Int64)) (List.mem_cons_of_mem _ q_977) dX4_checksum_87 ?_
    refine vLloadN X dX4_checksum_90 0 rfl ?_
    refine vLmul X dX4_checksum_91 (v := ((31 : Int64)) * (t1)) rfl ?_
    refine vAloadN X dX4_checksum_92 2 rfl ?_
    refine vGet X (C := RX4) (T := TX4) (N := 10) (ci := 4) (vcons inM) rfl 0 rfl 7 (by decide) (List.mem_cons_of_mem _ q_749) (fun _ h => h) rfl dX4_checksum_93 ?_
    refine vIloadN X dX4_checksum_96 1 rfl ?_
    refine vIaload X (v := nI (Sz (i))) 8 1 rfl rfl rfl (by omega) (by decide) rfl dX4_checksum_97 ?_
    refine vI2l X dX4_checksum_98 (v := lN (Sz (i))) (nI_l (by omega)) ?_
    refine vLadd X dX4_checksum_99 (v := (((31 : Int64)) * (t1)) + (lN (Sz (i)))) rfl ?_
    refine vLstoreN X [(1, .long ((((31 : Int64)) * (t1)) + (lN (Sz (i))))), (3, .int (nI (i))), (0, .ref (o 0))] dX4_checksum_100 (by decide) rfl ?_
    refine vIconst X dX4_checksum_101 (v := nI (0)) (by decide) ?_
    refine vIstore X [(4, .int (nI (0))), (1, .long ((((31 : Int64)) * (t1)) + (lN (Sz (i))))), (3, .int (nI (i))), (0, .ref (o 0))] dX4_checksum_102 (by decide) rfl ?_
    refine vSub [0, 1, 2, 3] [(4, .int (nI (0))), (1, .long ((((31 : Int64)) * (t1)) + (lN (Sz (i))))), (3, .int (nI (i))), (0, .ref (o 0))] rfl ?_
    refine mL_ck3 D k o pl sb B Ln Rm Rd Pl Mk G Sz Kp th i _ (by omega) hSz X ?_ (Sz i) 0 _ (by omega) rfl
    refine vIinc X [(3, .int (nI (i + 1))), (1, .long (ckI (G i) ((((31 : Int64)) * (t1)) + (lN (Sz (i)))) (Sz i))), (0, .ref (o 0))] dX4_checksum_142 1 rfl (nI_inc _) (by decide) rfl ?_
    refine vGoto X 82 dX4_checksum_145 (by decide) ?_
    refine vSub [1, 0, 2] [(1, .long (ckI (G i) ((((31 : Int64)) * (t1)) + (lN (Sz (i)))) (Sz i))), (3, .int (nI (i + 1))), (0, .ref (o 0))] rfl ?_
    exact ih (i + 1) _ (by omega) (by rw [ht1]; rfl)
set_option maxHeartbeats 4000000 in
set_option maxRecDepth 100000 in
theorem mL_ck5 {p9 : Program} {l : Launch} {e9 : Env} {s9 : State} {m9 : MethodId} {args9 : Array Value} {below9 : List Frame} {meth9 : Method} {c9 : Code} {Q9 : State → Prop} (D : va_G) (k : Nat → ClassId) (o : Nat → Nat) (pl : va_W) (sb : Nat) (B : Nat → Nat → Int32) (Ln Rm : Nat → Nat) (Rd : Nat → Option Nat) (Pl Mk : Nat → Nat) (G : Nat → Nat → Int32) (Sz : Nat → Nat) (Kp : Nat → Int32) (th : Int32) (s0 : Int64) (hLn : ∀ a, Ln a ≤ 256) (hRd : ∀ g, g < 3 → ∀ b, Rd g = some b → b < 8) (hPl : ∀ g, g < 3 → ∀ b, Rd g = some b → Pl g ≤ Ln b) (X : vCX p9 s9 m9 args9 meth9 c9 cX4_checksum 5 yX4_checksum.cls (Cond.code yX4_checksum cX4_checksum 5 (some .long) :: vGW) D vCl (vTy k) sb) (hex : vV p9 l e9 ({ frames := 1, cells := 0, slots := 0, locals := 21 }) s9 m9 args9 below9 meth9 c9 5 D vCl sb Q9 (mW k o pl B Ln Rm Rd Pl Mk G Sz Kp th) 0 0 187 [(1, .long (ckD Ln Rd Pl s0 3))] []) : ∀ (z i : Nat) (t1 : Int64), i + z = 3 → t1 = ckD Ln Rd Pl s0 i → vV p9 l e9 ({ frames := 1, cells := 0, slots := 0, locals := 21 }) s9 m9 args9 below9 meth9 c9 5 D vCl sb Q9 (mW k o pl B Ln Rm Rd Pl Mk G Sz Kp th) 0 0 150 [(1, .long (t1)), (3, .int (nI (i))), (0, .ref (o 0))] [] := by
  intro z
  induction z with
  | zero =>
    intro i t1 hi ht1
    have hin : 3 = i := by omega
    subst hin
    subst ht1
    refine vIloadN X dX4_checksum_150 1 rfl ?_
    refine vIconst X dX4_checksum_151 (v := nI (3)) (by decide) ?_
    refine vIcmpN_geT X 187 dX4_checksum_152 (by decide) (by omega) (by omega) (by omega) ?_
    refine vSub [0] [(1, .long (ckD Ln Rd Pl s0 3))] rfl ?_
    exact hex
  | succ z ih =>
    intro i t1 hi ht1
    refine vIloadN X dX4_checksum_150 1 rfl ?_
    refine vIconst X dX4_checksum_151 (v := nI (3)) (by decide) ?_
    refine vIcmpN_geF X 187 dX4_checksum_152 (by decide) (by omega) (by omega) (by omega) ?_
    rcases hiRd : Rd i with _ | a
    · have hcn : ckL Ln Rd Pl i = (-1 : Int32).toInt64 := by simp [ckL, hiRd]
      refine vLdc2 X (v := (31 : Int64)) (List.mem_cons_of_mem _ q_977) dX4_checksum_155 ?_
      refine vLloadN X dX4_checksum_158 0 rfl ?_
      refine vLmul X dX4_checksum_159 (v := ((31 : Int64)) * (t1)) rfl ?_
      refine vAloadN X dX4_checksum_160 2 rfl ?_
      refine vGet X (C := RX4) (T := TX4) (N := 10) (ci := 4) (vcons inM) rfl 0 rfl 3 (by decide) (List.mem_cons_of_mem _ q_745) (fun _ h => h) rfl dX4_checksum_161 ?_
      refine vIloadN X dX4_checksum_164 1 rfl ?_
      refine vIaload X (v := (-1 : Int32)) 4 1 rfl rfl rfl (by omega) (by decide) (oI_none hiRd) dX4_checksum_165 ?_
      refine vIf_geF X 173 dX4_checksum_166 (by decide) (by first | assumption | exact Int32.not_lt.mpr (by assumption) | exact Int32.not_le.mpr (by assumption) | exact Int32.not_lt.mp (by assumption) | exact Int32.not_le.mp (by assumption) | decide) ?_
      refine vIconst X dX4_checksum_169 (v := (-1 : Int32)) (by decide) ?_
      refine vGoto X 178 dX4_checksum_170 (by decide) ?_
      refine vI2l X dX4_checksum_178 (v := ((-1 : Int32)).toInt64) rfl ?_
      refine vLadd X dX4_checksum_179 (v := (((31 : Int64)) * (t1)) + (((-1 : Int32)).toInt64)) rfl ?_
      refine vLstoreN X [(1, .long ((((31 : Int64)) * (t1)) + (((-1 : Int32)).toInt64))), (3, .int (nI (i))), (0, .ref (o 0))] dX4_checksum_180 (by decide) rfl ?_
      refine vIinc X [(3, .int (nI (i + 1))), (1, .long ((((31 : Int64)) * (t1)) + (((-1 : Int32)).toInt64))), (0, .ref (o 0))] dX4_checksum_181 1 rfl (nI_inc _) (by decide) rfl ?_
      refine vGoto X 150 dX4_checksum_184 (by decide) ?_
      refine vSub [1, 0, 2] [(1, .long ((((31 : Int64)) * (t1)) + (((-1 : Int32)).toInt64))), (3, .int (nI (i + 1))), (0, .ref (o 0))] rfl ?_
      exact ih (i + 1) _ (by omega) (by rw [ht1]; simp only [ckD, hcn])
    · have ha8 := hRd i (by omega) a hiRd
      have hla := hLn a
      have hpl := hPl i (by omega) a hiRd
      have hcn : ckL Ln Rd Pl i = lN (Ln a - Pl i) := by simp [ckL, hiRd]
      refine vLdc2 X (v := (31 : Int64)) (List.mem_cons_of_mem _ q_977) dX4_checksum_155 ?_
      refine vLloadN X dX4_checksum_158 0 rfl ?_
      refine vLmul X dX4_checksum_159 (v := ((31 : Int64)) * (t1)) rfl ?_
      refine vAloadN X dX4_checksum_160 2 rfl ?_
      refine vGet X (C := RX4) (T := TX4) (N := 10) (ci := 4) (vcons inM) rfl 0 rfl 3 (by decide) (List.mem_cons_of_mem _ q_745) (fun _ h => h) rfl dX4_checksum_161 ?_
      refine vIloadN X dX4_checksum_164 1 rfl ?_
      refine vIaload X (v := nI (a)) 4 1 rfl rfl rfl (by omega) (by decide) (oI_some hiRd) dX4_checksum_165 ?_
      refine vIfN_geT X 173 dX4_checksum_166 (by decide) (by omega) (by omega) ?_
      refine vAloadN X dX4_checksum_173 2 rfl ?_
      refine vIloadN X dX4_checksum_174 1 rfl ?_
      refine vCallVd X [.long (((31 : Int64)) * (t1))] (mm_leftOf l D k o pl sb B Ln Rm Rd Pl Mk G Sz Kp th i a (Pl (i)) (by omega) hiRd (by omega) (by omega) rfl (by omega)) (vGV q_879 q_881 q_17 q_29 q_882) ⟨by decide, by decide, (show _ = some 1 from by decide +kernel)⟩ ⟨Nat.le_of_ble_eq_true rfl, Nat.le_of_ble_eq_true rfl⟩ 0 4 rfl rfl rfl rfl (Nat.le_of_ble_eq_true rfl) dX4_checksum_175 ⟨Nat.zero_le _, Nat.zero_le _⟩ ?_
      refine vI2l X dX4_checksum_178 (v := lN ((Ln a) - (Pl (i)))) (nI_l (by omega)) ?_
      refine vLadd X dX4_checksum_179 (v := (((31 : Int64)) * (t1)) + (lN ((Ln a) - (Pl (i))))) rfl ?_
      refine vLstoreN X [(1, .long ((((31 : Int64)) * (t1)) + (lN ((Ln a) - (Pl (i)))))), (3, .int (nI (i))), (0, .ref (o 0))] dX4_checksum_180 (by decide) rfl ?_
      refine vIinc X [(3, .int (nI (i + 1))), (1, .long ((((31 : Int64)) * (t1)) + (lN ((Ln a) - (Pl (i)))))), (0, .ref (o 0))] dX4_checksum_181 1 rfl (nI_inc _) (by decide) rfl ?_
      refine vGoto X 150 dX4_checksum_184 (by decide) ?_
      refine vSub [1, 0, 2] [(1, .long ((((31 : Int64)) * (t1)) + (lN ((Ln a) - (Pl (i)))))), (3, .int (nI (i + 1))), (0, .ref (o 0))] rfl ?_
      exact ih (i + 1) _ (by omega) (by rw [ht1]; simp only [ckD, hcn])
set_option maxHeartbeats 4000000 in
set_option maxRecDepth 100000 in
theorem mm_checksum (l : Launch) (D : va_G) (k : Nat → ClassId) (o : Nat → Nat) (pl : va_W) (sb : Nat) (B : Nat → Nat → Int32) (Ln Rm : Nat → Nat) (Rd : Nat → Option Nat) (Pl Mk : Nat → Nat) (G : Nat → Nat → Int32) (Sz : Nat → Nat) (Kp : Nat → Int32) (th : Int32)  (hRm : ∀ r, r < 4 → Rm r < 8) (hSz : ∀ g, g < 3 → Sz g ≤ 256) (hLn : ∀ a, Ln a ≤ 256) (hRd : ∀ g, g < 3 → ∀ b, Rd g = some b → b < 8) (hPl : ∀ g, g < 3 → ∀ b, Rd g = some b → Pl g ≤ Ln b) : vCt l yX4_checksum cX4_checksum 5 (some .long) 1 21 0 0 D vCl (vTy k) sb [.ref (o 0)] (mW k o pl B Ln Rm Rd Pl Mk G Sz Kp th) (vDet (some (.long (ckD Ln Rd Pl (ckG G Sz (ckR B Ln Rm 4) 3) 3))) (mW k o pl B Ln Rm Rd Pl Mk G Sz Kp (nI (0)))) := by
  refine vOf (by decide +kernel) (Nat.le_of_ble_eq_true rfl) (fun p9 e9 s9 m9 below9 meth9 c9 X hret _ => ?_)
  refine vAloadN X dX4_checksum_0 0 rfl ?_
  refine vIconst X dX4_checksum_1 (v := nI (0)) (by decide) ?_
  refine vPut X (C := RX4) (T := TX4) (N := 10) (ci := 4) (ty := .int) (vcons inM) tyX4 tyX4_ok nmX4 rfl 0 rfl 9 (by decide) (List.mem_cons_of_mem _ q_751) (fun _ h => h) rfl (by decide +kernel) rfl rfl (Nat.le_of_ble_eq_true rfl) dX4_checksum_2 ?_
  refine vWs (ws' := mW k o pl B Ln Rm Rd Pl Mk G Sz Kp (nI (0))) rfl ?_
  refine vLdc2 X (v := (7 : Int64)) (List.mem_cons_of_mem _ q_976) dX4_checksum_5 ?_
  refine vLstoreN X [(1, .long ((7 : Int64))), (0, .ref (o 0))] dX4_checksum_8 (by decide) rfl ?_
  refine vIconst X dX4_checksum_9 (v := nI (0)) (by decide) ?_
  refine vIstoreN X [(3, .int (nI (0))), (1, .long ((7 : Int64))), (0, .ref (o 0))] dX4_checksum_10 (by decide) rfl ?_
  refine vSub [1, 0, 2] [(1, .long ((7 : Int64))), (3, .int (nI (0))), (0, .ref (o 0))] rfl ?_
  refine mL_ck2 D k o pl sb B Ln Rm Rd Pl Mk G Sz Kp (nI (0)) hRm hLn X ?_ (4) 0 _ (by omega) rfl
  refine vIconst X dX4_checksum_80 (v := nI (0)) (by decide) ?_
  refine vIstoreN X [(3, .int (nI (0))), (1, .long (ckR B Ln Rm 4)), (0, .ref (o 0))] dX4_checksum_81 (by decide) rfl ?_
  refine vSub [1, 0, 2] [(1, .long (ckR B Ln Rm 4)), (3, .int (nI (0))), (0, .ref (o 0))] rfl ?_
  refine mL_ck4 D k o pl sb B Ln Rm Rd Pl Mk G Sz Kp (nI (0)) _ hSz X ?_ (3) 0 _ (by omega) rfl
  refine vIconst X dX4_checksum_148 (v := nI (0)) (by decide) ?_
  refine vIstoreN X [(3, .int (nI (0))), (1, .long (ckG G Sz (ckR B Ln Rm 4) 3)), (0, .ref (o 0))] dX4_checksum_149 (by decide) rfl ?_
  refine vSub [1, 0, 2] [(1, .long (ckG G Sz (ckR B Ln Rm 4) 3)), (3, .int (nI (0))), (0, .ref (o 0))] rfl ?_
  refine mL_ck5 D k o pl sb B Ln Rm Rd Pl Mk G Sz Kp (nI (0)) _ hLn hRd hPl X ?_ (3) 0 _ (by omega) rfl
  refine vLloadN X dX4_checksum_187 0 rfl ?_
  exact vRetL X hret dX4_checksum_188 ⟨rfl, rfl⟩
set_option maxHeartbeats 4000000 in
set_option maxRecDepth 100000 in
theorem mL_isTrue {p9 : Program} {l : Launch} {e9 : Env} {s9 : State} {m9 : MethodId} {args9 : Array Value} {below9 : List Frame} {meth9 : Method} {c9 : Code} {Q9 : State → Prop} (D : va_G) (k : Nat → ClassId) (o : Nat → Nat) (pl : va_W) (sb : Nat) (B : Nat → Nat → Int32) (Ln Rm : Nat → Nat) (Rd : Nat → Option Nat) (Pl Mk : Nat → Nat) (G : Nat → Nat → Int32) (Sz : Nat → Nat) (Kp : Nat → Int32) (th : Int32)  (hLn : ∀ a, Ln a ≤ 256) (hRd : ∀ g, g < 3 → ∀ b, Rd g = some b → b < 8) (hPl : ∀ g, g < 3 → ∀ b, Rd g = some b → Pl g ≤ Ln b) (hMk : ∀ g, g < 3 → ∀ b, Rd g = some b → Mk g ≤ Ln b) (X : vCX p9 s9 m9 args9 meth9 c9 cX4_isTrue 3 yX4_isTrue.cls (Cond.code yX4_isTrue cX4_isTrue 3 (some .boolean) :: vGW) D vCl (vTy k) sb) (hex : vV p9 l e9 ({ frames := 1, cells := 0, slots := 0, locals := 21 }) s9 m9 args9 below9 meth9 c9 3 D vCl sb Q9 (mW k o pl B Ln Rm Rd Pl Mk G Sz Kp th) 0 0 74 [(1, .int (nI (1)))] []) : ∀ (z i : Nat) , i + z = 3 → vV p9 l e9 ({ frames := 1, cells := 0, slots := 0, locals := 21 }) s9 m9 args9 below9 meth9 c9 3 D vCl sb Q9 (mW k o pl B Ln Rm Rd Pl Mk G Sz Kp th) 0 0 9 [(2, .int (nI (i))), (1, .int (nI (1))), (0, .ref (o 0))] [] := by
  intro z
  induction z with
  | zero =>
    intro i  hi 
    have hin : 3 = i := by omega
    subst hin
    refine vIloadN X dX4_isTrue_9 0 rfl ?_
    refine vIconst X dX4_isTrue_10 (v := nI (3)) (by decide) ?_
    refine vIcmpN_geT X 74 dX4_isTrue_11 (by decide) (by omega) (by omega) (by omega) ?_
    refine vSub [1] [(1, .int (nI (1)))] rfl ?_
    exact hex
  | succ z ih =>
    intro i  hi 
    refine vIloadN X dX4_isTrue_9 0 rfl ?_
    refine vIconst X dX4_isTrue_10 (v := nI (3)) (by decide) ?_
    refine vIcmpN_geF X 74 dX4_isTrue_11 (by decide) (by omega) (by omega) (by omega) ?_
    rcases hiRd : Rd i with _ | a
    · skip
      refine vIloadN X dX4_isTrue_14 1 rfl ?_
      refine vAloadN X dX4_isTrue_15 2 rfl ?_
      refine vGet X (C := RX4) (T := TX4) (N := 10) (ci := 4) (vcons inM) rfl 0 rfl 3 (by decide) (List.mem_cons_of_mem _ q_745) (fun _ h => h) rfl dX4_isTrue_16 ?_
      refine vIloadN X dX4_isTrue_19 0 rfl ?_
      refine vIaload X (v := (-1 : Int32)) 4 1 rfl rfl rfl (by omega) (by decide) (oI_none hiRd) dX4_isTrue_20 ?_
      refine vIf_ltT X 61 dX4_isTrue_21 (by decide) (by first | assumption | exact Int32.not_lt.mpr (by assumption) | exact Int32.not_le.mpr (by assumption) | exact Int32.not_lt.mp (by assumption) | exact Int32.not_le.mp (by assumption) | decide) ?_
      refine vIconst X dX4_isTrue_61 (v := nI (1)) (by decide) ?_
      refine vGoto X 66 dX4_isTrue_62 (by decide) ?_
      refine vIand X dX4_isTrue_66 (v := nI 1) (by decide) ?_
      refine vIstoreN X [(1, .int (nI (1))), (2, .int (nI (i))), (0, .ref (o 0))] dX4_isTrue_67 (by decide) rfl ?_
      refine vIinc X [(2, .int (nI (i + 1))), (1, .int (nI (1))), (0, .ref (o 0))] dX4_isTrue_68 1 rfl (nI_inc _) (by decide) rfl ?_
      refine vGoto X 9 dX4_isTrue_71 (by decide) ?_
      refine vSub [0, 1, 2] [(2, .int (nI (i + 1))), (1, .int (nI (1))), (0, .ref (o 0))] rfl ?_
      exact ih (i + 1) (by omega)
    · have ha8 := hRd i (by omega) a hiRd
      have hla := hLn a
      have hpl := hPl i (by omega) a hiRd
      have hmk := hMk i (by omega) a hiRd
      refine vIloadN X dX4_isTrue_14 1 rfl ?_
      refine vAloadN X dX4_isTrue_15 2 rfl ?_
      refine vGet X (C := RX4) (T := TX4) (N := 10) (ci := 4) (vcons inM) rfl 0 rfl 3 (by decide) (List.mem_cons_of_mem _ q_745) (fun _ h => h) rfl dX4_isTrue_16 ?_
      refine vIloadN X dX4_isTrue_19 0 rfl ?_
      refine vIaload X (v := nI (a)) 4 1 rfl rfl rfl (by omega) (by decide) (oI_some hiRd) dX4_isTrue_20 ?_
      refine vIfN_ltF X 61 dX4_isTrue_21 (by decide) (by omega) (by omega) ?_
      refine vAloadN X dX4_isTrue_24 2 rfl ?_
      refine vIloadN X dX4_isTrue_25 0 rfl ?_
      refine vCallVd X [.int (nI (1))] (mm_leftOf l D k o pl sb B Ln Rm Rd Pl Mk G Sz Kp th i a (Pl (i)) (by omega) hiRd (by omega) (by omega) rfl (by omega)) (vGV q_879 q_881 q_17 q_29 q_882) ⟨by decide, by decide, (show _ = some 1 from by decide +kernel)⟩ ⟨Nat.le_of_ble_eq_true rfl, Nat.le_of_ble_eq_true rfl⟩ 0 4 rfl rfl rfl rfl (Nat.le_of_ble_eq_true rfl) dX4_isTrue_26 ⟨Nat.zero_le _, Nat.zero_le _⟩ ?_
      refine vIfN_ltF X 65 dX4_isTrue_29 (by decide) (by omega) (by omega) ?_
      refine vAloadN X dX4_isTrue_32 2 rfl ?_
      refine vGet X (C := RX4) (T := TX4) (N := 10) (ci := 4) (vcons inM) rfl 0 rfl 5 (by decide) (List.mem_cons_of_mem _ q_747) (fun _ h => h) rfl dX4_isTrue_33 ?_
      refine vIloadN X dX4_isTrue_36 0 rfl ?_
      refine vIaload X (v := nI (Mk (i))) 6 1 rfl rfl rfl (by omega) (by decide) rfl dX4_isTrue_37 ?_
      refine vIfN_ltF X 65 dX4_isTrue_38 (by decide) (by omega) (by omega) ?_
      refine vAloadN X dX4_isTrue_41 2 rfl ?_
      refine vGet X (C := RX4) (T := TX4) (N := 10) (ci := 4) (vcons inM) rfl 0 rfl 5 (by decide) (List.mem_cons_of_mem _ q_747) (fun _ h => h) rfl dX4_isTrue_42 ?_
      refine vIloadN X dX4_isTrue_45 0 rfl ?_
      refine vIaload X (v := nI (Mk (i))) 6 1 rfl rfl rfl (by omega) (by decide) rfl dX4_isTrue_46 ?_
      refine vAloadN X dX4_isTrue_47 2 rfl ?_
      refine vGet X (C := RX4) (T := TX4) (N := 10) (ci := 4) (vcons inM) rfl 0 rfl 1 (by decide) (List.mem_cons_of_mem _ q_743) (fun _ h => h) rfl dX4_isTrue_48 ?_
      refine vAloadN X dX4_isTrue_51 2 rfl ?_
      refine vGet X (C := RX4) (T := TX4) (N := 10) (ci := 4) (vcons inM) rfl 0 rfl 3 (by decide) (List.mem_cons_of_mem _ q_745) (fun _ h => h) rfl dX4_isTrue_52 ?_
      refine vIloadN X dX4_isTrue_55 0 rfl ?_
      refine vIaload X (v := nI (a)) 4 1 rfl rfl rfl (by omega) (by decide) (oI_some hiRd) dX4_isTrue_56 ?_
      refine vIaload X (v := nI (Ln (a))) 2 1 rfl rfl rfl (by omega) (by decide) rfl dX4_isTrue_57 ?_
      refine vIcmpN_gtF X 65 dX4_isTrue_58 (by decide) (by omega) (by omega) (by omega) ?_
      refine vIconst X dX4_isTrue_61 (v := nI (1)) (by decide) ?_
      refine vGoto X 66 dX4_isTrue_62 (by decide) ?_
      refine vIand X dX4_isTrue_66 (v := nI 1) (by decide) ?_
      refine vIstoreN X [(1, .int (nI (1))), (2, .int (nI (i))), (0, .ref (o 0))] dX4_isTrue_67 (by decide) rfl ?_
      refine vIinc X [(2, .int (nI (i + 1))), (1, .int (nI (1))), (0, .ref (o 0))] dX4_isTrue_68 1 rfl (nI_inc _) (by decide) rfl ?_
      refine vGoto X 9 dX4_isTrue_71 (by decide) ?_
      refine vSub [0, 1, 2] [(2, .int (nI (i + 1))), (1, .int (nI (1))), (0, .ref (o 0))] rfl ?_
      exact ih (i + 1) (by omega)
set_option maxHeartbeats 4000000 in
set_option maxRecDepth 100000 in
theorem mm_isTrue (l : Launch) (D : va_G) (k : Nat → ClassId) (o : Nat → Nat) (pl : va_W) (sb : Nat) (B : Nat → Nat → Int32) (Ln Rm : Nat → Nat) (Rd : Nat → Option Nat) (Pl Mk : Nat → Nat) (G : Nat → Nat → Int32) (Sz : Nat → Nat) (Kp : Nat → Int32) (th : Int32)  (hLn : ∀ a, Ln a ≤ 256) (hRd : ∀ g, g < 3 → ∀ b, Rd g = some b → b < 8) (hPl : ∀ g, g < 3 → ∀ b, Rd g = some b → Pl g ≤ Ln b) (hMk : ∀ g, g < 3 → ∀ b, Rd g = some b → Mk g ≤ Ln b) : vCt l yX4_isTrue cX4_isTrue 3 (some .boolean) 1 21 0 0 D vCl (vTy k) sb [.ref (o 0)] (mW k o pl B Ln Rm Rd Pl Mk G Sz Kp th) (vDet (some (.int (nI (1)))) (mW k o pl B Ln Rm Rd Pl Mk G Sz Kp (nI (0)))) := by
  refine vOf (by decide +kernel) (Nat.le_of_ble_eq_true rfl) (fun p9 e9 s9 m9 below9 meth9 c9 X hret _ => ?_)
  refine vAloadN X dX4_isTrue_0 0 rfl ?_
  refine vIconst X dX4_isTrue_1 (v := nI (0)) (by decide) ?_
  refine vPut X (C := RX4) (T := TX4) (N := 10) (ci := 4) (ty := .int) (vcons inM) tyX4 tyX4_ok nmX4 rfl 0 rfl 9 (by decide) (List.mem_cons_of_mem _ q_751) (fun _ h => h) rfl (by decide +kernel) rfl rfl (Nat.le_of_ble_eq_true rfl) dX4_isTrue_2 ?_
  refine vWs (ws' := mW k o pl B Ln Rm Rd Pl Mk G Sz Kp (nI (0))) rfl ?_
  refine vIconst X dX4_isTrue_5 (v := nI (1)) (by decide) ?_
  refine vIstoreN X [(1, .int (nI (1))), (0, .ref (o 0))] dX4_isTrue_6 (by decide) rfl ?_
  refine vIconst X dX4_isTrue_7 (v := nI (0)) (by decide) ?_
  refine vIstoreN X [(2, .int (nI (0))), (1, .int (nI (1))), (0, .ref (o 0))] dX4_isTrue_8 (by decide) rfl ?_
  refine vSub [0, 1, 2] [(2, .int (nI (0))), (1, .int (nI (1))), (0, .ref (o 0))] rfl ?_
  refine mL_isTrue D k o pl sb B Ln Rm Rd Pl Mk G Sz Kp (nI (0)) hLn hRd hPl hMk X ?_ (3) 0  (by omega)
  refine vIloadN X dX4_isTrue_74 0 rfl ?_
  exact vRetZ X hret (by first | rfl | exact nar_bI _) dX4_isTrue_75 ⟨rfl, rfl⟩
