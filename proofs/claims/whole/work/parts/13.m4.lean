def eqB (f g : Nat → Int32) : Nat → Bool
  | 0 => true
  | i + 1 => eqB f g i && decide (f i = g i)
theorem eqB_mono {f g : Nat → Int32} {i : Nat} (h : eqB f g i = false) : ∀ n, eqB f g (i + n) = false
  | 0 => h
  | n + 1 => by
    show (eqB f g (i + n) && _) = false
    rw [eqB_mono h n]; rfl
theorem bI_of0 {b : Bool} (h : bI b = 0) : b = false := by
  cases b
  · rfl
  · exact absurd h (by decide)
theorem bI_of1 {b : Bool} (h : ¬ bI b = 0) : b = true := by
  cases b
  · exact absurd (show bI false = 0 from rfl) h
  · rfl
set_option maxHeartbeats 4000000 in
set_option maxRecDepth 100000 in
theorem mL_isLike {p9 : Program} {l : Launch} {e9 : Env} {s9 : State} {m9 : MethodId} {args9 : Array Value} {below9 : List Frame} {meth9 : Method} {c9 : Code} {Q9 : State → Prop} (D : va_G) (k : Nat → ClassId) (o : Nat → Nat) (pl : va_W) (sb : Nat) (B : Nat → Nat → Int32) (Ln Rm : Nat → Nat) (Rd : Nat → Option Nat) (Pl Mk : Nat → Nat) (G : Nat → Nat → Int32) (Sz : Nat → Nat) (Kp : Nat → Int32) (th : Int32) (r u : Nat) (hr : r < 4) (hu : u < 4) (hRm : ∀ r, r < 4 → Rm r < 8) (hLn : ∀ a, Ln a ≤ 256) (hln : Ln (Rm r) = Ln (Rm u)) (X : vCX p9 s9 m9 args9 meth9 c9 cX4_isLike 5 yX4_isLike.cls (Cond.code yX4_isLike cX4_isLike 5 (some .boolean) :: vGW) D vCl (vTy k) sb) (hex : vV p9 l e9 ({ frames := 1, cells := 0, slots := 0, locals := 21 }) s9 m9 args9 below9 meth9 c9 5 D vCl sb Q9 (mW k o pl B Ln Rm Rd Pl Mk G Sz Kp th) 0 0 117 [(3, .int (bI (eqB (B (Rm r)) (B (Rm u)) (Ln (Rm r))))), (0, .ref (o 0)), (1, .int (nI (r))), (2, .int (nI (u)))] []) : ∀ (z i : Nat) (v1 : Int32), i + z = Ln (Rm r) → v1 = bI (eqB (B (Rm r)) (B (Rm u)) i) → vV p9 l e9 ({ frames := 1, cells := 0, slots := 0, locals := 21 }) s9 m9 args9 below9 meth9 c9 5 D vCl sb Q9 (mW k o pl B Ln Rm Rd Pl Mk G Sz Kp th) 0 0 52 [(4, .int (nI (i))), (3, .int (v1)), (0, .ref (o 0)), (1, .int (nI (r))), (2, .int (nI (u)))] [] := by
  intro z
  induction z with
  | zero =>
    intro i v1 hi hv1
    have hRr := hRm r hr
    have hRu := hRm u hu
    have hLr := hLn (Rm r)
    refine vIloadN X dX4_isLike_52 1 rfl ?_
    refine vIf_eq X 117 dX4_isLike_53 (by decide) (fun hc53 => ?_) (fun hc53 => ?_)
    · have hq : v1 = bI (eqB (B (Rm r)) (B (Rm u)) (Ln (Rm r))) := by
        have h0 := bI_of0 (hv1.symm.trans hc53)
        rw [hv1, h0]
        have := eqB_mono h0 (Ln (Rm r) - i)
        rw [show i + (Ln (Rm r) - i) = Ln (Rm r) by omega] at this
        rw [this]
      subst hq
      refine vSub [1, 2, 3, 4] [(3, .int (bI (eqB (B (Rm r)) (B (Rm u)) (Ln (Rm r))))), (0, .ref (o 0)), (1, .int (nI (r))), (2, .int (nI (u)))] rfl ?_
      exact hex
    · have hq : v1 = bI (eqB (B (Rm r)) (B (Rm u)) (Ln (Rm r))) := by rw [hv1, show i = Ln (Rm r) by omega]
      subst hq
      refine vIload X dX4_isLike_56 0 rfl ?_
      refine vAloadN X dX4_isLike_58 2 rfl ?_
      refine vIloadN X dX4_isLike_59 3 rfl ?_
      refine vCallVd X [.int (nI (i))] (mm_long0 l D k o pl sb B Ln Rm Rd Pl Mk G Sz Kp th r (by omega) (by omega)) (vGV q_790 q_792 q_9 q_29 q_793) ⟨by decide, by decide, (show _ = some 1 from by decide +kernel)⟩ ⟨Nat.le_of_ble_eq_true rfl, Nat.le_of_ble_eq_true rfl⟩ 0 4 rfl rfl rfl rfl (Nat.le_of_ble_eq_true rfl) dX4_isLike_60 ⟨Nat.zero_le _, Nat.zero_le _⟩ ?_
      refine vIcmpN_geT X 117 dX4_isLike_63 (by decide) (by omega) (by omega) (by omega) ?_
      refine vSub [1, 2, 3, 4] [(3, .int (bI (eqB (B (Rm r)) (B (Rm u)) (Ln (Rm r))))), (0, .ref (o 0)), (1, .int (nI (r))), (2, .int (nI (u)))] rfl ?_
      exact hex
  | succ z ih =>
    intro i v1 hi hv1
    have hRr := hRm r hr
    have hRu := hRm u hu
    have hLr := hLn (Rm r)
    refine vIloadN X dX4_isLike_52 1 rfl ?_
    refine vIf_eq X 117 dX4_isLike_53 (by decide) (fun hc53 => ?_) (fun hc53 => ?_)
    · have hq : v1 = bI (eqB (B (Rm r)) (B (Rm u)) (Ln (Rm r))) := by
        have h0 := bI_of0 (hv1.symm.trans hc53)
        rw [hv1, h0]
        have := eqB_mono h0 (Ln (Rm r) - i)
        rw [show i + (Ln (Rm r) - i) = Ln (Rm r) by omega] at this
        rw [this]
      subst hq
      refine vSub [1, 2, 3, 4] [(3, .int (bI (eqB (B (Rm r)) (B (Rm u)) (Ln (Rm r))))), (0, .ref (o 0)), (1, .int (nI (r))), (2, .int (nI (u)))] rfl ?_
      exact hex
    · refine vIload X dX4_isLike_56 0 rfl ?_
      refine vAloadN X dX4_isLike_58 2 rfl ?_
      refine vIloadN X dX4_isLike_59 3 rfl ?_
      refine vCallVd X [.int (nI (i))] (mm_long0 l D k o pl sb B Ln Rm Rd Pl Mk G Sz Kp th r (by omega) (by omega)) (vGV q_790 q_792 q_9 q_29 q_793) ⟨by decide, by decide, (show _ = some 1 from by decide +kernel)⟩ ⟨Nat.le_of_ble_eq_true rfl, Nat.le_of_ble_eq_true rfl⟩ 0 4 rfl rfl rfl rfl (Nat.le_of_ble_eq_true rfl) dX4_isLike_60 ⟨Nat.zero_le _, Nat.zero_le _⟩ ?_
      refine vIcmpN_geF X 117 dX4_isLike_63 (by decide) (by omega) (by omega) (by omega) ?_
      refine vAloadN X dX4_isLike_66 2 rfl ?_
      refine vGet X (C := RX4) (T := TX4) (N := 10) (ci := 4) (vcons inM) rfl 0 rfl 0 (by decide) (List.mem_cons_of_mem _ q_742) (fun _ h => h) rfl dX4_isLike_67 ?_
      refine vSipush X dX4_isLike_70 (v := nI (256)) (by decide) ?_
      refine vAloadN X dX4_isLike_73 2 rfl ?_
      refine vGet X (C := RX4) (T := TX4) (N := 10) (ci := 4) (vcons inM) rfl 0 rfl 2 (by decide) (List.mem_cons_of_mem _ q_744) (fun _ h => h) rfl dX4_isLike_74 ?_
      refine vIloadN X dX4_isLike_77 3 rfl ?_
      refine vIaload X (v := nI (Rm (r))) 3 1 rfl rfl rfl (by omega) (by decide) rfl dX4_isLike_78 ?_
      refine vImul X dX4_isLike_79 (v := nI ((256) * (Rm (r)))) (pk_mul _ _) ?_
      refine vIload X dX4_isLike_80 0 rfl ?_
      refine vIadd X dX4_isLike_82 (v := nI (((256) * (Rm (r))) + (i))) (nI_add _ _) ?_
      refine vIaload X (v := B (Rm (r)) (i)) 1 1 rfl rfl rfl (by omega) (by decide) (fl2_at _ (X := Rm (r)) (Y := i) (by omega) (by omega)) dX4_isLike_83 ?_
      refine vAloadN X dX4_isLike_84 2 rfl ?_
      refine vGet X (C := RX4) (T := TX4) (N := 10) (ci := 4) (vcons inM) rfl 0 rfl 0 (by decide) (List.mem_cons_of_mem _ q_742) (fun _ h => h) rfl dX4_isLike_85 ?_
      refine vSipush X dX4_isLike_88 (v := nI (256)) (by decide) ?_
      refine vAloadN X dX4_isLike_91 2 rfl ?_
      refine vGet X (C := RX4) (T := TX4) (N := 10) (ci := 4) (vcons inM) rfl 0 rfl 2 (by decide) (List.mem_cons_of_mem _ q_744) (fun _ h => h) rfl dX4_isLike_92 ?_
      refine vIloadN X dX4_isLike_95 4 rfl ?_
      refine vIaload X (v := nI (Rm (u))) 3 1 rfl rfl rfl (by omega) (by decide) rfl dX4_isLike_96 ?_
      refine vImul X dX4_isLike_97 (v := nI ((256) * (Rm (u)))) (pk_mul _ _) ?_
      refine vIload X dX4_isLike_98 0 rfl ?_
      refine vIadd X dX4_isLike_100 (v := nI (((256) * (Rm (u))) + (i))) (nI_add _ _) ?_
      refine vIaload X (v := B (Rm (u)) (i)) 1 1 rfl rfl rfl (by omega) (by decide) (fl2_at _ (X := Rm (u)) (Y := i) (by omega) (by omega)) dX4_isLike_101 ?_
      refine vIcmp_ne X 109 dX4_isLike_102 (by decide) (fun hc102 => ?_) (fun hc102 => ?_)
      · refine vIconst X dX4_isLike_109 (v := nI (0)) (by decide) ?_
        refine vIstoreN X [(3, .int (nI (0))), (4, .int (nI (i))), (0, .ref (o 0)), (1, .int (nI (r))), (2, .int (nI (u)))] dX4_isLike_110 (by decide) rfl ?_
        refine vIinc X [(4, .int (nI (i + 1))), (3, .int (nI (0))), (0, .ref (o 0)), (1, .int (nI (r))), (2, .int (nI (u)))] dX4_isLike_111 1 rfl (nI_inc _) (by decide) rfl ?_
        refine vGoto X 52 dX4_isLike_114 (by decide) ?_
        refine vSub [0, 1, 2, 3, 4] [(4, .int (nI (i + 1))), (3, .int (nI (0))), (0, .ref (o 0)), (1, .int (nI (r))), (2, .int (nI (u)))] rfl ?_
        exact ih (i + 1) _ (by omega) (by have h1 := bI_of1 (fun q => hc53 (hv1.trans q)); simp [eqB, h1, hc102, bI])
      · refine vIconst X dX4_isLike_105 (v := nI (1)) (by decide) ?_
        refine vGoto X 110 dX4_isLike_106 (by decide) ?_
        refine vIstoreN X [(3, .int (nI (1))), (4, .int (nI (i))), (0, .ref (o 0)), (1, .int (nI (r))), (2, .int (nI (u)))] dX4_isLike_110 (by decide) rfl ?_
        refine vIinc X [(4, .int (nI (i + 1))), (3, .int (nI (1))), (0, .ref (o 0)), (1, .int (nI (r))), (2, .int (nI (u)))] dX4_isLike_111 1 rfl (nI_inc _) (by decide) rfl ?_
        refine vGoto X 52 dX4_isLike_114 (by decide) ?_
        refine vSub [0, 1, 2, 3, 4] [(4, .int (nI (i + 1))), (3, .int (nI (1))), (0, .ref (o 0)), (1, .int (nI (r))), (2, .int (nI (u)))] rfl ?_
        exact ih (i + 1) _ (by omega) (by have h1 := bI_of1 (fun q => hc53 (hv1.trans q)); simp [eqB, h1, hc102, bI])
set_option maxHeartbeats 4000000 in
set_option maxRecDepth 100000 in
theorem mm_isLike1a (l : Launch) (D : va_G) (k : Nat → ClassId) (o : Nat → Nat) (pl : va_W) (sb : Nat) (B : Nat → Nat → Int32) (Ln Rm : Nat → Nat) (Rd : Nat → Option Nat) (Pl Mk : Nat → Nat) (G : Nat → Nat → Int32) (Sz : Nat → Nat) (Kp : Nat → Int32) (th : Int32) (x y : Int32) (hx : ¬ vRow x) : vCt l yX4_isLike cX4_isLike 5 (some .boolean) 1 21 0 0 D vCl (vTy k) sb [.ref (o 0), .int (x), .int (y)] (mW k o pl B Ln Rm Rd Pl Mk G Sz Kp th) (vDet (some (.int (nI (0)))) (mW k o pl B Ln Rm Rd Pl Mk G Sz Kp (nI (1)))) := by
  refine vOf (by decide +kernel) (Nat.le_of_ble_eq_true rfl) (fun p9 e9 s9 m9 below9 meth9 c9 X hret _ => ?_)
  refine vAloadN X dX4_isLike_0 0 rfl ?_
  refine vAloadN X dX4_isLike_1 0 rfl ?_
  refine vIloadN X dX4_isLike_2 1 rfl ?_
  refine vCallVd X [.ref (o 0)] (mm_isRowF l D k o pl sb B Ln Rm Rd Pl Mk G Sz Kp th x hx) (vGV q_782 q_784 q_7 q_29 q_785) ⟨by decide, by decide, (show _ = some 1 from by decide +kernel)⟩ ⟨Nat.le_of_ble_eq_true rfl, Nat.le_of_ble_eq_true rfl⟩ 0 4 rfl rfl rfl rfl (Nat.le_of_ble_eq_true rfl) dX4_isLike_3 ⟨Nat.zero_le _, Nat.zero_le _⟩ ?_
  refine vIfN_eqT X 21 dX4_isLike_6 (by decide) (by omega) (by omega) ?_
  refine vIconst X dX4_isLike_21 (v := nI (1)) (by decide) ?_
  refine vCallVd X [] (mm_isWrong1 l D k o pl sb B Ln Rm Rd Pl Mk G Sz Kp th 1 (by decide) (by decide)) (vGV q_786 q_788 q_8 q_29 q_789) ⟨by decide, by decide, (show _ = some 1 from by decide +kernel)⟩ ⟨Nat.le_of_ble_eq_true rfl, Nat.le_of_ble_eq_true rfl⟩ 0 4 rfl rfl rfl rfl (Nat.le_of_ble_eq_true rfl) dX4_isLike_22 ⟨Nat.zero_le _, Nat.zero_le _⟩ ?_
  refine vIfN_eqF X 30 dX4_isLike_25 (by decide) (by omega) (by omega) ?_
  refine vIconst X dX4_isLike_28 (v := nI (0)) (by decide) ?_
  exact vRetZ X hret (by first | rfl | exact nar_bI _) dX4_isLike_29 ⟨rfl, rfl⟩
set_option maxHeartbeats 4000000 in
set_option maxRecDepth 100000 in
theorem mm_isLike1b (l : Launch) (D : va_G) (k : Nat → ClassId) (o : Nat → Nat) (pl : va_W) (sb : Nat) (B : Nat → Nat → Int32) (Ln Rm : Nat → Nat) (Rd : Nat → Option Nat) (Pl Mk : Nat → Nat) (G : Nat → Nat → Int32) (Sz : Nat → Nat) (Kp : Nat → Int32) (th : Int32) (r : Nat) (y : Int32) (hr : r < 4) (hy : ¬ vRow y) : vCt l yX4_isLike cX4_isLike 5 (some .boolean) 1 21 0 0 D vCl (vTy k) sb [.ref (o 0), .int (nI (r)), .int (y)] (mW k o pl B Ln Rm Rd Pl Mk G Sz Kp th) (vDet (some (.int (nI (0)))) (mW k o pl B Ln Rm Rd Pl Mk G Sz Kp (nI (1)))) := by
  refine vOf (by decide +kernel) (Nat.le_of_ble_eq_true rfl) (fun p9 e9 s9 m9 below9 meth9 c9 X hret _ => ?_)
  refine vAloadN X dX4_isLike_0 0 rfl ?_
  refine vAloadN X dX4_isLike_1 0 rfl ?_
  refine vIloadN X dX4_isLike_2 1 rfl ?_
  refine vCallVd X [.ref (o 0)] (mm_isRowT l D k o pl sb B Ln Rm Rd Pl Mk G Sz Kp th r (by omega)) (vGV q_782 q_784 q_7 q_29 q_785) ⟨by decide, by decide, (show _ = some 1 from by decide +kernel)⟩ ⟨Nat.le_of_ble_eq_true rfl, Nat.le_of_ble_eq_true rfl⟩ 0 4 rfl rfl rfl rfl (Nat.le_of_ble_eq_true rfl) dX4_isLike_3 ⟨Nat.zero_le _, Nat.zero_le _⟩ ?_
  refine vIfN_eqF X 21 dX4_isLike_6 (by decide) (by omega) (by omega) ?_
  refine vAloadN X dX4_isLike_9 0 rfl ?_
  refine vIloadN X dX4_isLike_10 2 rfl ?_
  refine vCallVd X [.ref (o 0)] (mm_isRowF l D k o pl sb B Ln Rm Rd Pl Mk G Sz Kp th y hy) (vGV q_782 q_784 q_7 q_29 q_785) ⟨by decide, by decide, (show _ = some 1 from by decide +kernel)⟩ ⟨Nat.le_of_ble_eq_true rfl, Nat.le_of_ble_eq_true rfl⟩ 0 4 rfl rfl rfl rfl (Nat.le_of_ble_eq_true rfl) dX4_isLike_11 ⟨Nat.zero_le _, Nat.zero_le _⟩ ?_
  refine vIfN_eqT X 21 dX4_isLike_14 (by decide) (by omega) (by omega) ?_
  refine vIconst X dX4_isLike_21 (v := nI (1)) (by decide) ?_
  refine vCallVd X [] (mm_isWrong1 l D k o pl sb B Ln Rm Rd Pl Mk G Sz Kp th 1 (by decide) (by decide)) (vGV q_786 q_788 q_8 q_29 q_789) ⟨by decide, by decide, (show _ = some 1 from by decide +kernel)⟩ ⟨Nat.le_of_ble_eq_true rfl, Nat.le_of_ble_eq_true rfl⟩ 0 4 rfl rfl rfl rfl (Nat.le_of_ble_eq_true rfl) dX4_isLike_22 ⟨Nat.zero_le _, Nat.zero_le _⟩ ?_
  refine vIfN_eqF X 30 dX4_isLike_25 (by decide) (by omega) (by omega) ?_
  refine vIconst X dX4_isLike_28 (v := nI (0)) (by decide) ?_
  exact vRetZ X hret (by first | rfl | exact nar_bI _) dX4_isLike_29 ⟨rfl, rfl⟩
set_option maxHeartbeats 4000000 in
set_option maxRecDepth 100000 in
theorem mm_isLike0a (l : Launch) (D : va_G) (k : Nat → ClassId) (o : Nat → Nat) (pl : va_W) (sb : Nat) (B : Nat → Nat → Int32) (Ln Rm : Nat → Nat) (Rd : Nat → Option Nat) (Pl Mk : Nat → Nat) (G : Nat → Nat → Int32) (Sz : Nat → Nat) (Kp : Nat → Int32) (th : Int32) (r u : Nat) (hr : r < 4) (hu : u < 4) (hRm : ∀ r, r < 4 → Rm r < 8) (hLn : ∀ a, Ln a ≤ 256) (hln : ¬ Ln (Rm r) = Ln (Rm u)) : vCt l yX4_isLike cX4_isLike 5 (some .boolean) 1 21 0 0 D vCl (vTy k) sb [.ref (o 0), .int (nI (r)), .int (nI (u))] (mW k o pl B Ln Rm Rd Pl Mk G Sz Kp th) (vDet (some (.int (nI (0)))) (mW k o pl B Ln Rm Rd Pl Mk G Sz Kp (nI (0)))) := by
  have hRr := hRm r hr
  have hRu := hRm u hu
  have hLr := hLn (Rm r)
  have hLu := hLn (Rm u)
  refine vOf (by decide +kernel) (Nat.le_of_ble_eq_true rfl) (fun p9 e9 s9 m9 below9 meth9 c9 X hret _ => ?_)
  refine vAloadN X dX4_isLike_0 0 rfl ?_
  refine vAloadN X dX4_isLike_1 0 rfl ?_
  refine vIloadN X dX4_isLike_2 1 rfl ?_
  refine vCallVd X [.ref (o 0)] (mm_isRowT l D k o pl sb B Ln Rm Rd Pl Mk G Sz Kp th r (by omega)) (vGV q_782 q_784 q_7 q_29 q_785) ⟨by decide, by decide, (show _ = some 1 from by decide +kernel)⟩ ⟨Nat.le_of_ble_eq_true rfl, Nat.le_of_ble_eq_true rfl⟩ 0 4 rfl rfl rfl rfl (Nat.le_of_ble_eq_true rfl) dX4_isLike_3 ⟨Nat.zero_le _, Nat.zero_le _⟩ ?_
  refine vIfN_eqF X 21 dX4_isLike_6 (by decide) (by omega) (by omega) ?_
  refine vAloadN X dX4_isLike_9 0 rfl ?_
  refine vIloadN X dX4_isLike_10 2 rfl ?_
  refine vCallVd X [.ref (o 0)] (mm_isRowT l D k o pl sb B Ln Rm Rd Pl Mk G Sz Kp th u (by omega)) (vGV q_782 q_784 q_7 q_29 q_785) ⟨by decide, by decide, (show _ = some 1 from by decide +kernel)⟩ ⟨Nat.le_of_ble_eq_true rfl, Nat.le_of_ble_eq_true rfl⟩ 0 4 rfl rfl rfl rfl (Nat.le_of_ble_eq_true rfl) dX4_isLike_11 ⟨Nat.zero_le _, Nat.zero_le _⟩ ?_
  refine vIfN_eqF X 21 dX4_isLike_14 (by decide) (by omega) (by omega) ?_
  refine vIconst X dX4_isLike_17 (v := nI (0)) (by decide) ?_
  refine vGoto X 22 dX4_isLike_18 (by decide) ?_
  refine vCallVd X [] (mm_isWrong0 l D k o pl sb B Ln Rm Rd Pl Mk G Sz Kp th ) (vGV q_786 q_788 q_8 q_29 q_789) ⟨by decide, by decide, (show _ = some 1 from by decide +kernel)⟩ ⟨Nat.le_of_ble_eq_true rfl, Nat.le_of_ble_eq_true rfl⟩ 0 4 rfl rfl rfl rfl (Nat.le_of_ble_eq_true rfl) dX4_isLike_22 ⟨Nat.zero_le _, Nat.zero_le _⟩ ?_
  refine vIfN_eqT X 30 dX4_isLike_25 (by decide) (by omega) (by omega) ?_
  refine vAloadN X dX4_isLike_30 0 rfl ?_
  refine vIloadN X dX4_isLike_31 1 rfl ?_
  refine vCallVd X [] (mm_long0 l D k o pl sb B Ln Rm Rd Pl Mk G Sz Kp (nI (0)) r (by omega) (by omega)) (vGV q_790 q_792 q_9 q_29 q_793) ⟨by decide, by decide, (show _ = some 1 from by decide +kernel)⟩ ⟨Nat.le_of_ble_eq_true rfl, Nat.le_of_ble_eq_true rfl⟩ 0 4 rfl rfl rfl rfl (Nat.le_of_ble_eq_true rfl) dX4_isLike_32 ⟨Nat.zero_le _, Nat.zero_le _⟩ ?_
  refine vAloadN X dX4_isLike_35 0 rfl ?_
  refine vIloadN X dX4_isLike_36 2 rfl ?_
  refine vCallVd X [.int (nI (Ln (Rm r)))] (mm_long0 l D k o pl sb B Ln Rm Rd Pl Mk G Sz Kp (nI (0)) u (by omega) (by omega)) (vGV q_790 q_792 q_9 q_29 q_793) ⟨by decide, by decide, (show _ = some 1 from by decide +kernel)⟩ ⟨Nat.le_of_ble_eq_true rfl, Nat.le_of_ble_eq_true rfl⟩ 0 4 rfl rfl rfl rfl (Nat.le_of_ble_eq_true rfl) dX4_isLike_37 ⟨Nat.zero_le _, Nat.zero_le _⟩ ?_
  refine vIcmpN_neT X 47 dX4_isLike_40 (by decide) (by omega) (by omega) (by omega) ?_
  refine vIconst X dX4_isLike_47 (v := nI (0)) (by decide) ?_
  refine vIstoreN X [(3, .int (nI (0))), (0, .ref (o 0)), (1, .int (nI (r))), (2, .int (nI (u)))] dX4_isLike_48 (by decide) rfl ?_
  refine vIconst X dX4_isLike_49 (v := nI (0)) (by decide) ?_
  refine vIstore X [(4, .int (nI (0))), (3, .int (nI (0))), (0, .ref (o 0)), (1, .int (nI (r))), (2, .int (nI (u)))] dX4_isLike_50 (by decide) rfl ?_
  refine vIloadN X dX4_isLike_52 1 rfl ?_
  refine vIfN_eqT X 117 dX4_isLike_53 (by decide) (by omega) (by omega) ?_
  refine vIloadN X dX4_isLike_117 1 rfl ?_
  exact vRetZ X hret (by first | rfl | exact nar_bI _) dX4_isLike_118 ⟨rfl, rfl⟩
set_option maxHeartbeats 4000000 in
set_option maxRecDepth 100000 in
theorem mm_isLike0b (l : Launch) (D : va_G) (k : Nat → ClassId) (o : Nat → Nat) (pl : va_W) (sb : Nat) (B : Nat → Nat → Int32) (Ln Rm : Nat → Nat) (Rd : Nat → Option Nat) (Pl Mk : Nat → Nat) (G : Nat → Nat → Int32) (Sz : Nat → Nat) (Kp : Nat → Int32) (th : Int32) (r u : Nat) (hr : r < 4) (hu : u < 4) (hRm : ∀ r, r < 4 → Rm r < 8) (hLn : ∀ a, Ln a ≤ 256) (hln : Ln (Rm r) = Ln (Rm u)) : vCt l yX4_isLike cX4_isLike 5 (some .boolean) 1 21 0 0 D vCl (vTy k) sb [.ref (o 0), .int (nI (r)), .int (nI (u))] (mW k o pl B Ln Rm Rd Pl Mk G Sz Kp th) (vDet (some (.int (bI (eqB (B (Rm r)) (B (Rm u)) (Ln (Rm r)))))) (mW k o pl B Ln Rm Rd Pl Mk G Sz Kp (nI (0)))) := by
  have hRr := hRm r hr
  have hRu := hRm u hu
  have hLr := hLn (Rm r)
  have hLu := hLn (Rm u)
  refine vOf (by decide +kernel) (Nat.le_of_ble_eq_true rfl) (fun p9 e9 s9 m9 below9 meth9 c9 X hret _ => ?_)
  refine vAloadN X dX4_isLike_0 0 rfl ?_
  refine vAloadN X dX4_isLike_1 0 rfl ?_
  refine vIloadN X dX4_isLike_2 1 rfl ?_
  refine vCallVd X [.ref (o 0)] (mm_isRowT l D k o pl sb B Ln Rm Rd Pl Mk G Sz Kp th r (by omega)) (vGV q_782 q_784 q_7 q_29 q_785) ⟨by decide, by decide, (show _ = some 1 from by decide +kernel)⟩ ⟨Nat.le_of_ble_eq_true rfl, Nat.le_of_ble_eq_true rfl⟩ 0 4 rfl rfl rfl rfl (Nat.le_of_ble_eq_true rfl) dX4_isLike_3 ⟨Nat.zero_le _, Nat.zero_le _⟩ ?_
  refine vIfN_eqF X 21 dX4_isLike_6 (by decide) (by omega) (by omega) ?_
  refine vAloadN X dX4_isLike_9 0 rfl ?_
  refine vIloadN X dX4_isLike_10 2 rfl ?_
  refine vCallVd X [.ref (o 0)] (mm_isRowT l D k o pl sb B Ln Rm Rd Pl Mk G Sz Kp th u (by omega)) (vGV q_782 q_784 q_7 q_29 q_785) ⟨by decide, by decide, (show _ = some 1 from by decide +kernel)⟩ ⟨Nat.le_of_ble_eq_true rfl, Nat.le_of_ble_eq_true rfl⟩ 0 4 rfl rfl rfl rfl (Nat.le_of_ble_eq_true rfl) dX4_isLike_11 ⟨Nat.zero_le _, Nat.zero_le _⟩ ?_
  refine vIfN_eqF X 21 dX4_isLike_14 (by decide) (by omega) (by omega) ?_
  refine vIconst X dX4_isLike_17 (v := nI (0)) (by decide) ?_
  refine vGoto X 22 dX4_isLike_18 (by decide) ?_
  refine vCallVd X [] (mm_isWrong0 l D k o pl sb B Ln Rm Rd Pl Mk G Sz Kp th ) (vGV q_786 q_788 q_8 q_29 q_789) ⟨by decide, by decide, (show _ = some 1 from by decide +kernel)⟩ ⟨Nat.le_of_ble_eq_true rfl, Nat.le_of_ble_eq_true rfl⟩ 0 4 rfl rfl rfl rfl (Nat.le_of_ble_eq_true rfl) dX4_isLike_22 ⟨Nat.zero_le _, Nat.zero_le _⟩ ?_
  refine vIfN_eqT X 30 dX4_isLike_25 (by decide) (by omega) (by omega) ?_
  refine vAloadN X dX4_isLike_30 0 rfl ?_
  refine vIloadN X dX4_isLike_31 1 rfl ?_
  refine vCallVd X [] (mm_long0 l D k o pl sb B Ln Rm Rd Pl Mk G Sz Kp (nI (0)) r (by omega) (by omega)) (vGV q_790 q_792 q_9 q_29 q_793) ⟨by decide, by decide, (show _ = some 1 from by decide +kernel)⟩ ⟨Nat.le_of_ble_eq_true rfl, Nat.le_of_ble_eq_true rfl⟩ 0 4 rfl rfl rfl rfl (Nat.le_of_ble_eq_true rfl) dX4_isLike_32 ⟨Nat.zero_le _, Nat.zero_le _⟩ ?_
  refine vAloadN X dX4_isLike_35 0 rfl ?_
  refine vIloadN X dX4_isLike_36 2 rfl ?_
  refine vCallVd X [.int (nI (Ln (Rm r)))] (mm_long0 l D k o pl sb B Ln Rm Rd Pl Mk G Sz Kp (nI (0)) u (by omega) (by omega)) (vGV q_790 q_792 q_9 q_29 q_793) ⟨by decide, by decide, (show _ = some 1 from by decide +kernel)⟩ ⟨Nat.le_of_ble_eq_true rfl, Nat.le_of_ble_eq_true rfl⟩ 0 4 rfl rfl rfl rfl (Nat.le_of_ble_eq_true rfl) dX4_isLike_37 ⟨Nat.zero_le _, Nat.zero_le _⟩ ?_
  refine vIcmpN_neF X 47 dX4_isLike_40 (by decide) (by omega) (by omega) (by omega) ?_
  refine vIconst X dX4_isLike_43 (v := nI (1)) (by decide) ?_
  refine vGoto X 48 dX4_isLike_44 (by decide) ?_
  refine vIstoreN X [(3, .int (nI (1))), (0, .ref (o 0)), (1, .int (nI (r))), (2, .int (nI (u)))] dX4_isLike_48 (by decide) rfl ?_
  refine vIconst X dX4_isLike_49 (v := nI (0)) (by decide) ?_
  refine vIstore X [(4, .int (nI (0))), (3, .int (nI (1))), (0, .ref (o 0)), (1, .int (nI (r))), (2, .int (nI (u)))] dX4_isLike_50 (by decide) rfl ?_
  refine vSub [0, 1, 2, 3, 4] [(4, .int (nI (0))), (3, .int (nI (1))), (0, .ref (o 0)), (1, .int (nI (r))), (2, .int (nI (u)))] rfl ?_
  refine mL_isLike D k o pl sb B Ln Rm Rd Pl Mk G Sz Kp (nI (0)) r u hr hu hRm hLn hln X ?_ (Ln (Rm r)) 0 _ (by omega) rfl
  refine vIloadN X dX4_isLike_117 0 rfl ?_
  exact vRetZ X hret (by first | rfl | exact nar_bI _) dX4_isLike_118 ⟨rfl, rfl⟩
set_option maxHeartbeats 4000000 in
set_option maxRecDepth 100000 in
theorem mm_isFullT (l : Launch) (D : va_G) (k : Nat → ClassId) (o : Nat → Nat) (pl : va_W) (sb : Nat) (B : Nat → Nat → Int32) (Ln Rm : Nat → Nat) (Rd : Nat → Option Nat) (Pl Mk : Nat → Nat) (G : Nat → Nat → Int32) (Sz : Nat → Nat) (Kp : Nat → Int32) (th : Int32) (g n : Nat) (hg : g < 3) (hs : Sz g ≤ 256) (hn : n ≤ 256) (h : 256 < Sz g + n) : vCt l yX4_isFull cX4_isFull 3 (some .boolean) 0 0 0 0 D vCl (vTy k) sb [.ref (o 0), .int (nI (g)), .int (nI (n))] (mW k o pl B Ln Rm Rd Pl Mk G Sz Kp th) (vDet (some (.int (nI (1)))) (mW k o pl B Ln Rm Rd Pl Mk G Sz Kp th)) := by
  refine vOf (by decide +kernel) (Nat.le_of_ble_eq_true rfl) (fun p9 e9 s9 m9 below9 meth9 c9 X hret _ => ?_)
  refine vAloadN X dX4_isFull_0 0 rfl ?_
  refine vGet X (C := RX4) (T := TX4) (N := 10) (ci := 4) (vcons inM) rfl 0 rfl 7 (by decide) (List.mem_cons_of_mem _ q_749) (fun _ h => h) rfl dX4_isFull_1 ?_
  refine vIloadN X dX4_isFull_4 1 rfl ?_
  refine vIaload X (v := nI (Sz (g))) 8 1 rfl rfl rfl (by omega) (by decide) rfl dX4_isFull_5 ?_
  refine vIloadN X dX4_isFull_6 2 rfl ?_
  refine vIadd X dX4_isFull_7 (v := nI ((Sz (g)) + (n))) (nI_add _ _) ?_
  refine vSipush X dX4_isFull_8 (v := nI (256)) (by decide) ?_
  refine vIcmpN_leF X 18 dX4_isFull_11 (by decide) (by omega) (by omega) (by omega) ?_
  refine vIconst X dX4_isFull_14 (v := nI (1)) (by decide) ?_
  refine vGoto X 19 dX4_isFull_15 (by decide) ?_
  exact vRetZ X hret (by first | rfl | exact nar_bI _) dX4_isFull_19 ⟨rfl, rfl⟩
set_option maxHeartbeats 4000000 in
set_option maxRecDepth 100000 in
theorem mm_isFullF (l : Launch) (D : va_G) (k : Nat → ClassId) (o : Nat → Nat) (pl : va_W) (sb : Nat) (B : Nat → Nat → Int32) (Ln Rm : Nat → Nat) (Rd : Nat → Option Nat) (Pl Mk : Nat → Nat) (G : Nat → Nat → Int32) (Sz : Nat → Nat) (Kp : Nat → Int32) (th : Int32) (g n : Nat) (hg : g < 3) (h : Sz g + n ≤ 256) : vCt l yX4_isFull cX4_isFull 3 (some .boolean) 0 0 0 0 D vCl (vTy k) sb [.ref (o 0), .int (nI (g)), .int (nI (n))] (mW k o pl B Ln Rm Rd Pl Mk G Sz Kp th) (vDet (some (.int (nI (0)))) (mW k o pl B Ln Rm Rd Pl Mk G Sz Kp th)) := by
  refine vOf (by decide +kernel) (Nat.le_of_ble_eq_true rfl) (fun p9 e9 s9 m9 below9 meth9 c9 X hret _ => ?_)
  refine vAloadN X dX4_isFull_0 0 rfl ?_
  refine vGet X (C := RX4) (T := TX4) (N := 10) (ci := 4) (vcons inM) rfl 0 rfl 7 (by decide) (List.mem_cons_of_mem _ q_749) (fun _ h => h) rfl dX4_isFull_1 ?_
  refine vIloadN X dX4_isFull_4 1 rfl ?_
  refine vIaload X (v := nI (Sz (g))) 8 1 rfl rfl rfl (by omega) (by decide) rfl dX4_isFull_5 ?_
  refine vIloadN X dX4_isFull_6 2 rfl ?_
  refine vIadd X dX4_isFull_7 (v := nI ((Sz (g)) + (n))) (nI_add _ _) ?_
  refine vSipush X dX4_isFull_8 (v := nI (256)) (by decide) ?_
  refine vIcmpN_leT X 18 dX4_isFull_11 (by decide) (by omega) (by omega) (by omega) ?_
  refine vIconst X dX4_isFull_18 (v := nI (0)) (by decide) ?_
  exact vRetZ X hret (by first | rfl | exact nar_bI _) dX4_isFull_19 ⟨rfl, rfl⟩
set_option maxHeartbeats 4000000 in
set_option maxRecDepth 100000 in
theorem mm_adds (l : Launch) (D : va_G) (k : Nat → ClassId) (o : Nat → Nat) (pl : va_W) (sb : Nat) (B : Nat → Nat → Int32) (Ln Rm : Nat → Nat) (Rd : Nat → Option Nat) (Pl Mk : Nat → Nat) (G : Nat → Nat → Int32) (Sz : Nat → Nat) (Kp : Nat → Int32) (th : Int32) (g : Nat) (v : Int32) (hg : g < 3) (hs : Sz g < 256) : vCt l yX4_adds cX4_adds 3 none 1 22 0 0 D vCl (vTy k) sb [.ref (o 0), .int (nI (g)), .int (v)] (mW k o pl B Ln Rm Rd Pl Mk G Sz Kp th) (vDet none (mW k o pl B Ln Rm Rd Pl Mk (up2 G (g) (Sz (g)) (lb (v))) (va_up Sz (g) ((Sz (g)) + (1))) Kp th)) := by
  refine vOf (by decide +kernel) (Nat.le_of_ble_eq_true rfl) (fun p9 e9 s9 m9 below9 meth9 c9 X hret _ => ?_)
  refine vAloadN X dX4_adds_0 0 rfl ?_
  refine vGet X (C := RX4) (T := TX4) (N := 10) (ci := 4) (vcons inM) rfl 0 rfl 6 (by decide) (List.mem_cons_of_mem _ q_748) (fun _ h => h) rfl dX4_adds_1 ?_
  refine vSipush X dX4_adds_4 (v := nI (256)) (by decide) ?_
  refine vIloadN X dX4_adds_7 1 rfl ?_
  refine vImul X dX4_adds_8 (v := nI ((256) * (g))) (pk_mul _ _) ?_
  refine vAloadN X dX4_adds_9 0 rfl ?_
  refine vGet X (C := RX4) (T := TX4) (N := 10) (ci := 4) (vcons inM) rfl 0 rfl 7 (by decide) (List.mem_cons_of_mem _ q_749) (fun _ h => h) rfl dX4_adds_10 ?_
  refine vIloadN X dX4_adds_13 1 rfl ?_
  refine vIaload X (v := nI (Sz (g))) 8 1 rfl rfl rfl (by omega) (by decide) rfl dX4_adds_14 ?_
  refine vIadd X dX4_adds_15 (v := nI (((256) * (g)) + (Sz (g)))) (nI_add _ _) ?_
  refine vAloadN X dX4_adds_16 0 rfl ?_
  refine vIloadN X dX4_adds_17 2 rfl ?_
  refine vCallVd X [.int (nI (((256) * (g)) + (Sz (g)))), .ref (o 7)] (mm_low l D k o pl sb B Ln Rm Rd Pl Mk G Sz Kp th v) (vGV q_822 q_824 q_13 q_29 q_825) ⟨by decide, by decide, (show _ = some 1 from by decide +kernel)⟩ ⟨Nat.le_of_ble_eq_true rfl, Nat.le_of_ble_eq_true rfl⟩ 0 4 rfl rfl rfl rfl (Nat.le_of_ble_eq_true rfl) dX4_adds_18 ⟨Nat.zero_le _, Nat.zero_le _⟩ ?_
  refine vIastore X (g := fl2 (up2 G (g) (Sz (g)) (lb (v)))) 7 1 rfl rfl rfl (by omega) (by decide) (fl2_up _ _ (X := g) (Y := Sz (g)) (by omega) (by omega)) dX4_adds_21 ?_
  refine vWs (ws' := mW k o pl B Ln Rm Rd Pl Mk (up2 G (g) (Sz (g)) (lb (v))) Sz Kp th) rfl ?_
  refine vAloadN X dX4_adds_22 0 rfl ?_
  refine vGet X (C := RX4) (T := TX4) (N := 10) (ci := 4) (vcons inM) rfl 0 rfl 7 (by decide) (List.mem_cons_of_mem _ q_749) (fun _ h => h) rfl dX4_adds_23 ?_
  refine vIloadN X dX4_adds_26 1 rfl ?_
  refine vDup2 X dX4_adds_27 rfl rfl ?_
  refine vIaload X (v := nI (Sz (g))) 8 1 rfl rfl rfl (by omega) (by decide) rfl dX4_adds_28 ?_
  refine vIconst X dX4_adds_29 (v := nI (1)) (by decide) ?_
  refine vIadd X dX4_adds_30 (v := nI ((Sz (g)) + (1))) (nI_add _ _) ?_
  refine vIastore X (g := (fun q => nI ((va_up Sz (g) ((Sz (g)) + (1))) q))) 8 1 rfl rfl rfl (by omega) (by decide) (nI_up _ _ _) dX4_adds_31 ?_
  refine vWs (ws' := mW k o pl B Ln Rm Rd Pl Mk (up2 G (g) (Sz (g)) (lb (v))) (va_up Sz (g) ((Sz (g)) + (1))) Kp th) rfl ?_
  exact vRetV X hret dX4_adds_32 ⟨rfl, rfl⟩
set_option maxHeartbeats 4000000 in
set_option maxRecDepth 100000 in
theorem mm_write1 (l : Launch) (D : va_G) (k : Nat → ClassId) (o : Nat → Nat) (pl : va_W) (sb : Nat) (B : Nat → Nat → Int32) (Ln Rm : Nat → Nat) (Rd : Nat → Option Nat) (Pl Mk : Nat → Nat) (G : Nat → Nat → Int32) (Sz : Nat → Nat) (Kp : Nat → Int32) (th : Int32) (x v : Int32) (hx : ¬ vOther x) : vCt l yX4_write cX4_write 3 (some .int) 2 44 0 0 D vCl (vTy k) sb [.ref (o 0), .int (x), .int (v)] (mW k o pl B Ln Rm Rd Pl Mk G Sz Kp th) (vDet (some (.int (nI (0)))) (mW k o pl B Ln Rm Rd Pl Mk G Sz Kp (nI (1)))) := by
  refine vOf (by decide +kernel) (Nat.le_of_ble_eq_true rfl) (fun p9 e9 s9 m9 below9 meth9 c9 X hret _ => ?_)
  refine vAloadN X dX4_write_0 0 rfl ?_
  refine vAloadN X dX4_write_1 0 rfl ?_
  refine vIloadN X dX4_write_2 1 rfl ?_
  refine vCallVd X [.ref (o 0)] (mm_isOtherF l D k o pl sb B Ln Rm Rd Pl Mk G Sz Kp th x hx) (vGV q_838 q_840 q_14 q_29 q_841) ⟨by decide, by decide, (show _ = some 1 from by decide +kernel)⟩ ⟨Nat.le_of_ble_eq_true rfl, Nat.le_of_ble_eq_true rfl⟩ 0 4 rfl rfl rfl rfl (Nat.le_of_ble_eq_true rfl) dX4_write_3 ⟨Nat.zero_le _, Nat.zero_le _⟩ ?_
  refine vIfN_neF X 13 dX4_write_6 (by decide) (by omega) (by omega) ?_
  refine vIconst X dX4_write_9 (v := nI (1)) (by decide) ?_
  refine vGoto X 27 dX4_write_10 (by decide) ?_
  refine vCallVd X [] (mm_isWrong1 l D k o pl sb B Ln Rm Rd Pl Mk G Sz Kp th 1 (by decide) (by decide)) (vGV q_786 q_788 q_8 q_29 q_789) ⟨by decide, by decide, (show _ = some 1 from by decide +kernel)⟩ ⟨Nat.le_of_ble_eq_true rfl, Nat.le_of_ble_eq_true rfl⟩ 0 4 rfl rfl rfl rfl (Nat.le_of_ble_eq_true rfl) dX4_write_27 ⟨Nat.zero_le _, Nat.zero_le _⟩ ?_
  refine vIfN_eqF X 35 dX4_write_30 (by decide) (by omega) (by omega) ?_
  refine vIconst X dX4_write_33 (v := nI (0)) (by decide) ?_
  exact vRetI X hret dX4_write_34 ⟨rfl, rfl⟩
set_option maxHeartbeats 4000000 in
set_option maxRecDepth 100000 in
theorem mm_write2 (l : Launch) (D : va_G) (k : Nat → ClassId) (o : Nat → Nat) (pl : va_W) (sb : Nat) (B : Nat → Nat → Int32) (Ln Rm : Nat → Nat) (Rd : Nat → Option Nat) (Pl Mk : Nat → Nat) (G : Nat → Nat → Int32) (Sz : Nat → Nat) (Kp : Nat → Int32) (th : Int32) (g : Nat) (v : Int32) (hg : g < 3) (hs : Sz g ≤ 256) (h : 256 < Sz g + 1) : vCt l yX4_write cX4_write 3 (some .int) 2 44 0 0 D vCl (vTy k) sb [.ref (o 0), .int (nI (g)), .int (v)] (mW k o pl B Ln Rm Rd Pl Mk G Sz Kp th) (vDet (some (.int (nI (0)))) (mW k o pl B Ln Rm Rd Pl Mk G Sz Kp (nI (2)))) := by
  refine vOf (by decide +kernel) (Nat.le_of_ble_eq_true rfl) (fun p9 e9 s9 m9 below9 meth9 c9 X hret _ => ?_)
  refine vAloadN X dX4_write_0 0 rfl ?_
  refine vAloadN X dX4_write_1 0 rfl ?_
  refine vIloadN X dX4_write_2 1 rfl ?_
  refine vCallVd X [.ref (o 0)] (mm_isOtherT l D k o pl sb B Ln Rm Rd Pl Mk G Sz Kp th g (by omega)) (vGV q_838 q_840 q_14 q_29 q_841) ⟨by decide, by decide, (show _ = some 1 from by decide +kernel)⟩ ⟨Nat.le_of_ble_eq_true rfl, Nat.le_of_ble_eq_true rfl⟩ 0 4 rfl rfl rfl rfl (Nat.le_of_ble_eq_true rfl) dX4_write_3 ⟨Nat.zero_le _, Nat.zero_le _⟩ ?_
  refine vIfN_neT X 13 dX4_write_6 (by decide) (by omega) (by omega) ?_
  refine vAloadN X dX4_write_13 0 rfl ?_
  refine vIloadN X dX4_write_14 1 rfl ?_
  refine vIconst X dX4_write_15 (v := nI (1)) (by decide) ?_
  refine vCallVd X [.ref (o 0)] (mm_isFullT l D k o pl sb B Ln Rm Rd Pl Mk G Sz Kp th g 1 (by omega) (by omega) (by omega) (by omega)) (vGV q_842 q_844 q_15 q_29 q_845) ⟨by decide, by decide, (show _ = some 2 from by decide +kernel)⟩ ⟨Nat.le_of_ble_eq_true rfl, Nat.le_of_ble_eq_true rfl⟩ 0 4 rfl rfl rfl rfl (Nat.le_of_ble_eq_true rfl) dX4_write_16 ⟨Nat.zero_le _, Nat.zero_le _⟩ ?_
  refine vIfN_eqF X 26 dX4_write_19 (by decide) (by omega) (by omega) ?_
  refine vIconst X dX4_write_22 (v := nI (2)) (by decide) ?_
  refine vGoto X 27 dX4_write_23 (by decide) ?_
  refine vCallVd X [] (mm_isWrong1 l D k o pl sb B Ln Rm Rd Pl Mk G Sz Kp th 2 (by decide) (by decide)) (vGV q_786 q_788 q_8 q_29 q_789) ⟨by decide, by decide, (show _ = some 1 from by decide +kernel)⟩ ⟨Nat.le_of_ble_eq_true rfl, Nat.le_of_ble_eq_true rfl⟩ 0 4 rfl rfl rfl rfl (Nat.le_of_ble_eq_true rfl) dX4_write_27 ⟨Nat.zero_le _, Nat.zero_le _⟩ ?_
  refine vIfN_eqF X 35 dX4_write_30 (by decide) (by omega) (by omega) ?_
  refine vIconst X dX4_write_33 (v := nI (0)) (by decide) ?_
  exact vRetI X hret dX4_write_34 ⟨rfl, rfl⟩
set_option maxHeartbeats 4000000 in
set_option maxRecDepth 100000 in
theorem mm_write0 (l : Launch) (D : va_G) (k : Nat → ClassId) (o : Nat → Nat) (pl : va_W) (sb : Nat) (B : Nat → Nat → Int32) (Ln Rm : Nat → Nat) (Rd : Nat → Option Nat) (Pl Mk : Nat → Nat) (G : Nat → Nat → Int32) (Sz : Nat → Nat) (Kp : Nat → Int32) (th : Int32) (g : Nat) (v : Int32) (hg : g < 3) (h : Sz g + 1 ≤ 256) : vCt l yX4_write cX4_write 3 (some .int) 2 44 0 0 D vCl (vTy k) sb [.ref (o 0), .int (nI (g)), .int (v)] (mW k o pl B Ln Rm Rd Pl Mk G Sz Kp th) (vDet (some (.int (nI (Sz g + 1)))) (mW k o pl B Ln Rm Rd Pl Mk (up2 G (g) (Sz (g)) (lb (v))) (va_up Sz (g) ((Sz (g)) + (1))) Kp (nI (0)))) := by
  refine vOf (by decide +kernel) (Nat.le_of_ble_eq_true rfl) (fun p9 e9 s9 m9 below9 meth9 c9 X hret _ => ?_)
  refine vAloadN X dX4_write_0 0 rfl ?_
  refine vAloadN X dX4_write_1 0 rfl ?_
  refine vIloadN X dX4_write_2 1 rfl ?_
  refine vCallVd X [.ref (o 0)] (mm_isOtherT l D k o pl sb B Ln Rm Rd Pl Mk G Sz Kp th g (by omega)) (vGV q_838 q_840 q_14 q_29 q_841) ⟨by decide, by decide, (show _ = some 1 from by decide +kernel)⟩ ⟨Nat.le_of_ble_eq_true rfl, Nat.le_of_ble_eq_true rfl⟩ 0 4 rfl rfl rfl rfl (Nat.le_of_ble_eq_true rfl) dX4_write_3 ⟨Nat.zero_le _, Nat.zero_le _⟩ ?_
  refine vIfN_neT X 13 dX4_write_6 (by decide) (by omega) (by omega) ?_
  refine vAloadN X dX4_write_13 0 rfl ?_
  refine vIloadN X dX4_write_14 1 rfl ?_
  refine vIconst X dX4_write_15 (v := nI (1)) (by decide) ?_
  refine vCallVd X [.ref (o 0)] (mm_isFullF l D k o pl sb B Ln Rm Rd Pl Mk G Sz Kp th g 1 (by omega) (by omega)) (vGV q_842 q_844 q_15 q_29 q_845) ⟨by decide, by decide, (show _ = some 2 from by decide +kernel)⟩ ⟨Nat.le_of_ble_eq_true rfl, Nat.le_of_ble_eq_true rfl⟩ 0 4 rfl rfl rfl rfl (Nat.le_of_ble_eq_true rfl) dX4_write_16 ⟨Nat.zero_le _, Nat.zero_le _⟩ ?_
  refine vIfN_eqT X 26 dX4_write_19 (by decide) (by omega) (by omega) ?_
  refine vIconst X dX4_write_26 (v := nI (0)) (by decide) ?_
  refine vCallVd X [] (mm_isWrong0 l D k o pl sb B Ln Rm Rd Pl Mk G Sz Kp th ) (vGV q_786 q_788 q_8 q_29 q_789) ⟨by decide, by decide, (show _ = some 1 from by decide +kernel)⟩ ⟨Nat.le_of_ble_eq_true rfl, Nat.le_of_ble_eq_true rfl⟩ 0 4 rfl rfl rfl rfl (Nat.le_of_ble_eq_true rfl) dX4_write_27 ⟨Nat.zero_le _, Nat.zero_le _⟩ ?_
  refine vIfN_eqT X 35 dX4_write_30 (by decide) (by omega) (by omega) ?_
  refine vAloadN X dX4_write_35 0 rfl ?_
  refine vIloadN X dX4_write_36 1 rfl ?_
  refine vIloadN X dX4_write_37 2 rfl ?_
  refine vCallVd X [] (mm_adds l D k o pl sb B Ln Rm Rd Pl Mk G Sz Kp (nI (0)) g (v) (by omega) (by omega)) (vGV q_846 q_848 q_16 q_29 q_849) ⟨by decide, by decide, (show _ = some 2 from by decide +kernel)⟩ ⟨Nat.le_of_ble_eq_true rfl, Nat.le_of_ble_eq_true rfl⟩ 0 4 rfl rfl rfl rfl (Nat.le_of_ble_eq_true rfl) dX4_write_38 ⟨Nat.zero_le _, Nat.zero_le _⟩ ?_
  refine vAloadN X dX4_write_41 0 rfl ?_
  refine vGet X (C := RX4) (T := TX4) (N := 10) (ci := 4) (vcons inM) rfl 0 rfl 7 (by decide) (List.mem_cons_of_mem _ q_749) (fun _ h => h) rfl dX4_write_42 ?_
  refine vIloadN X dX4_write_45 1 rfl ?_
  refine vIaload X (v := nI ((va_up Sz (g) ((Sz (g)) + (1))) (g))) 8 1 rfl rfl rfl (by omega) (by decide) rfl dX4_write_46 ?_
  exact vRetI X hret dX4_write_47 ⟨by rw [va_up_eq], rfl⟩
def cpG (G : Nat → Nat → Int32) (g s i : Nat) (src : Nat → Int32) : Nat → Nat → Int32 := fun a b => if a = g ∧ s ≤ b ∧ b < s + i then src (b - s) else G a b
theorem cpG_0 (G : Nat → Nat → Int32) (g s : Nat) (src : Nat → Int32) : G = cpG G g s 0 src := by
  funext a b
  show G a b = if _ then _ else _
  rw [if_neg (by omega)]
theorem cpG_1 (G : Nat → Nat → Int32) (g s i : Nat) (src : Nat → Int32) : up2 (cpG G g s i src) g (s + i) (src i) = cpG G g s (i + 1) src := by
  funext a b
  simp only [up2, cpG]
  by_cases h1 : a = g <;> by_cases h2 : b = s + i
  · subst h2
    have q1 : s ≤ s + i := by omega
    have q3 : s + i - s = i := by omega
    simp [h1, q3]
  · have : (s ≤ b ∧ b < s + (i + 1)) = (s ≤ b ∧ b < s + i) := by simp only [eq_iff_iff]; omega
    simp [h1, h2, this]
  · simp [h1]
  · simp [h1]
theorem va_up_up {α : Type} (L : Nat → α) (j : Nat) (u v : α) : va_up (va_up L j u) j v = va_up L j v := by
  funext q
  by_cases h : q = j <;> simp [va_up, h]
theorem va_up_id {α : Type} (L : Nat → α) (j : Nat) (v : α) (h : L j = v) : L = va_up L j v := by
  funext q
  by_cases h2 : q = j
  · subst h2; simp [va_up, h]
  · simp [va_up, h2]
set_option maxHeartbeats 4000000 in
set_option maxRecDepth 100000 in
theorem mL_writePart {p9 : Program} {l : Launch} {e9 : Env} {s9 : State} {m9 : MethodId} {args9 : Array Value} {below9 : List Frame} {meth9 : Method} {c9 : Code} {Q9 : State → Prop} (D : va_G) (k : Nat → ClassId) (o : Nat → Nat) (pl : va_W) (sb : Nat) (B : Nat → Nat → Int32) (Ln Rm : Nat → Nat) (Rd : Nat → Option Nat) (Pl Mk : Nat → Nat) (G : Nat → Nat → Int32) (Sz : Nat → Nat) (Kp : Nat → Int32) (th : Int32) (g r f n : Nat) (hg : g < 3) (hr : r < 4) (hp : f + n ≤ Ln (Rm r)) (hs : Sz g + n ≤ 256) (hRm : ∀ r, r < 4 → Rm r < 8) (hLn : ∀ a, Ln a ≤ 256) (hBF : ∀ a b, lb (B a b) = B a b) (X : vCX p9 s9 m9 args9 meth9 c9 cX4_writePart 6 yX4_writePart.cls (Cond.code yX4_writePart cX4_writePart 6 (some .int) :: vGW) D vCl (vTy k) sb) (hex : vV p9 l e9 ({ frames := 2, cells := 0, slots := 0, locals := 44 }) s9 m9 args9 below9 meth9 c9 6 D vCl sb Q9 (mW k o pl B Ln Rm Rd Pl Mk (cpG G g (Sz g) n (fun j => B (Rm r) (f + j))) (va_up Sz g (Sz g + n)) Kp th) 0 0 88 [(0, .ref (o 0)), (1, .int (nI (g))), (2, .int (nI (r))), (3, .int (nI (f))), (4, .int (nI (n)))] []) : ∀ (z i : Nat) (G1 : Nat → Nat → Int32) (S1 : Nat → Nat), i + z = n → G1 = cpG G g (Sz g) i (fun j => B (Rm r) (f + j)) → S1 = va_up Sz g (Sz g + i) → vV p9 l e9 ({ frames := 2, cells := 0, slots := 0, locals := 44 }) s9 m9 args9 below9 meth9 c9 6 D vCl sb Q9 (mW k o pl B Ln Rm Rd Pl Mk G1 S1 Kp th) 0 0 50 [(5, .int (nI (i))), (0, .ref (o 0)), (1, .int (nI (g))), (2, .int (nI (r))), (3, .int (nI (f))), (4, .int (nI (n)))] [] := by
  intro z
  induction z with
  | zero =>
    intro i G1 S1 hi hG1 hS1
    have hLr := hLn (Rm r)
    have hin : n = i := by omega
    subst hin
    subst hG1
    subst hS1
    refine vIload X dX4_writePart_50 0 rfl ?_
    refine vIload X dX4_writePart_52 5 rfl ?_
    refine vIcmpN_geT X 88 dX4_writePart_54 (by decide) (by omega) (by omega) (by omega) ?_
    refine vSub [1, 2, 3, 4, 5] [(0, .ref (o 0)), (1, .int (nI (g))), (2, .int (nI (r))), (3, .int (nI (f))), (4, .int (nI (n)))] rfl ?_
    exact hex
  | succ z ih =>
    intro i G1 S1 hi hG1 hS1
    have hRr := hRm r hr
    have hLr := hLn (Rm r)
    have hSg : S1 g = Sz g + i := by rw [hS1, va_up_eq]
    refine vIload X dX4_writePart_50 0 rfl ?_
    refine vIload X dX4_writePart_52 5 rfl ?_
    refine vIcmpN_geF X 88 dX4_writePart_54 (by decide) (by omega) (by omega) (by omega) ?_
    refine vAloadN X dX4_writePart_57 1 rfl ?_
    refine vIloadN X dX4_writePart_58 2 rfl ?_
    refine vAloadN X dX4_writePart_59 1 rfl ?_
    refine vGet X (C := RX4) (T := TX4) (N := 10) (ci := 4) (vcons inM) rfl 0 rfl 0 (by decide) (List.mem_cons_of_mem _ q_742) (fun _ h => h) rfl dX4_writePart_60 ?_
    refine vSipush X dX4_writePart_63 (v := nI (256)) (by decide) ?_
    refine vAloadN X dX4_writePart_66 1 rfl ?_
    refine vGet X (C := RX4) (T := TX4) (N := 10) (ci := 4) (vcons inM) rfl 0 rfl 2 (by decide) (List.mem_cons_of_mem _ q_744) (fun _ h => h) rfl dX4_writePart_67 ?_
    refine vIloadN X dX4_writePart_70 3 rfl ?_
    refine vIaload X (v := nI (Rm (r))) 3 1 rfl rfl rfl (by omega) (by decide) rfl dX4_writePart_71 ?_
    refine vImul X dX4_writePart_72 (v := nI ((256) * (Rm (r)))) (pk_mul _ _) ?_
    refine vIloadN X dX4_writePart_73 4 rfl ?_
    refine vIadd X dX4_writePart_74 (v := nI (((256) * (Rm (r))) + (f))) (nI_add _ _) ?_
    refine vIload X dX4_writePart_75 0 rfl ?_
    refine vIadd X dX4_writePart_77 (v := nI ((((256) * (Rm (r))) + (f)) + (i))) (nI_add _ _) ?_
    refine vIaload X (v := B (Rm (r)) (f + i)) 1 1 rfl rfl rfl (by omega) (by decide) (fl2_at _ (X := Rm (r)) (Y := f + i) (by omega) (by omega)) dX4_writePart_78 ?_
    refine vCallVd X [] (mm_adds l D k o pl sb B Ln Rm Rd Pl Mk G1 S1 Kp th g (B (Rm (r)) (f + i)) (by omega) (by omega)) (vGV q_846 q_848 q_16 q_29 q_849) ⟨by decide, by decide, (show _ = some 2 from by decide +kernel)⟩ ⟨Nat.le_of_ble_eq_true rfl, Nat.le_of_ble_eq_true rfl⟩ 0 4 rfl rfl rfl rfl (Nat.le_of_ble_eq_true rfl) dX4_writePart_79 ⟨Nat.zero_le _, Nat.zero_le _⟩ ?_
    refine vIinc X [(5, .int (nI (i + 1))), (0, .ref (o 0)), (1, .int (nI (g))), (2, .int (nI (r))), (3, .int (nI (f))), (4, .int (nI (n)))] dX4_writePart_82 0 rfl (nI_inc _) (by decide) rfl ?_
    refine vGoto X 50 dX4_writePart_85 (by decide) ?_
    refine vSub [0, 1, 2, 3, 4, 5] [(5, .int (nI (i + 1))), (0, .ref (o 0)), (1, .int (nI (g))), (2, .int (nI (r))), (3, .int (nI (f))), (4, .int (nI (n)))] rfl ?_
    exact ih (i + 1) _ _ (by omega) (by rw [hBF, hSg, hG1]; exact cpG_1 _ _ _ _ _) (by rw [hSg, hS1, va_up_up]; rfl)
set_option maxHeartbeats 4000000 in
set_option maxRecDepth 100000 in
theorem mm_writePart1a (l : Launch) (D : va_G) (k : Nat → ClassId) (o : Nat → Nat) (pl : va_W) (sb : Nat) (B : Nat → Nat → Int32) (Ln Rm : Nat → Nat) (Rd : Nat → Option Nat) (Pl Mk : Nat → Nat) (G : Nat → Nat → Int32) (Sz : Nat → Nat) (Kp : Nat → Int32) (th : Int32) (x y f n : Int32) (hx : ¬ vOther x) : vCt l yX4_writePart cX4_writePart 6 (some .int) 2 44 0 0 D vCl (vTy k) sb [.ref (o 0), .int (x), .int (y), .int (f), .int (n)] (mW k o pl B Ln Rm Rd Pl Mk G Sz Kp th) (vDet (some (.int (nI (0)))) (mW k o pl B Ln Rm Rd Pl Mk G Sz Kp (nI (1)))) := by
  refine vOf (by decide +kernel) (Nat.le_of_ble_eq_true rfl) (fun p9 e9 s9 m9 below9 meth9 c9 X hret _ => ?_)
  refine vAloadN X dX4_writePart_0 0 rfl ?_
  refine vAloadN X dX4_writePart_1 0 rfl ?_
  refine vIloadN X dX4_writePart_2 1 rfl ?_
  refine vCallVd X [.ref (o 0)] (mm_isOtherF l D k o pl sb B Ln Rm Rd Pl Mk G Sz Kp th x hx) (vGV q_838 q_840 q_14 q_29 q_841) ⟨by decide, by decide, (show _ = some 1 from by decide +kernel)⟩ ⟨Nat.le_of_ble_eq_true rfl, Nat.le_of_ble_eq_true rfl⟩ 0 4 rfl rfl rfl rfl (Nat.le_of_ble_eq_true rfl) dX4_writePart_3 ⟨Nat.zero_le _, Nat.zero_le _⟩ ?_
  refine vIfN_eqT X 20 dX4_writePart_6 (by decide) (by omega) (by omega) ?_
  refine vIconst X dX4_writePart_20 (v := nI (1)) (by decide) ?_
  refine vGoto X 39 dX4_writePart_21 (by decide) ?_
  refine vCallVd X [] (mm_isWrong1 l D k o pl sb B Ln Rm Rd Pl Mk G Sz Kp th 1 (by decide) (by decide)) (vGV q_786 q_788 q_8 q_29 q_789) ⟨by decide, by decide, (show _ = some 1 from by decide +kernel)⟩ ⟨Nat.le_of_ble_eq_true rfl, Nat.le_of_ble_eq_true rfl⟩ 0 4 rfl rfl rfl rfl (Nat.le_of_ble_eq_true rfl) dX4_writePart_39 ⟨Nat.zero_le _, Nat.zero_le _⟩ ?_
  refine vIfN_eqF X 47 dX4_writePart_42 (by decide) (by omega) (by omega) ?_
  refine vIconst X dX4_writePart_45 (v := nI (0)) (by decide) ?_
  exact vRetI X hret dX4_writePart_46 ⟨rfl, rfl⟩
set_option maxHeartbeats 4000000 in
set_option maxRecDepth 100000 in
theorem mm_writePart1b (l : Launch) (D : va_G) (k : Nat → ClassId) (o : Nat → Nat) (pl : va_W) (sb : Nat) (B : Nat → Nat → Int32) (Ln Rm : Nat → Nat) (Rd : Nat → Option Nat) (Pl Mk : Nat → Nat) (G : Nat → Nat → Int32) (Sz : Nat → Nat) (Kp : Nat → Int32) (th : Int32) (g : Nat) (y f n : Int32) (hg : g < 3) (hRm : ∀ r, r < 4 → Rm r < 8) (hLn : ∀ a, Ln a ≤ 256) (hpart : ¬ vPart Ln Rm y f n) : vCt l yX4_writePart cX4_writePart 6 (some .int) 2 44 0 0 D vCl (vTy k) sb [.ref (o 0), .int (nI (g)), .int (y), .int (f), .int (n)] (mW k o pl B Ln Rm Rd Pl Mk G Sz Kp th) (vDet (some (.int (nI (0)))) (mW k o pl B Ln Rm Rd Pl Mk G Sz Kp (nI (1)))) := by
  refine vOf (by decide +kernel) (Nat.le_of_ble_eq_true rfl) (fun p9 e9 s9 m9 below9 meth9 c9 X hret _ => ?_)
  refine vAloadN X dX4_writePart_0 0 rfl ?_
  refine vAloadN X dX4_writePart_1 0 rfl ?_
  refine vIloadN X dX4_writePart_2 1 rfl ?_
  refine vCallVd X [.ref (o 0)] (mm_isOtherT l D k o pl sb B Ln Rm Rd Pl Mk G Sz Kp th g (by omega)) (vGV q_838 q_840 q_14 q_29 q_841) ⟨by decide, by decide, (show _ = some 1 from by decide +kernel)⟩ ⟨Nat.le_of_ble_eq_true rfl, Nat.le_of_ble_eq_true rfl⟩ 0 4 rfl rfl rfl rfl (Nat.le_of_ble_eq_true rfl) dX4_writePart_3 ⟨Nat.zero_le _, Nat.zero_le _⟩ ?_
  refine vIfN_eqF X 20 dX4_writePart_6 (by decide) (by omega) (by omega) ?_
  refine vAloadN X dX4_writePart_9 0 rfl ?_
  refine vIloadN X dX4_writePart_10 2 rfl ?_
  refine vIloadN X dX4_writePart_11 3 rfl ?_
  refine vIload X dX4_writePart_12 4 rfl ?_
  refine vCallVd X [.ref (o 0)] (mm_isPartF l D k o pl sb B Ln Rm Rd Pl Mk G Sz Kp th y f n hRm hLn hpart) (vGV q_814 q_816 q_12 q_29 q_817) ⟨by decide, by decide, (show _ = some 3 from by decide +kernel)⟩ ⟨Nat.le_of_ble_eq_true rfl, Nat.le_of_ble_eq_true rfl⟩ 0 4 rfl rfl rfl rfl (Nat.le_of_ble_eq_true rfl) dX4_writePart_14 ⟨Nat.zero_le _, Nat.zero_le _⟩ ?_
  refine vIfN_neF X 24 dX4_writePart_17 (by decide) (by omega) (by omega) ?_
  refine vIconst X dX4_writePart_20 (v := nI (1)) (by decide) ?_
  refine vGoto X 39 dX4_writePart_21 (by decide) ?_
  refine vCallVd X [] (mm_isWrong1 l D k o pl sb B Ln Rm Rd Pl Mk G Sz Kp th 1 (by decide) (by decide)) (vGV q_786 q_788 q_8 q_29 q_789) ⟨by decide, by decide, (show _ = some 1 from by decide +kernel)⟩ ⟨Nat.le_of_ble_eq_true rfl, Nat.le_of_ble_eq_true rfl⟩ 0 4 rfl rfl rfl rfl (Nat.le_of_ble_eq_true rfl) dX4_writePart_39 ⟨Nat.zero_le _, Nat.zero_le _⟩ ?_
  refine vIfN_eqF X 47 dX4_writePart_42 (by decide) (by omega) (by omega) ?_
  refine vIconst X dX4_writePart_45 (v := nI (0)) (by decide) ?_
  exact vRetI X hret dX4_writePart_46 ⟨rfl, rfl⟩
set_option maxHeartbeats 4000000 in
set_option maxRecDepth 100000 in
theorem mm_writePart2 (l : Launch) (D : va_G) (k : Nat → ClassId) (o : Nat → Nat) (pl : va_W) (sb : Nat) (B : Nat → Nat → Int32) (Ln Rm : Nat → Nat) (Rd : Nat → Option Nat) (Pl Mk : Nat → Nat) (G : Nat → Nat → Int32) (Sz : Nat → Nat) (Kp : Nat → Int32) (th : Int32) (g r f n : Nat) (hg : g < 3) (hr : r < 4) (hp : f + n ≤ Ln (Rm r)) (hsg : Sz g ≤ 256) (hs : 256 < Sz g + n) (hRm : ∀ r, r < 4 → Rm r < 8) (hLn : ∀ a, Ln a ≤ 256) : vCt l yX4_writePart cX4_writePart 6 (some .int) 2 44 0 0 D vCl (vTy k) sb [.ref (o 0), .int (nI (g)), .int (nI (r)), .int (nI (f)), .int (nI (n))] (mW k o pl B Ln Rm Rd Pl Mk G Sz Kp th) (vDet (some (.int (nI (0)))) (mW k o pl B Ln Rm Rd Pl Mk G Sz Kp (nI (2)))) := by
  have hRr := hRm r hr
  have hLr := hLn (Rm r)
  refine vOf (by decide +kernel) (Nat.le_of_ble_eq_true rfl) (fun p9 e9 s9 m9 below9 meth9 c9 X hret _ => ?_)
  refine vAloadN X dX4_writePart_0 0 rfl ?_
  refine vAloadN X dX4_writePart_1 0 rfl ?_
  refine vIloadN X dX4_writePart_2 1 rfl ?_
  refine vCallVd X [.ref (o 0)] (mm_isOtherT l D k o pl sb B Ln Rm Rd Pl Mk G Sz Kp th g (by omega)) (vGV q_838 q_840 q_14 q_29 q_841) ⟨by decide, by decide, (show _ = some 1 from by decide +kernel)⟩ ⟨Nat.le_of_ble_eq_true rfl, Nat.le_of_ble_eq_true rfl⟩ 0 4 rfl rfl rfl rfl (Nat.le_of_ble_eq_true rfl) dX4_writePart_3 ⟨Nat.zero_le _, Nat.zero_le _⟩ ?_
  refine vIfN_eqF X 20 dX4_writePart_6 (by decide) (by omega) (by omega) ?_
  refine vAloadN X dX4_writePart_9 0 rfl ?_
  refine vIloadN X dX4_writePart_10 2 rfl ?_
  refine vIloadN X dX4_writePart_11 3 rfl ?_
  refine vIload X dX4_writePart_12 4 rfl ?_
  refine vCallVd X [.ref (o 0)] (mm_isPartT l D k o pl sb B Ln Rm Rd Pl Mk G Sz Kp th r f n (by omega) (by omega) (by omega) (by omega)) (vGV q_814 q_816 q_12 q_29 q_817) ⟨by decide, by decide, (show _ = some 3 from by decide +kernel)⟩ ⟨Nat.le_of_ble_eq_true rfl, Nat.le_of_ble_eq_true rfl⟩ 0 4 rfl rfl rfl rfl (Nat.le_of_ble_eq_true rfl) dX4_writePart_14 ⟨Nat.zero_le _, Nat.zero_le _⟩ ?_
  refine vIfN_neT X 24 dX4_writePart_17 (by decide) (by omega) (by omega) ?_
  refine vAloadN X dX4_writePart_24 0 rfl ?_
  refine vIloadN X dX4_writePart_25 1 rfl ?_
  refine vIload X dX4_writePart_26 4 rfl ?_
  refine vCallVd X [.ref (o 0)] (mm_isFullT l D k o pl sb B Ln Rm Rd Pl Mk G Sz Kp th g n (by omega) (by omega) (by omega) (by omega)) (vGV q_842 q_844 q_15 q_29 q_845) ⟨by decide, by decide, (show _ = some 2 from by decide +kernel)⟩ ⟨Nat.le_of_ble_eq_true rfl, Nat.le_of_ble_eq_true rfl⟩ 0 4 rfl rfl rfl rfl (Nat.le_of_ble_eq_true rfl) dX4_writePart_28 ⟨Nat.zero_le _, Nat.zero_le _⟩ ?_
  refine vIfN_eqF X 38 dX4_writePart_31 (by decide) (by omega) (by omega) ?_
  refine vIconst X dX4_writePart_34 (v := nI (2)) (by decide) ?_
  refine vGoto X 39 dX4_writePart_35 (by decide) ?_
  refine vCallVd X [] (mm_isWrong1 l D k o pl sb B Ln Rm Rd Pl Mk G Sz Kp th 2 (by decide) (by decide)) (vGV q_786 q_788 q_8 q_29 q_789) ⟨by decide, by decide, (show _ = some 1 from by decide +kernel)⟩ ⟨Nat.le_of_ble_eq_true rfl, Nat.le_of_ble_eq_true rfl⟩ 0 4 rfl rfl rfl rfl (Nat.le_of_ble_eq_true rfl) dX4_writePart_39 ⟨Nat.zero_le _, Nat.zero_le _⟩ ?_
  refine vIfN_eqF X 47 dX4_writePart_42 (by decide) (by omega) (by omega) ?_
  refine vIconst X dX4_writePart_45 (v := nI (0)) (by decide) ?_
  exact vRetI X hret dX4_writePart_46 ⟨rfl, rfl⟩
set_option maxHeartbeats 4000000 in
set_option maxRecDepth 100000 in
theorem mm_writePart0 (l : Launch) (D : va_G) (k : Nat → ClassId) (o : Nat → Nat) (pl : va_W) (sb : Nat) (B : Nat → Nat → Int32) (Ln Rm : Nat → Nat) (Rd : Nat → Option Nat) (Pl Mk : Nat → Nat) (G : Nat → Nat → Int32) (Sz : Nat → Nat) (Kp : Nat → Int32) (th : Int32) (g r f n : Nat) (hg : g < 3) (hr : r < 4) (hp : f + n ≤ Ln (Rm r)) (hs : Sz g + n ≤ 256) (hRm : ∀ r, r < 4 → Rm r < 8) (hLn : ∀ a, Ln a ≤ 256) (hBF : ∀ a b, lb (B a b) = B a b) : vCt l yX4_writePart cX4_writePart 6 (some .int) 2 44 0 0 D vCl (vTy k) sb [.ref (o 0), .int (nI (g)), .int (nI (r)), .int (nI (f)), .int (nI (n))] (mW k o pl B Ln Rm Rd Pl Mk G Sz Kp th) (vDet (some (.int (nI (Sz g + n)))) (mW k o pl B Ln Rm Rd Pl Mk (cpG G g (Sz g) n (fun j => B (Rm r) (f + j))) (va_up Sz g (Sz g + n)) Kp (nI (0)))) := by
  have hRr := hRm r hr
  have hLr := hLn (Rm r)
  refine vOf (by decide +kernel) (Nat.le_of_ble_eq_true rfl) (fun p9 e9 s9 m9 below9 meth9 c9 X hret _ => ?_)
  refine vAloadN X dX4_writePart_0 0 rfl ?_
  refine vAloadN X dX4_writePart_1 0 rfl ?_
  refine vIloadN X dX4_writePart_2 1 rfl ?_
  refine vCallVd X [.ref (o 0)] (mm_isOtherT l D k o pl sb B Ln Rm Rd Pl Mk G Sz Kp th g (by omega)) (vGV q_838 q_840 q_14 q_29 q_841) ⟨by decide, by decide, (show _ = some 1 from by decide +kernel)⟩ ⟨Nat.le_of_ble_eq_true rfl, Nat.le_of_ble_eq_true rfl⟩ 0 4 rfl rfl rfl rfl (Nat.le_of_ble_eq_true rfl) dX4_writePart_3 ⟨Nat.zero_le _, Nat.zero_le _⟩ ?_
  refine vIfN_eqF X 20 dX4_writePart_6 (by decide) (by omega) (by omega) ?_
  refine vAloadN X dX4_writePart_9 0 rfl ?_
  refine vIloadN X dX4_writePart_10 2 rfl ?_
  refine vIloadN X dX4_writePart_11 3 rfl ?_
  refine vIload X dX4_writePart_12 4 rfl ?_
  refine vCallVd X [.ref (o 0)] (mm_isPartT l D k o pl sb B Ln Rm Rd Pl Mk G Sz Kp th r f n (by omega) (by omega) (by omega) (by omega)) (vGV q_814 q_816 q_12 q_29 q_817) ⟨by decide, by decide, (show _ = some 3 from by decide +kernel)⟩ ⟨Nat.le_of_ble_eq_true rfl, Nat.le_of_ble_eq_true rfl⟩ 0 4 rfl rfl rfl rfl (Nat.le_of_ble_eq_true rfl) dX4_writePart_14 ⟨Nat.zero_le _, Nat.zero_le _⟩ ?_
  refine vIfN_neT X 24 dX4_writePart_17 (by decide) (by omega) (by omega) ?_
  refine vAloadN X dX4_writePart_24 0 rfl ?_
  refine vIloadN X dX4_writePart_25 1 rfl ?_
  refine vIload X dX4_writePart_26 4 rfl ?_
  refine vCallVd X [.ref (o 0)] (mm_isFullF l D k o pl sb B Ln Rm Rd Pl Mk G Sz Kp th g n (by omega) (by omega)) (vGV q_842 q_844 q_15 q_29 q_845) ⟨by decide, by decide, (show _ = some 2 from by decide +kernel)⟩ ⟨Nat.le_of_ble_eq_true rfl, Nat.le_of_ble_eq_true rfl⟩ 0 4 rfl rfl rfl rfl (Nat.le_of_ble_eq_true rfl) dX4_writePart_28 ⟨Nat.zero_le _, Nat.zero_le _⟩ ?_
  refine vIfN_eqT X 38 dX4_writePart_31 (by decide) (by omega) (by omega) ?_
  refine vIconst X dX4_writePart_38 (v := nI (0)) (by decide) ?_
  refine vCallVd X [] (mm_isWrong0 l D k o pl sb B Ln Rm Rd Pl Mk G Sz Kp th ) (vGV q_786 q_788 q_8 q_29 q_789) ⟨by decide, by decide, (show _ = some 1 from by decide +kernel)⟩ ⟨Nat.le_of_ble_eq_true rfl, Nat.le_of_ble_eq_true rfl⟩ 0 4 rfl rfl rfl rfl (Nat.le_of_ble_eq_true rfl) dX4_writePart_39 ⟨Nat.zero_le _, Nat.zero_le _⟩ ?_
  refine vIfN_eqT X 47 dX4_writePart_42 (by decide) (by omega) (by omega) ?_
  refine vIconst X dX4_writePart_47 (v := nI (0)) (by decide) ?_
  refine vIstore X [(5, .int (nI (0))), (0, .ref (o 0)), (1, .int (nI (g))), (2, .int (nI (r))), (3, .int (nI (f))), (4, .int (nI (n)))] dX4_writePart_48 (by decide) rfl ?_
  refine vSub [0, 1, 2, 3, 4, 5] [(5, .int (nI (0))), (0, .ref (o 0)), (1, .int (nI (g))), (2, .int (nI (r))), (3, .int (nI (f))), (4, .int (nI (n)))] rfl ?_
  refine mL_writePart D k o pl sb B Ln Rm Rd Pl Mk G Sz Kp (nI (0)) g r f n hg hr hp hs hRm hLn hBF X ?_ (n) 0 _ _ (by omega) (cpG_0 _ _ _ _) (va_up_id _ _ _ rfl)
  refine vAloadN X dX4_writePart_88 0 rfl ?_
  refine vGet X (C := RX4) (T := TX4) (N := 10) (ci := 4) (vcons inM) rfl 0 rfl 7 (by decide) (List.mem_cons_of_mem _ q_749) (fun _ h => h) rfl dX4_writePart_89 ?_
  refine vIloadN X dX4_writePart_92 1 rfl ?_
  refine vIaload X (v := nI ((va_up Sz g (Sz g + n)) (g))) 8 1 rfl rfl rfl (by omega) (by decide) rfl dX4_writePart_93 ?_
  exact vRetI X hret dX4_writePart_94 ⟨by rw [va_up_eq], rfl⟩
set_option maxHeartbeats 4000000 in
set_option maxRecDepth 100000 in
theorem mm_writeRow1a (l : Launch) (D : va_G) (k : Nat → ClassId) (o : Nat → Nat) (pl : va_W) (sb : Nat) (B : Nat → Nat → Int32) (Ln Rm : Nat → Nat) (Rd : Nat → Option Nat) (Pl Mk : Nat → Nat) (G : Nat → Nat → Int32) (Sz : Nat → Nat) (Kp : Nat → Int32) (th : Int32) (x : Int32) (r : Nat) (hx : ¬ vOther x) (hr : r < 4) (hRm : ∀ r, r < 4 → Rm r < 8) (hLn : ∀ a, Ln a ≤ 256) : vCt l yX4_writeRow cX4_writeRow 3 (some .int) 3 69 0 0 D vCl (vTy k) sb [.ref (o 0), .int (x), .int (nI (r))] (mW k o pl B Ln Rm Rd Pl Mk G Sz Kp th) (vDet (some (.int (nI (0)))) (mW k o pl B Ln Rm Rd Pl Mk G Sz Kp (nI 1))) := by
  have hRr := hRm r hr
  have hLr := hLn (Rm r)
  refine vOf (by decide +kernel) (Nat.le_of_ble_eq_true rfl) (fun p9 e9 s9 m9 below9 meth9 c9 X hret _ => ?_)
  refine vAloadN X dX4_writeRow_0 0 rfl ?_
  refine vIloadN X dX4_writeRow_1 1 rfl ?_
  refine vIloadN X dX4_writeRow_2 2 rfl ?_
  refine vIconst X dX4_writeRow_3 (v := nI (0)) (by decide) ?_
  refine vAloadN X dX4_writeRow_4 0 rfl ?_
  refine vIloadN X dX4_writeRow_5 2 rfl ?_
  refine vCallVd X [.int (nI (0)), .int (nI (r)), .int (x), .ref (o 0)] (mm_isRowT l D k o pl sb B Ln Rm Rd Pl Mk G Sz Kp th r (by omega)) (vGV q_782 q_784 q_7 q_29 q_785) ⟨by decide, by decide, (show _ = some 1 from by decide +kernel)⟩ ⟨Nat.le_of_ble_eq_true rfl, Nat.le_of_ble_eq_true rfl⟩ 0 4 rfl rfl rfl rfl (Nat.le_of_ble_eq_true rfl) dX4_writeRow_6 ⟨Nat.zero_le _, Nat.zero_le _⟩ ?_
  refine vIfN_eqF X 20 dX4_writeRow_9 (by decide) (by omega) (by omega) ?_
  refine vAloadN X dX4_writeRow_12 0 rfl ?_
  refine vIloadN X dX4_writeRow_13 2 rfl ?_
  refine vCallVd X [.int (nI (0)), .int (nI (r)), .int (x), .ref (o 0)] (mm_long0 l D k o pl sb B Ln Rm Rd Pl Mk G Sz Kp th r (by omega) (by omega)) (vGV q_790 q_792 q_9 q_29 q_793) ⟨by decide, by decide, (show _ = some 1 from by decide +kernel)⟩ ⟨Nat.le_of_ble_eq_true rfl, Nat.le_of_ble_eq_true rfl⟩ 0 4 rfl rfl rfl rfl (Nat.le_of_ble_eq_true rfl) dX4_writeRow_14 ⟨Nat.zero_le _, Nat.zero_le _⟩ ?_
  refine vGoto X 21 dX4_writeRow_17 (by decide) ?_
  refine vCallVd X [] (mm_writePart1a l D k o pl sb B Ln Rm Rd Pl Mk G Sz Kp th x (nI (r)) (nI (0)) (nI (Ln (Rm r))) hx) (vGV q_858 q_851 q_852 q_29 q_853) ⟨by decide, by decide, (show _ = some 4 from by decide +kernel)⟩ ⟨Nat.le_of_ble_eq_true rfl, Nat.le_of_ble_eq_true rfl⟩ 0 4 rfl rfl rfl rfl (Nat.le_of_ble_eq_true rfl) dX4_writeRow_21 ⟨Nat.zero_le _, Nat.zero_le _⟩ ?_
  exact vRetI X hret dX4_writeRow_24 ⟨rfl, rfl⟩
set_option maxHeartbeats 4000000 in
set_option maxRecDepth 100000 in
theorem mm_writeRow1b (l : Launch) (D : va_G) (k : Nat → ClassId) (o : Nat → Nat) (pl : va_W) (sb : Nat) (B : Nat → Nat → Int32) (Ln Rm : Nat → Nat) (Rd : Nat → Option Nat) (Pl Mk : Nat → Nat) (G : Nat → Nat → Int32) (Sz : Nat → Nat) (Kp : Nat → Int32) (th : Int32) (x y : Int32) (hx : ¬ vOther x) (hy : ¬ vRow y) : vCt l yX4_writeRow cX4_writeRow 3 (some .int) 3 69 0 0 D vCl (vTy k) sb [.ref (o 0), .int (x), .int (y)] (mW k o pl B Ln Rm Rd Pl Mk G Sz Kp th) (vDet (some (.int (nI (0)))) (mW k o pl B Ln Rm Rd Pl Mk G Sz Kp (nI 1))) := by
  refine vOf (by decide +kernel) (Nat.le_of_ble_eq_true rfl) (fun p9 e9 s9 m9 below9 meth9 c9 X hret _ => ?_)
  refine vAloadN X dX4_writeRow_0 0 rfl ?_
  refine vIloadN X dX4_writeRow_1 1 rfl ?_
  refine vIloadN X dX4_writeRow_2 2 rfl ?_
  refine vIconst X dX4_writeRow_3 (v := nI (0)) (by decide) ?_
  refine vAloadN X dX4_writeRow_4 0 rfl ?_
  refine vIloadN X dX4_writeRow_5 2 rfl ?_
  refine vCallVd X [.int (nI (0)), .int (y), .int (x), .ref (o 0)] (mm_isRowF l D k o pl sb B Ln Rm Rd Pl Mk G Sz Kp th y hy) (vGV q_782 q_784 q_7 q_29 q_785) ⟨by decide, by decide, (show _ = some 1 from by decide +kernel)⟩ ⟨Nat.le_of_ble_eq_true rfl, Nat.le_of_ble_eq_true rfl⟩ 0 4 rfl rfl rfl rfl (Nat.le_of_ble_eq_true rfl) dX4_writeRow_6 ⟨Nat.zero_le _, Nat.zero_le _⟩ ?_
  refine vIfN_eqT X 20 dX4_writeRow_9 (by decide) (by omega) (by omega) ?_
  refine vIconst X dX4_writeRow_20 (v := nI (0)) (by decide) ?_
  refine vCallVd X [] (mm_writePart1a l D k o pl sb B Ln Rm Rd Pl Mk G Sz Kp th x y (nI (0)) (nI (0)) hx) (vGV q_858 q_851 q_852 q_29 q_853) ⟨by decide, by decide, (show _ = some 4 from by decide +kernel)⟩ ⟨Nat.le_of_ble_eq_true rfl, Nat.le_of_ble_eq_true rfl⟩ 0 4 rfl rfl rfl rfl (Nat.le_of_ble_eq_true rfl) dX4_writeRow_21 ⟨Nat.zero_le _, Nat.zero_le _⟩ ?_
  exact vRetI X hret dX4_writeRow_24 ⟨rfl, rfl⟩
set_option maxHeartbeats 4000000 in
set_option maxRecDepth 100000 in
theorem mm_writeRow1c (l : Launch) (D : va_G) (k : Nat → ClassId) (o : Nat → Nat) (pl : va_W) (sb : Nat) (B : Nat → Nat → Int32) (Ln Rm : Nat → Nat) (Rd : Nat → Option Nat) (Pl Mk : Nat → Nat) (G : Nat → Nat → Int32) (Sz : Nat → Nat) (Kp : Nat → Int32) (th : Int32) (g : Nat) (y : Int32) (hg : g < 3) (hy : ¬ vRow y) (hRm : ∀ r, r < 4 → Rm r < 8) (hLn : ∀ a, Ln a ≤ 256) : vCt l yX4_writeRow cX4_writeRow 3 (some .int) 3 69 0 0 D vCl (vTy k) sb [.ref (o 0), .int (nI (g)), .int (y)] (mW k o pl B Ln Rm Rd Pl Mk G Sz Kp th) (vDet (some (.int (nI (0)))) (mW k o pl B Ln Rm Rd Pl Mk G Sz Kp (nI 1))) := by
  have hpart : ¬ vPart Ln Rm y (nI 0) (nI 0) := by
    rintro ⟨r, a, b, rfl, hr, -⟩
    exact hy (vRow_nI hr)
  refine vOf (by decide +kernel) (Nat.le_of_ble_eq_true rfl) (fun p9 e9 s9 m9 below9 meth9 c9 X hret _ => ?_)
  refine vAloadN X dX4_writeRow_0 0 rfl ?_
  refine vIloadN X dX4_writeRow_1 1 rfl ?_
  refine vIloadN X dX4_writeRow_2 2 rfl ?_
  refine vIconst X dX4_writeRow_3 (v := nI (0)) (by decide) ?_
  refine vAloadN X dX4_writeRow_4 0 rfl ?_
  refine vIloadN X dX4_writeRow_5 2 rfl ?_
  refine vCallVd X [.int (nI (0)), .int (y), .int (nI (g)), .ref (o 0)] (mm_isRowF l D k o pl sb B Ln Rm Rd Pl Mk G Sz Kp th y hy) (vGV q_782 q_784 q_7 q_29 q_785) ⟨by decide, by decide, (show _ = some 1 from by decide +kernel)⟩ ⟨Nat.le_of_ble_eq_true rfl, Nat.le_of_ble_eq_true rfl⟩ 0 4 rfl rfl rfl rfl (Nat.le_of_ble_eq_true rfl) dX4_writeRow_6 ⟨Nat.zero_le _, Nat.zero_le _⟩ ?_
  refine vIfN_eqT X 20 dX4_writeRow_9 (by decide) (by omega) (by omega) ?_
  refine vIconst X dX4_writeRow_20 (v := nI (0)) (by decide) ?_
  refine vCallVd X [] (mm_writePart1b l D k o pl sb B Ln Rm Rd Pl Mk G Sz Kp th g y (nI (0)) (nI (0)) hg hRm hLn hpart) (vGV q_858 q_851 q_852 q_29 q_853) ⟨by decide, by decide, (show _ = some 4 from by decide +kernel)⟩ ⟨Nat.le_of_ble_eq_true rfl, Nat.le_of_ble_eq_true rfl⟩ 0 4 rfl rfl rfl rfl (Nat.le_of_ble_eq_true rfl) dX4_writeRow_21 ⟨Nat.zero_le _, Nat.zero_le _⟩ ?_
  exact vRetI X hret dX4_writeRow_24 ⟨rfl, rfl⟩
set_option maxHeartbeats 4000000 in
set_option maxRecDepth 100000 in
theorem mm_writeRow2 (l : Launch) (D : va_G) (k : Nat → ClassId) (o : Nat → Nat) (pl : va_W) (sb : Nat) (B : Nat → Nat → Int32) (Ln Rm : Nat → Nat) (Rd : Nat → Option Nat) (Pl Mk : Nat → Nat) (G : Nat → Nat → Int32) (Sz : Nat → Nat) (Kp : Nat → Int32) (th : Int32) (g r : Nat) (hg : g < 3) (hr : r < 4) (hsg : Sz g ≤ 256) (hs : 256 < Sz g + Ln (Rm r)) (hRm : ∀ r, r < 4 → Rm r < 8) (hLn : ∀ a, Ln a ≤ 256) : vCt l yX4_writeRow cX4_writeRow 3 (some .int) 3 69 0 0 D vCl (vTy k) sb [.ref (o 0), .int (nI (g)), .int (nI (r))] (mW k o pl B Ln Rm Rd Pl Mk G Sz Kp th) (vDet (some (.int (nI (0)))) (mW k o pl B Ln Rm Rd Pl Mk G Sz Kp (nI 2))) := by
  have hRr := hRm r hr
  have hLr := hLn (Rm r)
  refine vOf (by decide +kernel) (Nat.le_of_ble_eq_true rfl) (fun p9 e9 s9 m9 below9 meth9 c9 X hret _ => ?_)
  refine vAloadN X dX4_writeRow_0 0 rfl ?_
  refine vIloadN X dX4_writeRow_1 1 rfl ?_
  refine vIloadN X dX4_writeRow_2 2 rfl ?_
  refine vIconst X dX4_writeRow_3 (v := nI (0)) (by decide) ?_
  refine vAloadN X dX4_writeRow_4 0 rfl ?_
  refine vIloadN X dX4_writeRow_5 2 rfl ?_
  refine vCallVd X [.int (nI (0)), .int (nI (r)), .int (nI (g)), .ref (o 0)] (mm_isRowT l D k o pl sb B Ln Rm Rd Pl Mk G Sz Kp th r (by omega)) (vGV q_782 q_784 q_7 q_29 q_785) ⟨by decide, by decide, (show _ = some 1 from by decide +kernel)⟩ ⟨Nat.le_of_ble_eq_true rfl, Nat.le_of_ble_eq_true rfl⟩ 0 4 rfl rfl rfl rfl (Nat.le_of_ble_eq_true rfl) dX4_writeRow_6 ⟨Nat.zero_le _, Nat.zero_le _⟩ ?_
  refine vIfN_eqF X 20 dX4_writeRow_9 (by decide) (by omega) (by omega) ?_
  refine vAloadN X dX4_writeRow_12 0 rfl ?_
  refine vIloadN X dX4_writeRow_13 2 rfl ?_
  refine vCallVd X [.int (nI (0)), .int (nI (r)), .int (nI (g)), .ref (o 0)] (mm_long0 l D k o pl sb B Ln Rm Rd Pl Mk G Sz Kp th r (by omega) (by omega)) (vGV q_790 q_792 q_9 q_29 q_793) ⟨by decide, by decide, (show _ = some 1 from by decide +kernel)⟩ ⟨Nat.le_of_ble_eq_true rfl, Nat.le_of_ble_eq_true rfl⟩ 0 4 rfl rfl rfl rfl (Nat.le_of_ble_eq_true rfl) dX4_writeRow_14 ⟨Nat.zero_le _, Nat.zero_le _⟩ ?_
  refine vGoto X 21 dX4_writeRow_17 (by decide) ?_
  refine vCallVd X [] (mm_writePart2 l D k o pl sb B Ln Rm Rd Pl Mk G Sz Kp th g r 0 (Ln (Rm r)) hg hr (by omega) hsg (by omega) hRm hLn) (vGV q_858 q_851 q_852 q_29 q_853) ⟨by decide, by decide, (show _ = some 4 from by decide +kernel)⟩ ⟨Nat.le_of_ble_eq_true rfl, Nat.le_of_ble_eq_true rfl⟩ 0 4 rfl rfl rfl rfl (Nat.le_of_ble_eq_true rfl) dX4_writeRow_21 ⟨Nat.zero_le _, Nat.zero_le _⟩ ?_
  exact vRetI X hret dX4_writeRow_24 ⟨rfl, rfl⟩
set_option maxHeartbeats 4000000 in
set_option maxRecDepth 100000 in
theorem mm_writeRow0 (l : Launch) (D : va_G) (k : Nat → ClassId) (o : Nat → Nat) (pl : va_W) (sb : Nat) (B : Nat → Nat → Int32) (Ln Rm : Nat → Nat) (Rd : Nat → Option Nat) (Pl Mk : Nat → Nat) (G : Nat → Nat → Int32) (Sz : Nat → Nat) (Kp : Nat → Int32) (th : Int32) (g r : Nat) (hg : g < 3) (hr : r < 4) (hs : Sz g + Ln (Rm r) ≤ 256) (hRm : ∀ r, r < 4 → Rm r < 8) (hLn : ∀ a, Ln a ≤ 256) (hBF : ∀ a b, lb (B a b) = B a b) : vCt l yX4_writeRow cX4_writeRow 3 (some .int) 3 69 0 0 D vCl (vTy k) sb [.ref (o 0), .int (nI (g)), .int (nI (r))] (mW k o pl B Ln Rm Rd Pl Mk G Sz Kp th) (vDet (some (.int (nI (Sz g + Ln (Rm r))))) (mW k o pl B Ln Rm Rd Pl Mk (cpG G g (Sz g) (Ln (Rm r)) (fun j => B (Rm r) (0 + j))) (va_up Sz g (Sz g + Ln (Rm r))) Kp (nI 0))) := by
  have hRr := hRm r hr
  have hLr := hLn (Rm r)
  refine vOf (by decide +kernel) (Nat.le_of_ble_eq_true rfl) (fun p9 e9 s9 m9 below9 meth9 c9 X hret _ => ?_)
  refine vAloadN X dX4_writeRow_0 0 rfl ?_
  refine vIloadN X dX4_writeRow_1 1 rfl ?_
  refine vIloadN X dX4_writeRow_2 2 rfl ?_
  refine vIconst X dX4_writeRow_3 (v := nI (0)) (by decide) ?_
  refine vAloadN X dX4_writeRow_4 0 rfl ?_
  refine vIloadN X dX4_writeRow_5 2 rfl ?_
  refine vCallVd X [.int (nI (0)), .int (nI (r)), .int (nI (g)), .ref (o 0)] (mm_isRowT l D k o pl sb B Ln Rm Rd Pl Mk G Sz Kp th r (by omega)) (vGV q_782 q_784 q_7 q_29 q_785) ⟨by decide, by decide, (show _ = some 1 from by decide +kernel)⟩ ⟨Nat.le_of_ble_eq_true rfl, Nat.le_of_ble_eq_true rfl⟩ 0 4 rfl rfl rfl rfl (Nat.le_of_ble_eq_true rfl) dX4_writeRow_6 ⟨Nat.zero_le _, Nat.zero_le _⟩ ?_
  refine vIfN_eqF X 20 dX4_writeRow_9 (by decide) (by omega) (by omega) ?_
  refine vAloadN X dX4_writeRow_12 0 rfl ?_
  refine vIloadN X dX4_writeRow_13 2 rfl ?_
  refine vCallVd X [.int (nI (0)), .int (nI (r)), .int (nI (g)), .ref (o 0)] (mm_long0 l D k o pl sb B Ln Rm Rd Pl Mk G Sz Kp th r (by omega) (by omega)) (vGV q_790 q_792 q_9 q_29 q_793) ⟨by decide, by decide, (show _ = some 1 from by decide +kernel)⟩ ⟨Nat.le_of_ble_eq_true rfl, Nat.le_of_ble_eq_true rfl⟩ 0 4 rfl rfl rfl rfl (Nat.le_of_ble_eq_true rfl) dX4_writeRow_14 ⟨Nat.zero_le _, Nat.zero_le _⟩ ?_
  refine vGoto X 21 dX4_writeRow_17 (by decide) ?_
  refine vCallVd X [] (mm_writePart0 l D k o pl sb B Ln Rm Rd Pl Mk G Sz Kp th g r 0 (Ln (Rm r)) hg hr (by omega) (by omega) hRm hLn hBF) (vGV q_858 q_851 q_852 q_29 q_853) ⟨by decide, by decide, (show _ = some 4 from by decide +kernel)⟩ ⟨Nat.le_of_ble_eq_true rfl, Nat.le_of_ble_eq_true rfl⟩ 0 4 rfl rfl rfl rfl (Nat.le_of_ble_eq_true rfl) dX4_writeRow_21 ⟨Nat.zero_le _, Nat.zero_le _⟩ ?_
  exact vRetI X hret dX4_writeRow_24 ⟨rfl, rfl⟩
