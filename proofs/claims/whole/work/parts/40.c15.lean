theorem xg0_138 : ∀ w ∈ ((nsW RX3 138).filter vx_no).filter goodWord, w ∈ lw_tbl := by decide +kernel
theorem xg1_138 : ∀ w ∈ ((nsW RX3 138).filter vx_no).filter goodWord, w ∈ vGW := fun w hw => List.mem_filter.mpr ⟨xg0_138 w hw, (List.mem_filter.mp hw).2⟩
theorem xg2_138 : ∀ w ∈ ((nsW RX3 138).filter vx_no).filter (fun w => !goodWord w), vBad w = true ∧ w ∈ lw_tbl := by decide +kernel
theorem xg3_138 : ∀ w ∈ Cond.classLink RX3 134 nsC :: Cond.initialized nsC :: ((nsW RX3 138).filter vx_no), vx_ot w = true := by decide +kernel
set_option maxHeartbeats 4000000 in
set_option maxRecDepth 100000 in
theorem ct_readNumber3 (l : Launch) (D : va_G) (k : Nat → ClassId) (sb : Nat) (L : List Nat) (f : Nat → va_E) (x aW aG aR tr tg : Nat) (gW gG gR : Nat → Option Nat) (q : Nat) (rd w b n s P M T Mt : Nat) (g : Nat → Int32) (hl : l.stackTraces = false) (hx : x ∈ L) (fx : f x = .inr (3, [.ref aW, .ref aG, .ref aR, .ref tr, .ref tg])) (haW : aW ∈ L) (faW : f aW = .inl (k 4, 4, .inr (.inr (.inr (.inr gW))))) (haG : aG ∈ L) (faG : f aG = .inl (k 2, 3, .inr (.inr (.inr (.inr gG))))) (haR : aR ∈ L) (faR : f aR = .inl (k 3, 3, .inr (.inr (.inr (.inr gR))))) (hq9 : q < 3) (eq : gR q = some rd) (hrd : rd ∈ L) (frd : f rd = .inr (1, [.ref w, .int (nI s), .int (nI P), .int (nI M), .int (nI T), .int (nI Mt)])) (hw : w ∈ L) (fw : f w = .inr (2, [.ref b])) (hb : b ∈ L) (fb : f b = .inl (k 0, n, .inl g)) (hn : n ≤ 256) (hP : P ≤ n) (hs : s = 1) (hP : P ≤ n) (he : n < P + 4) : vCtX l yX3_readNumber cX3_readNumber 5 (some .int) 9 131 1 6 D vCl (vTy k) sb [.ref (x), .int (nI (q))] (va_pl L f) "java/util/NoSuchElementException" := by
  refine vOfX (by decide +kernel) (Nat.le_of_ble_eq_true rfl) (fun p9 e9 s9 m9 below9 meth9 c9 X hE hnt => ?_)
  refine vAloadN X dX3_readNumber_0 0 rfl ?_
  refine vIloadN X dX3_readNumber_1 1 rfl ?_
  obtain ⟨ix2, hix2⟩ := vp_ix (f := f) hx
  refine vCallVd X [] (cb_readerAt l D k sb L f x aW aG aR tr tg (gW) (gG) (gR) q rd hx fx haW faW haG faG haR faR (by omega) eq) (vGV q_522 q_524 q_6 q_24 q_525) ⟨by decide, by decide, (show _ = some 1 from by decide +kernel)⟩ ⟨Nat.le_of_ble_eq_true rfl, Nat.le_of_ble_eq_true rfl⟩ ix2 3 rfl rfl (hix2.trans (by rw [fx])) rfl (Nat.le_of_ble_eq_true rfl) dX3_readNumber_2 ⟨Nat.le_of_ble_eq_true rfl, Nat.le_of_ble_eq_true rfl⟩ ?_
  refine vAstoreN X [(2, .ref (rd)), (0, .ref (x)), (1, .int (nI (q)))] dX3_readNumber_5 (by decide) rfl ?_
  refine vAloadN X dX3_readNumber_6 0 rfl ?_
  refine vCallSd X [] (cb_needOpen l D k sb L f rd w b (n) (s) (P) (M) (T) (Mt) (g)  hrd frd hw fw hb fb (by omega) (by omega) (by first | rfl | assumption)) (vGS q_542 q_543 q_24 q_544) rfl ⟨by decide, by decide, (show _ = some 1 from by decide +kernel)⟩ ⟨Nat.le_of_ble_eq_true rfl, Nat.le_of_ble_eq_true rfl⟩ rfl (Nat.le_of_ble_eq_true rfl) dX3_readNumber_7 ⟨Nat.le_of_ble_eq_true rfl, Nat.le_of_ble_eq_true rfl⟩ ?_
  refine vAloadN X dX3_readNumber_10 0 rfl ?_
  obtain ⟨ix11, hix11⟩ := vp_ix (f := f) hrd
  refine vCallVd X [] (cq_remaining l D k sb L f rd w b (n) (s) (P) (M) (T) (Mt) (g)  hrd frd hw fw hb fb (by omega) (by omega) ) (vGV q_161 q_162 q_163 q_28 q_164) ⟨by decide, by decide, (show _ = some 0 from by decide +kernel)⟩ ⟨Nat.le_of_ble_eq_true rfl, Nat.le_of_ble_eq_true rfl⟩ ix11 1 rfl rfl (hix11.trans (by rw [frd])) rfl (Nat.le_of_ble_eq_true rfl) dX3_readNumber_11 ⟨Nat.le_of_ble_eq_true rfl, Nat.le_of_ble_eq_true rfl⟩ ?_
  refine vIconst X dX3_readNumber_14 (v := nI (4)) (by decide) ?_
  refine vIcmpN_geF X 28 dX3_readNumber_15 (by decide) (by omega) (by omega) (by omega) ?_
  exact vThrowNS X hE hl hnt q_609 q_40 t_618 xg1_138 xg2_138 xg3_138 dX3_readNumber_18 dX3_readNumber_21 dX3_readNumber_22 dX3_readNumber_24 dX3_readNumber_27 (Nat.le_of_ble_eq_true rfl) (Nat.le_of_ble_eq_true rfl) (Nat.le_of_ble_eq_true rfl) (Nat.le_of_ble_eq_true rfl) (Nat.le_of_ble_eq_true rfl) (Nat.le_of_ble_eq_true rfl)
