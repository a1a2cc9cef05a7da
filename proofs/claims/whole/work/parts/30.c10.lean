set_option maxHeartbeats 4000000 in
set_option maxRecDepth 100000 in
theorem ct_leftShare1 (l : Launch) (D : va_G) (k : Nat → ClassId) (sb : Nat) (L : List Nat) (f : Nat → va_E) (x aW aG aR tr tg : Nat) (gW gG gR : Nat → Option Nat) (v : Int32) (hl : l.stackTraces = false) (hx : x ∈ L) (fx : f x = .inr (3, [.ref aW, .ref aG, .ref aR, .ref tr, .ref tg])) (haW : aW ∈ L) (faW : f aW = .inl (k 4, 4, .inr (.inr (.inr (.inr gW))))) (haG : aG ∈ L) (faG : f aG = .inl (k 2, 3, .inr (.inr (.inr (.inr gG))))) (haR : aR ∈ L) (faR : f aR = .inl (k 3, 3, .inr (.inr (.inr (.inr gR))))) (hv : ¬ vOther v) : vCtX l yX3_leftShare cX3_leftShare 4 (some .float) 9 131 1 6 D vCl (vTy k) sb [.ref (x), .int (v)] (va_pl L f) "java/lang/IndexOutOfBoundsException" := by
  refine vOfX (by decide +kernel) (Nat.le_of_ble_eq_true rfl) (fun p9 e9 s9 m9 below9 meth9 c9 X hE hnt => ?_)
  refine vAloadN X dX3_leftShare_0 0 rfl ?_
  refine vIloadN X dX3_leftShare_1 1 rfl ?_
  obtain ⟨ix2, hix2⟩ := vp_ix (f := f) hx
  exact vCallVT X hE hnt [] (ct_readerAt l D k sb L f x aW aG aR tr tg (gW) (gG) (gR) v hl hx fx haW faW haG faG haR faR hv) (vGV q_522 q_524 q_6 q_24 q_525) ⟨by decide, by decide, (show _ = some 1 from by decide +kernel)⟩ ⟨Nat.le_of_ble_eq_true rfl, Nat.le_of_ble_eq_true rfl⟩ ix2 3 rfl rfl (hix2.trans (by rw [fx])) rfl (Nat.le_of_ble_eq_true rfl) dX3_leftShare_2 ⟨(Nat.le_of_ble_eq_true rfl), (Nat.le_of_ble_eq_true rfl)⟩ (Nat.le_of_ble_eq_true rfl) (Nat.le_of_ble_eq_true rfl)
set_option maxHeartbeats 4000000 in
set_option maxRecDepth 100000 in
theorem ct_leftShare2 (l : Launch) (D : va_G) (k : Nat → ClassId) (sb : Nat) (L : List Nat) (f : Nat → va_E) (x aW aG aR tr tg : Nat) (gW gG gR : Nat → Option Nat) (q : Nat) (rd w b n s P M T Mt : Nat) (g : Nat → Int32) (hl : l.stackTraces = false) (hx : x ∈ L) (fx : f x = .inr (3, [.ref aW, .ref aG, .ref aR, .ref tr, .ref tg])) (haW : aW ∈ L) (faW : f aW = .inl (k 4, 4, .inr (.inr (.inr (.inr gW))))) (haG : aG ∈ L) (faG : f aG = .inl (k 2, 3, .inr (.inr (.inr (.inr gG))))) (haR : aR ∈ L) (faR : f aR = .inl (k 3, 3, .inr (.inr (.inr (.inr gR))))) (hq9 : q < 3) (eq : gR q = some rd) (hrd : rd ∈ L) (frd : f rd = .inr (1, [.ref w, .int (nI s), .int (nI P), .int (nI M), .int (nI T), .int (nI Mt)])) (hw : w ∈ L) (fw : f w = .inr (2, [.ref b])) (hb : b ∈ L) (fb : f b = .inl (k 0, n, .inl g)) (hn : n ≤ 256) (hP : P ≤ n) (hs : s = 0) : vCtX l yX3_leftShare cX3_leftShare 4 (some .float) 9 131 1 6 D vCl (vTy k) sb [.ref (x), .int (nI (q))] (va_pl L f) "java/lang/UnsupportedOperationException" := by
  refine vOfX (by decide +kernel) (Nat.le_of_ble_eq_true rfl) (fun p9 e9 s9 m9 below9 meth9 c9 X hE hnt => ?_)
  refine vAloadN X dX3_leftShare_0 0 rfl ?_
  refine vIloadN X dX3_leftShare_1 1 rfl ?_
  obtain ⟨ix2, hix2⟩ := vp_ix (f := f) hx
  refine vCallVd X [] (cb_readerAt l D k sb L f x aW aG aR tr tg (gW) (gG) (gR) q rd hx fx haW faW haG faG haR faR (by omega) eq) (vGV q_522 q_524 q_6 q_24 q_525) ⟨by decide, by decide, (show _ = some 1 from by decide +kernel)⟩ ⟨Nat.le_of_ble_eq_true rfl, Nat.le_of_ble_eq_true rfl⟩ ix2 3 rfl rfl (hix2.trans (by rw [fx])) rfl (Nat.le_of_ble_eq_true rfl) dX3_leftShare_2 ⟨Nat.le_of_ble_eq_true rfl, Nat.le_of_ble_eq_true rfl⟩ ?_
  refine vAstoreN X [(2, .ref (rd)), (0, .ref (x)), (1, .int (nI (q)))] dX3_leftShare_5 (by decide) rfl ?_
  refine vAloadN X dX3_leftShare_6 0 rfl ?_
  exact vCallST X hE hnt [] (ct_needOpen l D k sb L f rd w b (n) (s) (P) (M) (T) (Mt) (g) hl hrd frd hw fw hb fb (by omega) (by omega) (by first | rfl | assumption)) (vGS q_542 q_543 q_24 q_544) rfl ⟨by decide, by decide, (show _ = some 1 from by decide +kernel)⟩ ⟨Nat.le_of_ble_eq_true rfl, Nat.le_of_ble_eq_true rfl⟩ rfl (Nat.le_of_ble_eq_true rfl) dX3_leftShare_7 ⟨(Nat.le_of_ble_eq_true rfl), (Nat.le_of_ble_eq_true rfl)⟩ (Nat.le_of_ble_eq_true rfl) (Nat.le_of_ble_eq_true rfl)
set_option maxHeartbeats 4000000 in
set_option maxRecDepth 100000 in
theorem ct_leftShare3 (l : Launch) (D : va_G) (k : Nat → ClassId) (sb : Nat) (L : List Nat) (f : Nat → va_E) (x aW aG aR tr tg : Nat) (gW gG gR : Nat → Option Nat) (q : Nat) (rd w b n s P M T Mt : Nat) (g : Nat → Int32) (hl : l.stackTraces = false) (hx : x ∈ L) (fx : f x = .inr (3, [.ref aW, .ref aG, .ref aR, .ref tr, .ref tg])) (haW : aW ∈ L) (faW : f aW = .inl (k 4, 4, .inr (.inr (.inr (.inr gW))))) (haG : aG ∈ L) (faG : f aG = .inl (k 2, 3, .inr (.inr (.inr (.inr gG))))) (haR : aR ∈ L) (faR : f aR = .inl (k 3, 3, .inr (.inr (.inr (.inr gR))))) (hq9 : q < 3) (eq : gR q = some rd) (hrd : rd ∈ L) (frd : f rd = .inr (1, [.ref w, .int (nI s), .int (nI P), .int (nI M), .int (nI T), .int (nI Mt)])) (hw : w ∈ L) (fw : f w = .inr (2, [.ref b])) (hb : b ∈ L) (fb : f b = .inl (k 0, n, .inl g)) (hn : n ≤ 256) (hP : P ≤ n) (hs : s = 1) (hz : n = 0) : vCtX l yX3_leftShare cX3_leftShare 4 (some .float) 9 131 1 6 D vCl (vTy k) sb [.ref (x), .int (nI (q))] (va_pl L f) "java/lang/ArithmeticException" := by
  refine vOfX (by decide +kernel) (Nat.le_of_ble_eq_true rfl) (fun p9 e9 s9 m9 below9 meth9 c9 X hE hnt => ?_)
  refine vAloadN X dX3_leftShare_0 0 rfl ?_
  refine vIloadN X dX3_leftShare_1 1 rfl ?_
  obtain ⟨ix2, hix2⟩ := vp_ix (f := f) hx
  refine vCallVd X [] (cb_readerAt l D k sb L f x aW aG aR tr tg (gW) (gG) (gR) q rd hx fx haW faW haG faG haR faR (by omega) eq) (vGV q_522 q_524 q_6 q_24 q_525) ⟨by decide, by decide, (show _ = some 1 from by decide +kernel)⟩ ⟨Nat.le_of_ble_eq_true rfl, Nat.le_of_ble_eq_true rfl⟩ ix2 3 rfl rfl (hix2.trans (by rw [fx])) rfl (Nat.le_of_ble_eq_true rfl) dX3_leftShare_2 ⟨Nat.le_of_ble_eq_true rfl, Nat.le_of_ble_eq_true rfl⟩ ?_
  refine vAstoreN X [(2, .ref (rd)), (0, .ref (x)), (1, .int (nI (q)))] dX3_leftShare_5 (by decide) rfl ?_
  refine vAloadN X dX3_leftShare_6 0 rfl ?_
  refine vCallSd X [] (cb_needOpen l D k sb L f rd w b (n) (s) (P) (M) (T) (Mt) (g)  hrd frd hw fw hb fb (by omega) (by omega) (by first | rfl | assumption)) (vGS q_542 q_543 q_24 q_544) rfl ⟨by decide, by decide, (show _ = some 1 from by decide +kernel)⟩ ⟨Nat.le_of_ble_eq_true rfl, Nat.le_of_ble_eq_true rfl⟩ rfl (Nat.le_of_ble_eq_true rfl) dX3_leftShare_7 ⟨Nat.le_of_ble_eq_true rfl, Nat.le_of_ble_eq_true rfl⟩ ?_
  refine vAloadN X dX3_leftShare_10 0 rfl ?_
  obtain ⟨ix11, hix11⟩ := vp_ix (f := f) hrd
  refine vCallVd X [] (cq_whole l D k sb L f rd w b (n) (s) (P) (M) (T) (Mt) (g)  hrd frd hw fw hb fb (by omega) (by omega) ) (vGV q_721 q_722 q_723 q_28 q_724) ⟨by decide, by decide, (show _ = some 0 from by decide +kernel)⟩ ⟨Nat.le_of_ble_eq_true rfl, Nat.le_of_ble_eq_true rfl⟩ ix11 1 rfl rfl (hix11.trans (by rw [frd])) rfl (Nat.le_of_ble_eq_true rfl) dX3_leftShare_11 ⟨Nat.le_of_ble_eq_true rfl, Nat.le_of_ble_eq_true rfl⟩ ?_
  refine vIstoreN X [(3, .int (nI (n))), (2, .ref (rd)), (0, .ref (x)), (1, .int (nI (q)))] dX3_leftShare_14 (by decide) rfl ?_
  refine vIloadN X dX3_leftShare_15 0 rfl ?_
  refine vIfN_neF X 29 dX3_leftShare_16 (by decide) (by omega) (by omega) ?_
  exact vThrowS X hE hl hnt (by decide +kernel) q_725 q_41 t_726 xg1_179 xg2_179 xg3_179 dX3_leftShare_19 dX3_leftShare_22 dX3_leftShare_23 dX3_leftShare_25 dX3_leftShare_28 (Nat.le_of_ble_eq_true rfl) (Nat.le_of_ble_eq_true rfl) (Nat.le_of_ble_eq_true rfl) (Nat.le_of_ble_eq_true rfl) (Nat.le_of_ble_eq_true rfl) (Nat.le_of_ble_eq_true rfl)
set_option maxHeartbeats 4000000 in
set_option maxRecDepth 100000 in
theorem cb_leftShare (l : Launch) (D : va_G) (k : Nat → ClassId) (sb : Nat) (L : List Nat) (f : Nat → va_E) (x aW aG aR tr tg : Nat) (gW gG gR : Nat → Option Nat) (q : Nat) (rd w b n s P M T Mt : Nat) (g : Nat → Int32) (hx : x ∈ L) (fx : f x = .inr (3, [.ref aW, .ref aG, .ref aR, .ref tr, .ref tg])) (haW : aW ∈ L) (faW : f aW = .inl (k 4, 4, .inr (.inr (.inr (.inr gW))))) (haG : aG ∈ L) (faG : f aG = .inl (k 2, 3, .inr (.inr (.inr (.inr gG))))) (haR : aR ∈ L) (faR : f aR = .inl (k 3, 3, .inr (.inr (.inr (.inr gR))))) (hq9 : q < 3) (eq : gR q = some rd) (hrd : rd ∈ L) (frd : f rd = .inr (1, [.ref w, .int (nI s), .int (nI P), .int (nI M), .int (nI T), .int (nI Mt)])) (hw : w ∈ L) (fw : f w = .inr (2, [.ref b])) (hb : b ∈ L) (fb : f b = .inl (k 0, n, .inl g)) (hn : n ≤ 256) (hP : P ≤ n) (hs : s = 1) (hz : 0 < n) (hnn : vf_n32 (FP.fdiv (FP.i2f (nI (n - P))) (FP.i2f (nI n)))) : vCt l yX3_leftShare cX3_leftShare 4 (some .float) 9 131 0 0 D vCl (vTy k) sb [.ref (x), .int (nI (q))] (va_pl L f) (vDet (some (.float (FP.fdiv (FP.i2f (nI (n - P))) (FP.i2f (nI n))))) (va_pl L f)) := by
  refine vOf (by decide +kernel) (Nat.le_of_ble_eq_true rfl) (fun p9 e9 s9 m9 below9 meth9 c9 X hret hmn => ?_)
  refine vAloadN X dX3_leftShare_0 0 rfl ?_
  refine vIloadN X dX3_leftShare_1 1 rfl ?_
  obtain ⟨ix2, hix2⟩ := vp_ix (f := f) hx
  refine vCallVd X [] (cb_readerAt l D k sb L f x aW aG aR tr tg (gW) (gG) (gR) q rd hx fx haW faW haG faG haR faR (by omega) eq) (vGV q_522 q_524 q_6 q_24 q_525) ⟨by decide, by decide, (show _ = some 1 from by decide +kernel)⟩ ⟨Nat.le_of_ble_eq_true rfl, Nat.le_of_ble_eq_true rfl⟩ ix2 3 rfl rfl (hix2.trans (by rw [fx])) rfl (Nat.le_of_ble_eq_true rfl) dX3_leftShare_2 ⟨Nat.le_of_ble_eq_true rfl, Nat.le_of_ble_eq_true rfl⟩ ?_
  refine vAstoreN X [(2, .ref (rd)), (0, .ref (x)), (1, .int (nI (q)))] dX3_leftShare_5 (by decide) rfl ?_
  refine vAloadN X dX3_leftShare_6 0 rfl ?_
  refine vCallSd X [] (cb_needOpen l D k sb L f rd w b (n) (s) (P) (M) (T) (Mt) (g)  hrd frd hw fw hb fb (by omega) (by omega) (by first | rfl | assumption)) (vGS q_542 q_543 q_24 q_544) rfl ⟨by decide, by decide, (show _ = some 1 from by decide +kernel)⟩ ⟨Nat.le_of_ble_eq_true rfl, Nat.le_of_ble_eq_true rfl⟩ rfl (Nat.le_of_ble_eq_true rfl) dX3_leftShare_7 ⟨Nat.le_of_ble_eq_true rfl, Nat.le_of_ble_eq_true rfl⟩ ?_
  refine vAloadN X dX3_leftShare_10 0 rfl ?_
  obtain ⟨ix11, hix11⟩ := vp_ix (f := f) hrd
  refine vCallVd X [] (cq_whole l D k sb L f rd w b (n) (s) (P) (M) (T) (Mt) (g)  hrd frd hw fw hb fb (by omega) (by omega) ) (vGV q_721 q_722 q_723 q_28 q_724) ⟨by decide, by decide, (show _ = some 0 from by decide +kernel)⟩ ⟨Nat.le_of_ble_eq_true rfl, Nat.le_of_ble_eq_true rfl⟩ ix11 1 rfl rfl (hix11.trans (by rw [frd])) rfl (Nat.le_of_ble_eq_true rfl) dX3_leftShare_11 ⟨Nat.le_of_ble_eq_true rfl, Nat.le_of_ble_eq_true rfl⟩ ?_
  refine vIstoreN X [(3, .int (nI (n))), (2, .ref (rd)), (0, .ref (x)), (1, .int (nI (q)))] dX3_leftShare_14 (by decide) rfl ?_
  refine vIloadN X dX3_leftShare_15 0 rfl ?_
  refine vIfN_neT X 29 dX3_leftShare_16 (by decide) (by omega) (by omega) ?_
  refine vAloadN X dX3_leftShare_29 1 rfl ?_
  obtain ⟨ix30, hix30⟩ := vp_ix (f := f) hrd
  refine vCallVd X [] (cq_remaining l D k sb L f rd w b (n) (s) (P) (M) (T) (Mt) (g)  hrd frd hw fw hb fb (by omega) (by omega) ) (vGV q_161 q_162 q_163 q_28 q_164) ⟨by decide, by decide, (show _ = some 0 from by decide +kernel)⟩ ⟨Nat.le_of_ble_eq_true rfl, Nat.le_of_ble_eq_true rfl⟩ ix30 1 rfl rfl (hix30.trans (by rw [frd])) rfl (Nat.le_of_ble_eq_true rfl) dX3_leftShare_30 ⟨Nat.le_of_ble_eq_true rfl, Nat.le_of_ble_eq_true rfl⟩ ?_
  refine vI2f X dX3_leftShare_33 ?_
  refine vIloadN X dX3_leftShare_34 0 rfl ?_
  refine vI2f X dX3_leftShare_35 ?_
  refine vFdiv X dX3_leftShare_36 hnn ?_
  exact vRetF X hret dX3_leftShare_37 ⟨rfl, rfl⟩
set_option maxHeartbeats 4000000 in
set_option maxRecDepth 100000 in
theorem cLp_meanSize {p9 : Program} {l : Launch} {e9 : Env} {s9 : State} {m9 : MethodId} {args9 : Array Value} {below9 : List Frame} {meth9 : Method} {c9 : Code} {Q9 : State → Prop} (D : va_G) (k : Nat → ClassId) (sb : Nat) (L : List Nat) (f : Nat → va_E) (x aW aG aR tr tg : Nat) (gW gG gR : Nat → Option Nat) (Sz : Nat → Nat) (G : Nat → Nat → Int32) (hx : x ∈ L) (fx : f x = .inr (3, [.ref aW, .ref aG, .ref aR, .ref tr, .ref tg])) (haW : aW ∈ L) (faW : f aW = .inl (k 4, 4, .inr (.inr (.inr (.inr gW))))) (haG : aG ∈ L) (faG : f aG = .inl (k 2, 3, .inr (.inr (.inr (.inr gG))))) (haR : aR ∈ L) (faR : f aR = .inl (k 3, 3, .inr (.inr (.inr (.inr gR))))) (hGa : ∀ j, j < 3 → ∃ (u ur ub : Nat) (gu : Nat → Int32), gG j = some u ∧ u ∈ L ∧ f u = .inr (0, [.ref ur, .int (nI (Sz j))]) ∧ ur ∈ L ∧ f ur = .inr (2, [.ref ub]) ∧ ub ∈ L ∧ f ub = .inl (k 0, 256, .inl gu) ∧ Sz j ≤ 256 ∧ (∀ i, i < Sz j → gu i = G j i)) (X : vCX p9 s9 m9 args9 meth9 c9 cX3_meanSize 4 yX3_meanSize.cls (Cond.code yX3_meanSize cX3_meanSize 4 (some .double) :: vGW) D vCl (vTy k) sb) (hex : vV p9 l e9 ({ frames := 8, cells := 0, slots := 0, locals := 110 }) s9 m9 args9 below9 meth9 c9 4 D vCl sb Q9 (va_pl L f) 0 0 48 [(2, .int (nI (cnS Sz 3))), (1, .int (nI (smS Sz 3)))] []) : ∀ (z i : Nat) (s1 : Nat) (c1 : Nat), i + z = 3 → s1 = smS Sz i → c1 = cnS Sz i → vV p9 l e9 ({ frames := 8, cells := 0, slots := 0, locals := 110 }) s9 m9 args9 below9 meth9 c9 4 D vCl sb Q9 (va_pl L f) 0 0 6 [(3, .int (nI (i))), (2, .int (nI (c1))), (1, .int (nI (s1))), (0, .ref (x))] [] := by
  intro z
  induction z with
  | zero =>
    intro i s1 c1 hi hs1 hc1
    have hin : 3 = i := by omega
    subst hin
    subst hs1
    subst hc1
    refine vIloadN X dX3_meanSize_6 0 rfl ?_
    refine vAloadN X dX3_meanSize_7 3 rfl ?_
    refine vpGet X (C := RX3) (T := TX3) (N := 5) (ci := 3) (vcons inB) rfl hx fx 1 (by decide) (List.mem_cons_of_mem _ q_110) (fun _ h => h) rfl dX3_meanSize_8 ?_
    refine vpAlen X (v := nI (3)) haG faG 2 rfl rfl dX3_meanSize_11 ?_
    refine vIcmpN_geT X 48 dX3_meanSize_12 (by decide) (by omega) (by omega) (by omega) ?_
    refine vSub [1, 2] [(2, .int (nI (cnS Sz 3))), (1, .int (nI (smS Sz 3)))] rfl ?_
    exact hex
  | succ z ih =>
    intro i s1 c1 hi hs1 hc1
    obtain ⟨u, ur, ub, gu, eu, hu, fu, hur, fur, hub, fub, hc, hgG⟩ := hGa i (by omega)
    have hsl := smS_le (fun j hj => (by obtain ⟨_, _, _, _, _, _, _, _, _, _, _, h9, _⟩ := hGa j hj; exact h9) : ∀ j, j < 3 → Sz j ≤ 256) i (by omega)
    have hcl := cnS_le Sz i
    refine vIloadN X dX3_meanSize_6 0 rfl ?_
    refine vAloadN X dX3_meanSize_7 3 rfl ?_
    refine vpGet X (C := RX3) (T := TX3) (N := 5) (ci := 3) (vcons inB) rfl hx fx 1 (by decide) (List.mem_cons_of_mem _ q_110) (fun _ h => h) rfl dX3_meanSize_8 ?_
    refine vpAlen X (v := nI (3)) haG faG 2 rfl rfl dX3_meanSize_11 ?_
    refine vIcmpN_geF X 48 dX3_meanSize_12 (by decide) (by omega) (by omega) (by omega) ?_
    refine vAloadN X dX3_meanSize_15 3 rfl ?_
    refine vpGet X (C := RX3) (T := TX3) (N := 5) (ci := 3) (vcons inB) rfl hx fx 1 (by decide) (List.mem_cons_of_mem _ q_110) (fun _ h => h) rfl dX3_meanSize_16 ?_
    refine vIloadN X dX3_meanSize_19 0 rfl ?_
    refine vpAaload X (r := u) haG faG 2 rfl rfl (by omega) (by omega) eu dX3_meanSize_20 ?_
    obtain ⟨ix21, hix21⟩ := vp_ix (f := f) hu
    refine vCallVd X [] (cg_count l D k sb L f u ur ub (Sz i) (gu)  hu fu hur fur hub fub (by omega) ) (vGV q_148 q_149 q_150 q_27 q_151) ⟨by decide, by decide, (show _ = some 0 from by decide +kernel)⟩ ⟨Nat.le_of_ble_eq_true rfl, Nat.le_of_ble_eq_true rfl⟩ ix21 0 rfl rfl (hix21.trans (by rw [fu])) rfl (Nat.le_of_ble_eq_true rfl) dX3_meanSize_21 ⟨Nat.le_of_ble_eq_true rfl, Nat.le_of_ble_eq_true rfl⟩ ?_
    refine vIf_le X 42 dX3_meanSize_24 (by decide) (fun hc24 => ?_) (fun hc24 => ?_)
    · have hc24 : ¬ 0 < Sz i := by
        intro q
        have := (nI_leI (b := 0) (by omega) (by omega)).mp hc24
        omega
      refine vIinc X [(3, .int (nI (i + 1))), (2, .int (nI (c1))), (1, .int (nI (s1))), (0, .ref (x))] dX3_meanSize_42 0 rfl (nI_inc _) (by decide) rfl ?_
      refine vGoto X 6 dX3_meanSize_45 (by decide) ?_
      refine vSub [0, 1, 2, 3] [(3, .int (nI (i + 1))), (2, .int (nI (c1))), (1, .int (nI (s1))), (0, .ref (x))] rfl ?_
      exact ih (i + 1) _ _ (by omega) (by have h7 : smS Sz (i + 1) = smS Sz i + Sz i := rfl; omega) (by rw [hc1]; simp [cnS, hc24])
    · have hc24 : 0 < Sz i := Nat.lt_of_not_le (fun q => hc24 ((nI_leI (b := 0) (by omega) (by omega)).mpr q))
      refine vIloadN X dX3_meanSize_27 2 rfl ?_
      refine vAloadN X dX3_meanSize_28 3 rfl ?_
      refine vpGet X (C := RX3) (T := TX3) (N := 5) (ci := 3) (vcons inB) rfl hx fx 1 (by decide) (List.mem_cons_of_mem _ q_110) (fun _ h => h) rfl dX3_meanSize_29 ?_
      refine vIloadN X dX3_meanSize_32 0 rfl ?_
      refine vpAaload X (r := u) haG faG 2 rfl rfl (by omega) (by omega) eu dX3_meanSize_33 ?_
      obtain ⟨ix34, hix34⟩ := vp_ix (f := f) hu
      refine vCallVd X [.int (nI (s1))] (cg_count l D k sb L f u ur ub (Sz i) (gu)  hu fu hur fur hub fub (by omega) ) (vGV q_148 q_149 q_150 q_27 q_151) ⟨by decide, by decide, (show _ = some 0 from by decide +kernel)⟩ ⟨Nat.le_of_ble_eq_true rfl, Nat.le_of_ble_eq_true rfl⟩ ix34 0 rfl rfl (hix34.trans (by rw [fu])) rfl (Nat.le_of_ble_eq_true rfl) dX3_meanSize_34 ⟨Nat.le_of_ble_eq_true rfl, Nat.le_of_ble_eq_true rfl⟩ ?_
      refine vIadd X dX3_meanSize_37 (v := nI ((s1) + (Sz i))) (nI_add _ _) ?_
      refine vIstoreN X [(1, .int (nI ((s1) + (Sz i)))), (3, .int (nI (i))), (2, .int (nI (c1))), (0, .ref (x))] dX3_meanSize_38 (by decide) rfl ?_
      refine vIinc X [(2, .int (nI (c1 + 1))), (1, .int (nI ((s1) + (Sz i)))), (3, .int (nI (i))), (0, .ref (x))] dX3_meanSize_39 2 rfl (nI_inc _) (by decide) rfl ?_
      refine vIinc X [(3, .int (nI (i + 1))), (2, .int (nI (c1 + 1))), (1, .int (nI ((s1) + (Sz i)))), (0, .ref (x))] dX3_meanSize_42 2 rfl (nI_inc _) (by decide) rfl ?_
      refine vGoto X 6 dX3_meanSize_45 (by decide) ?_
      refine vSub [0, 1, 2, 3] [(3, .int (nI (i + 1))), (2, .int (nI (c1 + 1))), (1, .int (nI ((s1) + (Sz i)))), (0, .ref (x))] rfl ?_
      exact ih (i + 1) _ _ (by omega) (by have h7 : smS Sz (i + 1) = smS Sz i + Sz i := rfl; omega) (by rw [hc1]; simp [cnS, hc24])
set_option maxHeartbeats 4000000 in
set_option maxRecDepth 100000 in
theorem cLp_meanSizeT {p9 : Program} {l : Launch} {e9 : Env} {s9 : State} {m9 : MethodId} {args9 : Array Value} {below9 : List Frame} {meth9 : Method} {c9 : Code} {Q9 : State → Prop} (D : va_G) (k : Nat → ClassId) (sb : Nat) (L : List Nat) (f : Nat → va_E) (x aW aG aR tr tg : Nat) (gW gG gR : Nat → Option Nat) (Sz : Nat → Nat) (G : Nat → Nat → Int32) (hx : x ∈ L) (fx : f x = .inr (3, [.ref aW, .ref aG, .ref aR, .ref tr, .ref tg])) (haW : aW ∈ L) (faW : f aW = .inl (k 4, 4, .inr (.inr (.inr (.inr gW))))) (haG : aG ∈ L) (faG : f aG = .inl (k 2, 3, .inr (.inr (.inr (.inr gG))))) (haR : aR ∈ L) (faR : f aR = .inl (k 3, 3, .inr (.inr (.inr (.inr gR))))) (hGa : ∀ j, j < 3 → ∃ (u ur ub : Nat) (gu : Nat → Int32), gG j = some u ∧ u ∈ L ∧ f u = .inr (0, [.ref ur, .int (nI (Sz j))]) ∧ ur ∈ L ∧ f ur = .inr (2, [.ref ub]) ∧ ub ∈ L ∧ f ub = .inl (k 0, 256, .inl gu) ∧ Sz j ≤ 256 ∧ (∀ i, i < Sz j → gu i = G j i)) (X : vCX p9 s9 m9 args9 meth9 c9 cX3_meanSize 4 yX3_meanSize.cls (Cond.code yX3_meanSize cX3_meanSize 4 (some .double) :: vGW) D vCl (vTy k) sb) (hex : vV p9 l e9 ({ frames := 8, cells := 1, slots := 6, locals := 110 }) s9 m9 args9 below9 meth9 c9 4 D vCl sb Q9 (va_pl L f) 0 0 48 [(2, .int (nI (cnS Sz 3))), (1, .int (nI (smS Sz 3)))] []) : ∀ (z i : Nat) (s1 : Nat) (c1 : Nat), i + z = 3 → s1 = smS Sz i → c1 = cnS Sz i → vV p9 l e9 ({ frames := 8, cells := 1, slots := 6, locals := 110 }) s9 m9 args9 below9 meth9 c9 4 D vCl sb Q9 (va_pl L f) 0 0 6 [(3, .int (nI (i))), (2, .int (nI (c1))), (1, .int (nI (s1))), (0, .ref (x))] [] := by
  intro z
  induction z with
  | zero =>
    intro i s1 c1 hi hs1 hc1
    have hin : 3 = i := by omega
    subst hin
    subst hs1
    subst hc1
    refine vIloadN X dX3_meanSize_6 0 rfl ?_
    refine vAloadN X dX3_meanSize_7 3 rfl ?_
    refine vpGet X (C := RX3) (T := TX3) (N := 5) (ci := 3) (vcons inB) rfl hx fx 1 (by decide) (List.mem_cons_of_mem _ q_110) (fun _ h => h) rfl dX3_meanSize_8 ?_
    refine vpAlen X (v := nI (3)) haG faG 2 rfl rfl dX3_meanSize_11 ?_
    refine vIcmpN_geT X 48 dX3_meanSize_12 (by decide) (by omega) (by omega) (by omega) ?_
    refine vSub [1, 2] [(2, .int (nI (cnS Sz 3))), (1, .int (nI (smS Sz 3)))] rfl ?_
    exact hex
  | succ z ih =>
    intro i s1 c1 hi hs1 hc1
    obtain ⟨u, ur, ub, gu, eu, hu, fu, hur, fur, hub, fub, hc, hgG⟩ := hGa i (by omega)
    have hsl := smS_le (fun j hj => (by obtain ⟨_, _, _, _, _, _, _, _, _, _, _, h9, _⟩ := hGa j hj; exact h9) : ∀ j, j < 3 → Sz j ≤ 256) i (by omega)
    have hcl := cnS_le Sz i
    refine vIloadN X dX3_meanSize_6 0 rfl ?_
    refine vAloadN X dX3_meanSize_7 3 rfl ?_
    refine vpGet X (C := RX3) (T := TX3) (N := 5) (ci := 3) (vcons inB) rfl hx fx 1 (by decide) (List.mem_cons_of_mem _ q_110) (fun _ h => h) rfl dX3_meanSize_8 ?_
    refine vpAlen X (v := nI (3)) haG faG 2 rfl rfl dX3_meanSize_11 ?_
    refine vIcmpN_geF X 48 dX3_meanSize_12 (by decide) (by omega) (by omega) (by omega) ?_
    refine vAloadN X dX3_meanSize_15 3 rfl ?_
    refine vpGet X (C := RX3) (T := TX3) (N := 5) (ci := 3) (vcons inB) rfl hx fx 1 (by decide) (List.mem_cons_of_mem _ q_110) (fun _ h => h) rfl dX3_meanSize_16 ?_
    refine vIloadN X dX3_meanSize_19 0 rfl ?_
    refine vpAaload X (r := u) haG faG 2 rfl rfl (by omega) (by omega) eu dX3_meanSize_20 ?_
    obtain ⟨ix21, hix21⟩ := vp_ix (f := f) hu
    refine vCallVd X [] (cg_count l D k sb L f u ur ub (Sz i) (gu)  hu fu hur fur hub fub (by omega) ) (vGV q_148 q_149 q_150 q_27 q_151) ⟨by decide, by decide, (show _ = some 0 from by decide +kernel)⟩ ⟨Nat.le_of_ble_eq_true rfl, Nat.le_of_ble_eq_true rfl⟩ ix21 0 rfl rfl (hix21.trans (by rw [fu])) rfl (Nat.le_of_ble_eq_true rfl) dX3_meanSize_21 ⟨Nat.le_of_ble_eq_true rfl, Nat.le_of_ble_eq_true rfl⟩ ?_
    refine vIf_le X 42 dX3_meanSize_24 (by decide) (fun hc24 => ?_) (fun hc24 => ?_)
    · have hc24 : ¬ 0 < Sz i := by
        intro q
        have := (nI_leI (b := 0) (by omega) (by omega)).mp hc24
        omega
      refine vIinc X [(3, .int (nI (i + 1))), (2, .int (nI (c1))), (1, .int (nI (s1))), (0, .ref (x))] dX3_meanSize_42 0 rfl (nI_inc _) (by decide) rfl ?_
      refine vGoto X 6 dX3_meanSize_45 (by decide) ?_
      refine vSub [0, 1, 2, 3] [(3, .int (nI (i + 1))), (2, .int (nI (c1))), (1, .int (nI (s1))), (0, .ref (x))] rfl ?_
      exact ih (i + 1) _ _ (by omega) (by have h7 : smS Sz (i + 1) = smS Sz i + Sz i := rfl; omega) (by rw [hc1]; simp [cnS, hc24])
    · have hc24 : 0 < Sz i := Nat.lt_of_not_le (fun q => hc24 ((nI_leI (b := 0) (by omega) (by omega)).mpr q))
      refine vIloadN X dX3_meanSize_27 2 rfl ?_
      refine vAloadN X dX3_meanSize_28 3 rfl ?_
      refine vpGet X (C := RX3) (T := TX3) (N := 5) (ci := 3) (vcons inB) rfl hx fx 1 (by decide) (List.mem_cons_of_mem _ q_110) (fun _ h => h) rfl dX3_meanSize_29 ?_
      refine vIloadN X dX3_meanSize_32 0 rfl ?_
      refine vpAaload X (r := u) haG faG 2 rfl rfl (by omega) (by omega) eu dX3_meanSize_33 ?_
      obtain ⟨ix34, hix34⟩ := vp_ix (f := f) hu
      refine vCallVd X [.int (nI (s1))] (cg_count l D k sb L f u ur ub (Sz i) (gu)  hu fu hur fur hub fub (by omega) ) (vGV q_148 q_149 q_150 q_27 q_151) ⟨by decide, by decide, (show _ = some 0 from by decide +kernel)⟩ ⟨Nat.le_of_ble_eq_true rfl, Nat.le_of_ble_eq_true rfl⟩ ix34 0 rfl rfl (hix34.trans (by rw [fu])) rfl (Nat.le_of_ble_eq_true rfl) dX3_meanSize_34 ⟨Nat.le_of_ble_eq_true rfl, Nat.le_of_ble_eq_true rfl⟩ ?_
      refine vIadd X dX3_meanSize_37 (v := nI ((s1) + (Sz i))) (nI_add _ _) ?_
      refine vIstoreN X [(1, .int (nI ((s1) + (Sz i)))), (3, .int (nI (i))), (2, .int (nI (c1))), (0, .ref (x))] dX3_meanSize_38 (by decide) rfl ?_
      refine vIinc X [(2, .int (nI (c1 + 1))), (1, .int (nI ((s1) + (Sz i)))), (3, .int (nI (i))), (0, .ref (x))] dX3_meanSize_39 2 rfl (nI_inc _) (by decide) rfl ?_
      refine vIinc X [(3, .int (nI (i + 1))), (2, .int (nI (c1 + 1))), (1, .int (nI ((s1) + (Sz i)))), (0, .ref (x))] dX3_meanSize_42 2 rfl (nI_inc _) (by decide) rfl ?_
      refine vGoto X 6 dX3_meanSize_45 (by decide) ?_
      refine vSub [0, 1, 2, 3] [(3, .int (nI (i + 1))), (2, .int (nI (c1 + 1))), (1, .int (nI ((s1) + (Sz i)))), (0, .ref (x))] rfl ?_
      exact ih (i + 1) _ _ (by omega) (by have h7 : smS Sz (i + 1) = smS Sz i + Sz i := rfl; omega) (by rw [hc1]; simp [cnS, hc24])
set_option maxHeartbeats 4000000 in
set_option maxRecDepth 100000 in
theorem ct_meanSize (l : Launch) (D : va_G) (k : Nat → ClassId) (sb : Nat) (L : List Nat) (f : Nat → va_E) (x aW aG aR tr tg : Nat) (gW gG gR : Nat → Option Nat) (Sz : Nat → Nat) (G : Nat → Nat → Int32) (hl : l.stackTraces = false) (hx : x ∈ L) (fx : f x = .inr (3, [.ref aW, .ref aG, .ref aR, .ref tr, .ref tg])) (haW : aW ∈ L) (faW : f aW = .inl (k 4, 4, .inr (.inr (.inr (.inr gW))))) (haG : aG ∈ L) (faG : f aG = .inl (k 2, 3, .inr (.inr (.inr (.inr gG))))) (haR : aR ∈ L) (faR : f aR = .inl (k 3, 3, .inr (.inr (.inr (.inr gR))))) (hGa : ∀ j, j < 3 → ∃ (u ur ub : Nat) (gu : Nat → Int32), gG j = some u ∧ u ∈ L ∧ f u = .inr (0, [.ref ur, .int (nI (Sz j))]) ∧ ur ∈ L ∧ f ur = .inr (2, [.ref ub]) ∧ ub ∈ L ∧ f ub = .inl (k 0, 256, .inl gu) ∧ Sz j ≤ 256 ∧ (∀ i, i < Sz j → gu i = G j i)) (hz : cnS Sz 3 = 0) : vCtX l yX3_meanSize cX3_meanSize 4 (some .double) 8 110 1 6 D vCl (vTy k) sb [.ref (x)] (va_pl L f) "java/lang/ArithmeticException" := by
  have hc3 := cnS_le Sz 3
  have hs3 := smS_le (fun j hj => (by obtain ⟨_, _, _, _, _, _, _, _, _, _, _, h9, _⟩ := hGa j hj; exact h9) : ∀ j, j < 3 → Sz j ≤ 256) 3 (by omega)
  refine vOfX (by decide +kernel) (Nat.le_of_ble_eq_true rfl) (fun p9 e9 s9 m9 below9 meth9 c9 X hE hnt => ?_)
  refine vIconst X dX3_meanSize_0 (v := nI (0)) (by decide) ?_
  refine vIstoreN X [(1, .int (nI (0))), (0, .ref (x))] dX3_meanSize_1 (by decide) rfl ?_
  refine vIconst X dX3_meanSize_2 (v := nI (0)) (by decide) ?_
  refine vIstoreN X [(2, .int (nI (0))), (1, .int (nI (0))), (0, .ref (x))] dX3_meanSize_3 (by decide) rfl ?_
  refine vIconst X dX3_meanSize_4 (v := nI (0)) (by decide) ?_
  refine vIstoreN X [(3, .int (nI (0))), (2, .int (nI (0))), (1, .int (nI (0))), (0, .ref (x))] dX3_meanSize_5 (by decide) rfl ?_
  refine vSub [0, 1, 2, 3] [(3, .int (nI (0))), (2, .int (nI (0))), (1, .int (nI (0))), (0, .ref (x))] rfl ?_
  refine cLp_meanSizeT D k sb L f x aW aG aR tr tg gW gG gR Sz G hx fx haW faW haG faG haR faR hGa X ?_ (3) 0 _ _ (by omega) rfl rfl
  refine vIloadN X dX3_meanSize_48 0 rfl ?_
  refine vIfN_neF X 62 dX3_meanSize_49 (by decide) (by omega) (by omega) ?_
  exact vThrowS X hE hl hnt (by decide +kernel) q_725 q_41 t_735 xg1_179 xg2_179 xg3_179 dX3_meanSize_52 dX3_meanSize_55 dX3_meanSize_56 dX3_meanSize_58 dX3_meanSize_61 (Nat.le_of_ble_eq_true rfl) (Nat.le_of_ble_eq_true rfl) (Nat.le_of_ble_eq_true rfl) (Nat.le_of_ble_eq_true rfl) (Nat.le_of_ble_eq_true rfl) (Nat.le_of_ble_eq_true rfl)
set_option maxHeartbeats 4000000 in
set_option maxRecDepth 100000 in
theorem cb_meanSize (l : Launch) (D : va_G) (k : Nat → ClassId) (sb : Nat) (L : List Nat) (f : Nat → va_E) (x aW aG aR tr tg : Nat) (gW gG gR : Nat → Option Nat) (Sz : Nat → Nat) (G : Nat → Nat → Int32) (hx : x ∈ L) (fx : f x = .inr (3, [.ref aW, .ref aG, .ref aR, .ref tr, .ref tg])) (haW : aW ∈ L) (faW : f aW = .inl (k 4, 4, .inr (.inr (.inr (.inr gW))))) (haG : aG ∈ L) (faG : f aG = .inl (k 2, 3, .inr (.inr (.inr (.inr gG))))) (haR : aR ∈ L) (faR : f aR = .inl (k 3, 3, .inr (.inr (.inr (.inr gR))))) (hGa : ∀ j, j < 3 → ∃ (u ur ub : Nat) (gu : Nat → Int32), gG j = some u ∧ u ∈ L ∧ f u = .inr (0, [.ref ur, .int (nI (Sz j))]) ∧ ur ∈ L ∧ f ur = .inr (2, [.ref ub]) ∧ ub ∈ L ∧ f ub = .inl (k 0, 256, .inl gu) ∧ Sz j ≤ 256 ∧ (∀ i, i < Sz j → gu i = G j i)) (hz : 0 < cnS Sz 3) (hnn : vf_n64 (FP.ddiv (FP.i2d (nI (smS Sz 3))) (FP.i2d (nI (cnS Sz 3))))) : vCt l yX3_meanSize cX3_meanSize 4 (some .double) 8 110 0 0 D vCl (vTy k) sb [.ref (x)] (va_pl L f) (vDet (some (.double (FP.ddiv (FP.i2d (nI (smS Sz 3))) (FP.i2d (nI (cnS Sz 3)))))) (va_pl L f)) := by
  have hc3 := cnS_le Sz 3
  have hs3 := smS_le (fun j hj => (by obtain ⟨_, _, _, _, _, _, _, _, _, _, _, h9, _⟩ := hGa j hj; exact h9) : ∀ j, j < 3 → Sz j ≤ 256) 3 (by omega)
  refine vOf (by decide +kernel) (Nat.le_of_ble_eq_true rfl) (fun p9 e9 s9 m9 below9 meth9 c9 X hret hmn => ?_)
  refine vIconst X dX3_meanSize_0 (v := nI (0)) (by decide) ?_
  refine vIstoreN X [(1, .int (nI (0))), (0, .ref (x))] dX3_meanSize_1 (by decide) rfl ?_
  refine vIconst X dX3_meanSize_2 (v := nI (0)) (by decide) ?_
  refine vIstoreN X [(2, .int (nI (0))), (1, .int (nI (0))), (0, .ref (x))] dX3_meanSize_3 (by decide) rfl ?_
  refine vIconst X dX3_meanSize_4 (v := nI (0)) (by decide) ?_
  refine vIstoreN X [(3, .int (nI (0))), (2, .int (nI (0))), (1, .int (nI (0))), (0, .ref (x))] dX3_meanSize_5 (by decide) rfl ?_
  refine vSub [0, 1, 2, 3] [(3, .int (nI (0))), (2, .int (nI (0))), (1, .int (nI (0))), (0, .ref (x))] rfl ?_
  refine cLp_meanSize D k sb L f x aW aG aR tr tg gW gG gR Sz G hx fx haW faW haG faG haR faR hGa X ?_ (3) 0 _ _ (by omega) rfl rfl
  refine vIloadN X dX3_meanSize_48 0 rfl ?_
  refine vIfN_neT X 62 dX3_meanSize_49 (by decide) (by omega) (by omega) ?_
  refine vIloadN X dX3_meanSize_62 1 rfl ?_
  refine vI2d X dX3_meanSize_63 ?_
  refine vIloadN X dX3_meanSize_64 0 rfl ?_
  refine vI2d X dX3_meanSize_65 ?_
  refine vDdiv X dX3_meanSize_66 hnn ?_
  exact vRetD X hret dX3_meanSize_67 ⟨rfl, rfl⟩
theorem ckI_congr {g g' : Nat → Int32} {s : Int64} : ∀ {n : Nat}, (∀ j, j < n → g j = g' j) → ckI g s n = ckI g' s n
  | 0, _ => rfl
  | n + 1, h => by
    simp only [ckI]
    rw [ckI_congr (fun j hj => h j (by omega)), h n (by omega)]
set_option maxHeartbeats 4000000 in
set_option maxRecDepth 100000 in
theorem cLp_ck1 {p9 : Program} {l : Launch} {e9 : Env} {s9 : State} {m9 : MethodId} {args9 : Array Value} {below9 : List Frame} {meth9 : Method} {c9 : Code} {Q9 : State → Prop} (D : va_G) (k : Nat → ClassId) (sb : Nat) (L : List Nat) (f : Nat → va_E) (x aW aG aR tr tg : Nat) (gW gG gR : Nat → Option Nat) (B : Nat → Nat → Int32) (Ln Rm : Nat → Nat) (hx : x ∈ L) (fx : f x = .inr (3, [.ref aW, .ref aG, .ref aR, .ref tr, .ref tg])) (haW : aW ∈ L) (faW : f aW = .inl (k 4, 4, .inr (.inr (.inr (.inr gW))))) (haG : aG ∈ L) (faG : f aG = .inl (k 2, 3, .inr (.inr (.inr (.inr gG))))) (haR : aR ∈ L) (faR : f aR = .inl (k 3, 3, .inr (.inr (.inr (.inr gR))))) (hRo : ∀ j, j < 4 → ∃ (h b : Nat) (g : Nat → Int32), gW j = some h ∧ h ∈ L ∧ f h = .inr (2, [.ref b]) ∧ b ∈ L ∧ f b = .inl (k 0, Ln (Rm j), .inl g) ∧ Ln (Rm j) ≤ 256 ∧ (∀ i, i < Ln (Rm j) → g i = B (Rm j) i)) (X : vCX p9 s9 m9 args9 meth9 c9 cX3_checksum 4 yX3_checksum.cls (Cond.code yX3_checksum cX3_checksum 4 (some .long) :: vGW) D vCl (vTy k) sb) (hex : vV p9 l e9 ({ frames := 4, cells := 0, slots := 0, locals := 90 }) s9 m9 args9 below9 meth9 c9 4 D vCl sb Q9 (va_pl L f) 0 0 58 [(1, .long (ckR B Ln Rm 4)), (0, .ref (x))] []) : ∀ (z i : Nat) (t1 : Int64), i + z = 4 → t1 = ckR B Ln Rm i → vV p9 l e9 ({ frames := 4, cells := 0, slots := 0, locals := 90 }) s9 m9 args9 below9 meth9 c9 4 D vCl sb Q9 (va_pl L f) 0 0 6 [(3, .int (nI (i))), (1, .long (t1)), (0, .ref (x))] [] := by
  intro z
  induction z with
  | zero =>
    intro i t1 hi ht1
    have hin : 4 = i := by omega
    subst hin
    subst ht1
    refine vIloadN X dX3_checksum_6 0 rfl ?_
    refine vAloadN X dX3_checksum_7 2 rfl ?_
    refine vpGet X (C := RX3) (T := TX3) (N := 5) (ci := 3) (vcons inB) rfl hx fx 0 (by decide) (List.mem_cons_of_mem _ q_109) (fun _ h => h) rfl dX3_checksum_8 ?_
    refine vpAlen X (v := nI (4)) haW faW 4 rfl rfl dX3_checksum_11 ?_
    refine vIcmpN_geT X 58 dX3_checksum_12 (by decide) (by omega) (by omega) (by omega) ?_
    refine vSub [1, 2] [(1, .long (ckR B Ln Rm 4)), (0, .ref (x))] rfl ?_
    exact hex
  | succ z ih =>
    intro i t1 hi ht1
    obtain ⟨h, b, g, eh, hh, fh, hb, fb, hn, hgB⟩ := hRo i (by omega)
    refine vIloadN X dX3_checksum_6 0 rfl ?_
    refine vAloadN X dX3_checksum_7 2 rfl ?_
    refine vpGet X (C := RX3) (T := TX3) (N := 5) (ci := 3) (vcons inB) rfl hx fx 0 (by decide) (List.mem_cons_of_mem _ q_109) (fun _ h => h) rfl dX3_checksum_8 ?_
    refine vpAlen X (v := nI (4)) haW faW 4 rfl rfl dX3_checksum_11 ?_
    refine vIcmpN_geF X 58 dX3_checksum_12 (by decide) (by omega) (by omega) (by omega) ?_
    refine vLdc2 X (v := (31 : Int64)) (List.mem_cons_of_mem _ q_130) dX3_checksum_15 ?_
    refine vLloadN X dX3_checksum_18 1 rfl ?_
    refine vLmul X dX3_checksum_19 (v := ((31 : Int64)) * (t1)) rfl ?_
    refine vAloadN X dX3_checksum_20 2 rfl ?_
    refine vpGet X (C := RX3) (T := TX3) (N := 5) (ci := 3) (vcons inB) rfl hx fx 0 (by decide) (List.mem_cons_of_mem _ q_109) (fun _ h => h) rfl dX3_checksum_21 ?_
    refine vIloadN X dX3_checksum_24 0 rfl ?_
    refine vpAaload X (r := h) haW faW 4 rfl rfl (by omega) (by omega) eh dX3_checksum_25 ?_
    obtain ⟨ix26, hix26⟩ := vp_ix (f := f) hh
    refine vCallVd X [.long (((31 : Int64)) * (t1))] (cr_count l D k sb L f h b (Ln (Rm i)) (g)  hh fh hb fb (by omega) ) (vGV q_131 q_132 q_133 q_25 q_134) ⟨by decide, by decide, (show _ = some 0 from by decide +kernel)⟩ ⟨Nat.le_of_ble_eq_true rfl, Nat.le_of_ble_eq_true rfl⟩ ix26 2 rfl rfl (hix26.trans (by rw [fh])) rfl (Nat.le_of_ble_eq_true rfl) dX3_checksum_26 ⟨Nat.le_of_ble_eq_true rfl, Nat.le_of_ble_eq_true rfl⟩ ?_
    refine vI2l X dX3_checksum_29 (v := lN (Ln (Rm i))) (nI_l (by omega)) ?_
    refine vLadd X dX3_checksum_30 (v := (((31 : Int64)) * (t1)) + (lN (Ln (Rm i)))) rfl ?_
    refine vLstoreN X [(1, .long ((((31 : Int64)) * (t1)) + (lN (Ln (Rm i))))), (3, .int (nI (i))), (0, .ref (x))] dX3_checksum_31 (by decide) rfl ?_
    refine vAloadN X dX3_checksum_32 2 rfl ?_
    refine vpGet X (C := RX3) (T := TX3) (N := 5) (ci := 3) (vcons inB) rfl hx fx 0 (by decide) (List.mem_cons_of_mem _ q_109) (fun _ h => h) rfl dX3_checksum_33 ?_
    refine vIloadN X dX3_checksum_36 1 rfl ?_
    refine vpAaload X (r := h) haW faW 4 rfl rfl (by omega) (by omega) eh dX3_checksum_37 ?_
    refine vLloadN X dX3_checksum_38 0 rfl ?_
    refine vAloadN X dX3_checksum_39 2 rfl ?_
    refine vpGet X (C := RX3) (T := TX3) (N := 5) (ci := 3) (vcons inB) rfl hx fx 0 (by decide) (List.mem_cons_of_mem _ q_109) (fun _ h => h) rfl dX3_checksum_40 ?_
    refine vIloadN X dX3_checksum_43 1 rfl ?_
    refine vpAaload X (r := h) haW faW 4 rfl rfl (by omega) (by omega) eh dX3_checksum_44 ?_
    obtain ⟨ix45, hix45⟩ := vp_ix (f := f) hh
    refine vCallVd X [.long ((((31 : Int64)) * (t1)) + (lN (Ln (Rm i)))), .ref (h)] (cr_count l D k sb L f h b (Ln (Rm i)) (g)  hh fh hb fb (by omega) ) (vGV q_131 q_132 q_133 q_25 q_134) ⟨by decide, by decide, (show _ = some 0 from by decide +kernel)⟩ ⟨Nat.le_of_ble_eq_true rfl, Nat.le_of_ble_eq_true rfl⟩ ix45 2 rfl rfl (hix45.trans (by rw [fh])) rfl (Nat.le_of_ble_eq_true rfl) dX3_checksum_45 ⟨Nat.le_of_ble_eq_true rfl, Nat.le_of_ble_eq_true rfl⟩ ?_
    obtain ⟨ix48, hix48⟩ := vp_ix (f := f) hh
    refine vCallVd X [] (cr_addedTo l D k sb L f h b (Ln (Rm i)) (g) ((((31 : Int64)) * (t1)) + (lN (Ln (Rm i)))) (Ln (Rm i)) hh fh hb fb (by omega) (by omega)) (vGV q_135 q_136 q_137 q_25 q_138) ⟨by decide, by decide, (show _ = some 2 from by decide +kernel)⟩ ⟨Nat.le_of_ble_eq_true rfl, Nat.le_of_ble_eq_true rfl⟩ ix48 2 rfl rfl (hix48.trans (by rw [fh])) rfl (Nat.le_of_ble_eq_true rfl) dX3_checksum_48 ⟨Nat.le_of_ble_eq_true rfl, Nat.le_of_ble_eq_true rfl⟩ ?_
    refine vLstoreN X [(1, .long (ckI g ((((31 : Int64)) * (t1)) + (lN (Ln (Rm i)))) (Ln (Rm i)))), (3, .int (nI (i))), (0, .ref (x))] dX3_checksum_51 (by decide) rfl ?_
    refine vIinc X [(3, .int (nI (i + 1))), (1, .long (ckI g ((((31 : Int64)) * (t1)) + (lN (Ln (Rm i)))) (Ln (Rm i)))), (0, .ref (x))] dX3_checksum_52 1 rfl (nI_inc _) (by decide) rfl ?_
    refine vGoto X 6 dX3_checksum_55 (by decide) ?_
    refine vSub [0, 1, 2] [(3, .int (nI (i + 1))), (1, .long (ckI g ((((31 : Int64)) * (t1)) + (lN (Ln (Rm i)))) (Ln (Rm i)))), (0, .ref (x))] rfl ?_
    exact ih (i + 1) _ (by omega) (by rw [ht1, ckI_congr hgB]; rfl)
set_option maxHeartbeats 4000000 in
set_option maxRecDepth 100000 in
theorem cLp_ck2 {p9 : Program} {l : Launch} {e9 : Env} {s9 : State} {m9 : MethodId} {args9 : Array Value} {below9 : List Frame} {meth9 : Method} {c9 : Code} {Q9 : State → Prop} (D : va_G) (k : Nat → ClassId) (sb : Nat) (L : List Nat) (f : Nat → va_E) (x aW aG aR tr tg : Nat) (gW gG gR : Nat → Option Nat) (Sz : Nat → Nat) (G : Nat → Nat → Int32) (s0 : Int64) (hx : x ∈ L) (fx : f x = .inr (3, [.ref aW, .ref aG, .ref aR, .ref tr, .ref tg])) (haW : aW ∈ L) (faW : f aW = .inl (k 4, 4, .inr (.inr (.inr (.inr gW))))) (haG : aG ∈ L) (faG : f aG = .inl (k 2, 3, .inr (.inr (.inr (.inr gG))))) (haR : aR ∈ L) (faR : f aR = .inl (k 3, 3, .inr (.inr (.inr (.inr gR))))) (hGa : ∀ j, j < 3 → ∃ (u ur ub : Nat) (gu : Nat → Int32), gG j = some u ∧ u ∈ L ∧ f u = .inr (0, [.ref ur, .int (nI (Sz j))]) ∧ ur ∈ L ∧ f ur = .inr (2, [.ref ub]) ∧ ub ∈ L ∧ f ub = .inl (k 0, 256, .inl gu) ∧ Sz j ≤ 256 ∧ (∀ i, i < Sz j → gu i = G j i)) (X : vCX p9 s9 m9 args9 meth9 c9 cX3_checksum 4 yX3_checksum.cls (Cond.code yX3_checksum cX3_checksum 4 (some .long) :: vGW) D vCl (vTy k) sb) (hex : vV p9 l e9 ({ frames := 4, cells := 0, slots := 0, locals := 90 }) s9 m9 args9 below9 meth9 c9 4 D vCl sb Q9 (va_pl L f) 0 0 103 [(1, .long (ckG G Sz s0 3)), (0, .ref (x))] []) : ∀ (z i : Nat) (t1 : Int64), i + z = 3 → t1 = ckG G Sz s0 i → vV p9 l e9 ({ frames := 4, cells := 0, slots := 0, locals := 90 }) s9 m9 args9 below9 meth9 c9 4 D vCl sb Q9 (va_pl L f) 0 0 60 [(3, .int (nI (i))), (1, .long (t1)), (0, .ref (x))] [] := by
  intro z
  induction z with
  | zero =>
    intro i t1 hi ht1
    have hin : 3 = i := by omega
    subst hin
    subst ht1
    refine vIloadN X dX3_checksum_60 0 rfl ?_
    refine vAloadN X dX3_checksum_61 2 rfl ?_
    refine vpGet X (C := RX3) (T := TX3) (N := 5) (ci := 3) (vcons inB) rfl hx fx 1 (by decide) (List.mem_cons_of_mem _ q_110) (fun _ h => h) rfl dX3_checksum_62 ?_
    refine vpAlen X (v := nI (3)) haG faG 2 rfl rfl dX3_checksum_65 ?_
    refine vIcmpN_geT X 103 dX3_checksum_66 (by decide) (by omega) (by omega) (by omega) ?_
    refine vSub [1, 2] [(1, .long (ckG G Sz s0 3)), (0, .ref (x))] rfl ?_
    exact hex
  | succ z ih =>
    intro i t1 hi ht1
    obtain ⟨u, ur, ub, gu, eu, hu, fu, hur, fur, hub, fub, hc, hgG⟩ := hGa i (by omega)
    refine vIloadN X dX3_checksum_60 0 rfl ?_
    refine vAloadN X dX3_checksum_61 2 rfl ?_
    refine vpGet X (C := RX3) (T := TX3) (N := 5) (ci := 3) (vcons inB) rfl hx fx 1 (by decide) (List.mem_cons_of_mem _ q_110) (fun _ h => h) rfl dX3_checksum_62 ?_
    refine vpAlen X (v := nI (3)) haG faG 2 rfl rfl dX3_checksum_65 ?_
    refine vIcmpN_geF X 103 dX3_checksum_66 (by decide) (by omega) (by omega) (by omega) ?_
    refine vLdc2 X (v := (31 : Int64)) (List.mem_cons_of_mem _ q_130) dX3_checksum_69 ?_
    refine vLloadN X dX3_checksum_72 1 rfl ?_
    refine vLmul X dX3_checksum_73 (v := ((31 : Int64)) * (t1)) rfl ?_
    refine vAloadN X dX3_checksum_74 2 rfl ?_
    refine vpGet X (C := RX3) (T := TX3) (N := 5) (ci := 3) (vcons inB) rfl hx fx 1 (by decide) (List.mem_cons_of_mem _ q_110) (fun _ h => h) rfl dX3_checksum_75 ?_
    refine vIloadN X dX3_checksum_78 0 rfl ?_
    refine vpAaload X (r := u) haG faG 2 rfl rfl (by omega) (by omega) eu dX3_checksum_79 ?_
    obtain ⟨ix80, hix80⟩ := vp_ix (f := f) hu
    refine vCallVd X [.long (((31 : Int64)) * (t1))] (cg_count l D k sb L f u ur ub (Sz i) (gu)  hu fu hur fur hub fub (by omega) ) (vGV q_148 q_149 q_150 q_27 q_151) ⟨by decide, by decide, (show _ = some 0 from by decide +kernel)⟩ ⟨Nat.le_of_ble_eq_true rfl, Nat.le_of_ble_eq_true rfl⟩ ix80 0 rfl rfl (hix80.trans (by rw [fu])) rfl (Nat.le_of_ble_eq_true rfl) dX3_checksum_80 ⟨Nat.le_of_ble_eq_true rfl, Nat.le_of_ble_eq_true rfl⟩ ?_
    refine vI2l X dX3_checksum_83 (v := lN (Sz i)) (nI_l (by omega)) ?_
    refine vLadd X dX3_checksum_84 (v := (((31 : Int64)) * (t1)) + (lN (Sz i))) rfl ?_
    refine vLstoreN X [(1, .long ((((31 : Int64)) * (t1)) + (lN (Sz i)))), (3, .int (nI (i))), (0, .ref (x))] dX3_checksum_85 (by decide) rfl ?_
    refine vAloadN X dX3_checksum_86 2 rfl ?_
    refine vpGet X (C := RX3) (T := TX3) (N := 5) (ci := 3) (vcons inB) rfl hx fx 1 (by decide) (List.mem_cons_of_mem _ q_110) (fun _ h => h) rfl dX3_checksum_87 ?_
    refine vIloadN X dX3_checksum_90 1 rfl ?_
    refine vpAaload X (r := u) haG faG 2 rfl rfl (by omega) (by omega) eu dX3_checksum_91 ?_
    refine vLloadN X dX3_checksum_92 0 rfl ?_
    obtain ⟨ix93, hix93⟩ := vp_ix (f := f) hu
    refine vCallVd X [] (cg_addedTo l D k sb L f u ur ub (Sz i) (gu) ((((31 : Int64)) * (t1)) + (lN (Sz i))) hu fu hur fur hub fub (by omega) ) (vGV q_152 q_153 q_154 q_27 q_155) ⟨by decide, by decide, (show _ = some 1 from by decide +kernel)⟩ ⟨Nat.le_of_ble_eq_true rfl, Nat.le_of_ble_eq_true rfl⟩ ix93 0 rfl rfl (hix93.trans (by rw [fu])) rfl (Nat.le_of_ble_eq_true rfl) dX3_checksum_93 ⟨Nat.le_of_ble_eq_true rfl, Nat.le_of_ble_eq_true rfl⟩ ?_
    refine vLstoreN X [(1, .long (ckI gu ((((31 : Int64)) * (t1)) + (lN (Sz i))) (Sz i))), (3, .int (nI (i))), (0, .ref (x))] dX3_checksum_96 (by decide) rfl ?_
    refine vIinc X [(3, .int (nI (i + 1))), (1, .long (ckI gu ((((31 : Int64)) * (t1)) + (lN (Sz i))) (Sz i))), (0, .ref (x))] dX3_checksum_97 1 rfl (nI_inc _) (by decide) rfl ?_
    refine vGoto X 60 dX3_checksum_100 (by decide) ?_
    refine vSub [0, 1, 2] [(3, .int (nI (i + 1))), (1, .long (ckI gu ((((31 : Int64)) * (t1)) + (lN (Sz i))) (Sz i))), (0, .ref (x))] rfl ?_
    exact ih (i + 1) _ (by omega) (by rw [ht1, ckI_congr hgG]; rfl)
set_option maxHeartbeats 4000000 in
set_option maxRecDepth 100000 in
theorem cLp_ck3 {p9 : Program} {l : Launch} {e9 : Env} {s9 : State} {m9 : MethodId} {args9 : Array Value} {below9 : List Frame} {meth9 : Method} {c9 : Code} {Q9 : State → Prop} (D : va_G) (k : Nat → ClassId) (sb : Nat) (L : List Nat) (f : Nat → va_E) (x aW aG aR tr tg : Nat) (gW gG gR : Nat → Option Nat) (Ln : Nat → Nat) (Rd : Nat → Option Nat) (Pl : Nat → Nat) (s0 : Int64) (hx : x ∈ L) (fx : f x = .inr (3, [.ref aW, .ref aG, .ref aR, .ref tr, .ref tg])) (haW : aW ∈ L) (faW : f aW = .inl (k 4, 4, .inr (.inr (.inr (.inr gW))))) (haG : aG ∈ L) (faG : f aG = .inl (k 2, 3, .inr (.inr (.inr (.inr gG))))) (haR : aR ∈ L) (faR : f aR = .inl (k 3, 3, .inr (.inr (.inr (.inr gR))))) (hRe : ∀ q, q < 3 → ∃ (rd w b n s P M T Mt : Nat) (g : Nat → Int32), gR q = some rd ∧ rd ∈ L ∧ f rd = .inr (1, [.ref w, .int (nI s), .int (nI P), .int (nI M), .int (nI T), .int (nI Mt)]) ∧ w ∈ L ∧ f w = .inr (2, [.ref b]) ∧ b ∈ L ∧ f b = .inl (k 0, n, .inl g) ∧ n ≤ 256 ∧ P ≤ n ∧ ((Rd q = none ∧ s = 0) ∨ (∃ a, Rd q = some a ∧ s = 1 ∧ n = Ln a ∧ P = Pl q ∧ T = P))) (X : vCX p9 s9 m9 args9 meth9 c9 cX3_checksum 4 yX3_checksum.cls (Cond.code yX3_checksum cX3_checksum 4 (some .long) :: vGW) D vCl (vTy k) sb) (hex : vV p9 l e9 ({ frames := 4, cells := 0, slots := 0, locals := 90 }) s9 m9 args9 below9 meth9 c9 4 D vCl sb Q9 (va_pl L f) 0 0 153 [(1, .long (ckD Ln Rd Pl s0 3))] []) : ∀ (z i : Nat) (t1 : Int64), i + z = 3 → t1 = ckD Ln Rd Pl s0 i → vV p9 l e9 ({ frames := 4, cells := 0, slots := 0, locals := 90 }) s9 m9 args9 below9 meth9 c9 4 D vCl sb Q9 (va_pl L f) 0 0 105 [(3, .int (nI (i))), (1, .long (t1)), (0, .ref (x))] [] := by
  intro z
  induction z with
  | zero =>
    intro i t1 hi ht1
    have hin : 3 = i := by omega
    subst hin
    subst ht1
    refine vIloadN X dX3_checksum_105 0 rfl ?_
    refine vAloadN X dX3_checksum_106 2 rfl ?_
    refine vpGet X (C := RX3) (T := TX3) (N := 5) (ci := 3) (vcons inB) rfl hx fx 2 (by decide) (List.mem_cons_of_mem _ q_111) (fun _ h => h) rfl dX3_checksum_107 ?_
    refine vpAlen X (v := nI (3)) haR faR 3 rfl rfl dX3_checksum_110 ?_
    refine vIcmpN_geT X 153 dX3_checksum_111 (by decide) (by omega) (by omega) (by omega) ?_
    refine vSub [1] [(1, .long (ckD Ln Rd Pl s0 3))] rfl ?_
    exact hex
  | succ z ih =>
    intro i t1 hi ht1
    obtain ⟨rd, w, b, n, s, P, M, T, Mt, g, eq, hrd, frd, hw, fw, hb, fb, hn, hP, hcs⟩ := hRe i (by omega)
    refine vIloadN X dX3_checksum_105 0 rfl ?_
    refine vAloadN X dX3_checksum_106 2 rfl ?_
    refine vpGet X (C := RX3) (T := TX3) (N := 5) (ci := 3) (vcons inB) rfl hx fx 2 (by decide) (List.mem_cons_of_mem _ q_111) (fun _ h => h) rfl dX3_checksum_107 ?_
    refine vpAlen X (v := nI (3)) haR faR 3 rfl rfl dX3_checksum_110 ?_
    refine vIcmpN_geF X 153 dX3_checksum_111 (by decide) (by omega) (by omega) (by omega) ?_
    rcases hcs with ⟨hno, hs⟩ | ⟨a, hso, hs, hna, hPp, hTP⟩
    · have hcn : ckL Ln Rd Pl i = (-1 : Int32).toInt64 := by simp [ckL, hno]
      refine vLdc2 X (v := (31 : Int64)) (List.mem_cons_of_mem _ q_130) dX3_checksum_114 ?_
      refine vLloadN X dX3_checksum_117 1 rfl ?_
      refine vLmul X dX3_checksum_118 (v := ((31 : Int64)) * (t1)) rfl ?_
      refine vAloadN X dX3_checksum_119 2 rfl ?_
      refine vpGet X (C := RX3) (T := TX3) (N := 5) (ci := 3) (vcons inB) rfl hx fx 2 (by decide) (List.mem_cons_of_mem _ q_111) (fun _ h => h) rfl dX3_checksum_120 ?_
      refine vIloadN X dX3_checksum_123 0 rfl ?_
      refine vpAaload X (r := rd) haR faR 3 rfl rfl (by omega) (by omega) eq dX3_checksum_124 ?_
      obtain ⟨ix125, hix125⟩ := vp_ix (f := f) hrd
      refine vCallVd X [.long (((31 : Int64)) * (t1))] (cq_isStarted0 l D k sb L f rd w b (n) (s) (P) (M) (T) (Mt) (g)  hrd frd hw fw hb fb (by omega) (by omega) (by first | rfl | assumption)) (vGV q_157 q_158 q_159 q_28 q_160) ⟨by decide, by decide, (show _ = some 0 from by decide +kernel)⟩ ⟨Nat.le_of_ble_eq_true rfl, Nat.le_of_ble_eq_true rfl⟩ ix125 1 rfl rfl (hix125.trans (by rw [frd])) rfl (Nat.le_of_ble_eq_true rfl) dX3_checksum_125 ⟨Nat.le_of_ble_eq_true rfl, Nat.le_of_ble_eq_true rfl⟩ ?_
      refine vIfN_eqT X 143 dX3_checksum_128 (by decide) (by omega) (by omega) ?_
      refine vIconst X dX3_checksum_143 (v := (-1 : Int32)) (by decide) ?_
      refine vI2l X dX3_checksum_144 (v := ((-1 : Int32)).toInt64) rfl ?_
      refine vLadd X dX3_checksum_145 (v := (((31 : Int64)) * (t1)) + (((-1 : Int32)).toInt64)) rfl ?_
      refine vLstoreN X [(1, .long ((((31 : Int64)) * (t1)) + (((-1 : Int32)).toInt64))), (3, .int (nI (i))), (0, .ref (x))] dX3_checksum_146 (by decide) rfl ?_
      refine vIinc X [(3, .int (nI (i + 1))), (1, .long ((((31 : Int64)) * (t1)) + (((-1 : Int32)).toInt64))), (0, .ref (x))] dX3_checksum_147 1 rfl (nI_inc _) (by decide) rfl ?_
      refine vGoto X 105 dX3_checksum_150 (by decide) ?_
      refine vSub [0, 1, 2] [(3, .int (nI (i + 1))), (1, .long ((((31 : Int64)) * (t1)) + (((-1 : Int32)).toInt64))), (0, .ref (x))] rfl ?_
      exact ih (i + 1) _ (by omega) (by rw [ht1]; simp only [ckD, hcn])
    · have hcn : ckL Ln Rd Pl i = lN (n - P) := by simp [ckL, hso, hna, hPp]
      refine vLdc2 X (v := (31 : Int64)) (List.mem_cons_of_mem _ q_130) dX3_checksum_114 ?_
      refine vLloadN X dX3_checksum_117 1 rfl ?_
      refine vLmul X dX3_checksum_118 (v := ((31 : Int64)) * (t1)) rfl ?_
      refine vAloadN X dX3_checksum_119 2 rfl ?_
      refine vpGet X (C := RX3) (T := TX3) (N := 5) (ci := 3) (vcons inB) rfl hx fx 2 (by decide) (List.mem_cons_of_mem _ q_111) (fun _ h => h) rfl dX3_checksum_120 ?_
      refine vIloadN X dX3_checksum_123 0 rfl ?_
      refine vpAaload X (r := rd) haR faR 3 rfl rfl (by omega) (by omega) eq dX3_checksum_124 ?_
      obtain ⟨ix125, hix125⟩ := vp_ix (f := f) hrd
      refine vCallVd X [.long (((31 : Int64)) * (t1))] (cq_isStarted1 l D k sb L f rd w b (n) (s) (P) (M) (T) (Mt) (g)  hrd frd hw fw hb fb (by omega) (by omega) (by first | rfl | assumption)) (vGV q_157 q_158 q_159 q_28 q_160) ⟨by decide, by decide, (show _ = some 0 from by decide +kernel)⟩ ⟨Nat.le_of_ble_eq_true rfl, Nat.le_of_ble_eq_true rfl⟩ ix125 1 rfl rfl (hix125.trans (by rw [frd])) rfl (Nat.le_of_ble_eq_true rfl) dX3_checksum_125 ⟨Nat.le_of_ble_eq_true rfl, Nat.le_of_ble_eq_true rfl⟩ ?_
      refine vIfN_eqF X 143 dX3_checksum_128 (by decide) (by omega) (by omega) ?_
      refine vAloadN X dX3_checksum_131 2 rfl ?_
      refine vpGet X (C := RX3) (T := TX3) (N := 5) (ci := 3) (vcons inB) rfl hx fx 2 (by decide) (List.mem_cons_of_mem _ q_111) (fun _ h => h) rfl dX3_checksum_132 ?_
      refine vIloadN X dX3_checksum_135 0 rfl ?_
      refine vpAaload X (r := rd) haR faR 3 rfl rfl (by omega) (by omega) eq dX3_checksum_136 ?_
      obtain ⟨ix137, hix137⟩ := vp_ix (f := f) hrd
      refine vCallVd X [.long (((31 : Int64)) * (t1))] (cq_remaining l D k sb L f rd w b (n) (s) (P) (M) (T) (Mt) (g)  hrd frd hw fw hb fb (by omega) (by omega) ) (vGV q_161 q_162 q_163 q_28 q_164) ⟨by decide, by decide, (show _ = some 0 from by decide +kernel)⟩ ⟨Nat.le_of_ble_eq_true rfl, Nat.le_of_ble_eq_true rfl⟩ ix137 1 rfl rfl (hix137.trans (by rw [frd])) rfl (Nat.le_of_ble_eq_true rfl) dX3_checksum_137 ⟨Nat.le_of_ble_eq_true rfl, Nat.le_of_ble_eq_true rfl⟩ ?_
      refine vGoto X 144 dX3_checksum_140 (by decide) ?_
      refine vI2l X dX3_checksum_144 (v := lN ((n) - (P))) (nI_l (by omega)) ?_
      refine vLadd X dX3_checksum_145 (v := (((31 : Int64)) * (t1)) + (lN ((n) - (P)))) rfl ?_
      refine vLstoreN X [(1, .long ((((31 : Int64)) * (t1)) + (lN ((n) - (P))))), (3, .int (nI (i))), (0, .ref (x))] dX3_checksum_146 (by decide) rfl ?_
      refine vIinc X [(3, .int (nI (i + 1))), (1, .long ((((31 : Int64)) * (t1)) + (lN ((n) - (P))))), (0, .ref (x))] dX3_checksum_147 1 rfl (nI_inc _) (by decide) rfl ?_
      refine vGoto X 105 dX3_checksum_150 (by decide) ?_
      refine vSub [0, 1, 2] [(3, .int (nI (i + 1))), (1, .long ((((31 : Int64)) * (t1)) + (lN ((n) - (P))))), (0, .ref (x))] rfl ?_
      exact ih (i + 1) _ (by omega) (by rw [ht1]; simp only [ckD, hcn])
set_option maxHeartbeats 4000000 in
set_option maxRecDepth 100000 in
theorem cb_checksum (l : Launch) (D : va_G) (k : Nat → ClassId) (sb : Nat) (L : List Nat) (f : Nat → va_E) (x aW aG aR tr tg : Nat) (gW gG gR : Nat → Option Nat) (B : Nat → Nat → Int32) (Ln Rm : Nat → Nat) (Rd : Nat → Option Nat) (Pl : Nat → Nat) (G : Nat → Nat → Int32) (Sz : Nat → Nat) (hx : x ∈ L) (fx : f x = .inr (3, [.ref aW, .ref aG, .ref aR, .ref tr, .ref tg])) (haW : aW ∈ L) (faW : f aW = .inl (k 4, 4, .inr (.inr (.inr (.inr gW))))) (haG : aG ∈ L) (faG : f aG = .inl (k 2, 3, .inr (.inr (.inr (.inr gG))))) (haR : aR ∈ L) (faR : f aR = .inl (k 3, 3, .inr (.inr (.inr (.inr gR))))) (hRo : ∀ j, j < 4 → ∃ (h b : Nat) (g : Nat → Int32), gW j = some h ∧ h ∈ L ∧ f h = .inr (2, [.ref b]) ∧ b ∈ L ∧ f b = .inl (k 0, Ln (Rm j), .inl g) ∧ Ln (Rm j) ≤ 256 ∧ (∀ i, i < Ln (Rm j) → g i = B (Rm j) i)) (hGa : ∀ j, j < 3 → ∃ (u ur ub : Nat) (gu : Nat → Int32), gG j = some u ∧ u ∈ L ∧ f u = .inr (0, [.ref ur, .int (nI (Sz j))]) ∧ ur ∈ L ∧ f ur = .inr (2, [.ref ub]) ∧ ub ∈ L ∧ f ub = .inl (k 0, 256, .inl gu) ∧ Sz j ≤ 256 ∧ (∀ i, i < Sz j → gu i = G j i)) (hRe : ∀ q, q < 3 → ∃ (rd w b n s P M T Mt : Nat) (g : Nat → Int32), gR q = some rd ∧ rd ∈ L ∧ f rd = .inr (1, [.ref w, .int (nI s), .int (nI P), .int (nI M), .int (nI T), .int (nI Mt)]) ∧ w ∈ L ∧ f w = .inr (2, [.ref b]) ∧ b ∈ L ∧ f b = .inl (k 0, n, .inl g) ∧ n ≤ 256 ∧ P ≤ n ∧ ((Rd q = none ∧ s = 0) ∨ (∃ a, Rd q = some a ∧ s = 1 ∧ n = Ln a ∧ P = Pl q ∧ T = P))) : vCt l yX3_checksum cX3_checksum 4 (some .long) 4 90 0 0 D vCl (vTy k) sb [.ref (x)] (va_pl L f) (vDet (some (.long (ckD Ln Rd Pl (ckG G Sz (ckR B Ln Rm 4) 3) 3))) (va_pl L f)) := by
  refine vOf (by decide +kernel) (Nat.le_of_ble_eq_true rfl) (fun p9 e9 s9 m9 below9 meth9 c9 X hret hmn => ?_)
  refine vLdc2 X (v := (7 : Int64)) (List.mem_cons_of_mem _ q_129) dX3_checksum_0 ?_
  refine vLstoreN X [(1, .long ((7 : Int64))), (0, .ref (x))] dX3_checksum_3 (by decide) rfl ?_
  refine vIconst X dX3_checksum_4 (v := nI (0)) (by decide) ?_
  refine vIstoreN X [(3, .int (nI (0))), (1, .long ((7 : Int64))), (0, .ref (x))] dX3_checksum_5 (by decide) rfl ?_
  refine vSub [0, 1, 2] [(3, .int (nI (0))), (1, .long ((7 : Int64))), (0, .ref (x))] rfl ?_
  refine cLp_ck1 D k sb L f x aW aG aR tr tg gW gG gR B Ln Rm hx fx haW faW haG faG haR faR hRo X ?_ (4) 0 _ (by omega) rfl
  refine vIconst X dX3_checksum_58 (v := nI (0)) (by decide) ?_
  refine vIstoreN X [(3, .int (nI (0))), (1, .long (ckR B Ln Rm 4)), (0, .ref (x))] dX3_checksum_59 (by decide) rfl ?_
  refine vSub [0, 1, 2] [(3, .int (nI (0))), (1, .long (ckR B Ln Rm 4)), (0, .ref (x))] rfl ?_
  refine cLp_ck2 D k sb L f x aW aG aR tr tg gW gG gR Sz G _ hx fx haW faW haG faG haR faR hGa X ?_ (3) 0 _ (by omega) rfl
  refine vIconst X dX3_checksum_103 (v := nI (0)) (by decide) ?_
  refine vIstoreN X [(3, .int (nI (0))), (1, .long (ckG G Sz (ckR B Ln Rm 4) 3)), (0, .ref (x))] dX3_checksum_104 (by decide) rfl ?_
  refine vSub [0, 1, 2] [(3, .int (nI (0))), (1, .long (ckG G Sz (ckR B Ln Rm 4) 3)), (0, .ref (x))] rfl ?_
  refine cLp_ck3 D k sb L f x aW aG aR tr tg gW gG gR Ln Rd Pl _ hx fx haW faW haG faG haR faR hRe X ?_ (3) 0 _ (by omega) rfl
  refine vLloadN X dX3_checksum_153 0 rfl ?_
  exact vRetL X hret dX3_checksum_154 ⟨rfl, rfl⟩
