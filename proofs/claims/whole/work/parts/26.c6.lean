set_option maxHeartbeats 4000000 in
set_option maxRecDepth 100000 in
theorem cLp_fill {p9 : Program} {l : Launch} {e9 : Env} {s9 : State} {m9 : MethodId} {args9 : Array Value} {below9 : List Frame} {meth9 : Method} {c9 : Code} {Q9 : State → Prop} (D : va_G) (k : Nat → ClassId) (sb : Nat) (L : List Nat) (f : Nat → va_E) (x aW aG aR tr tg : Nat) (gW gG gR : Nat → Option Nat) (r : Nat) (h b n : Nat) (g : Nat → Int32) (a m : Nat) (v st : Int32) (hx : x ∈ L) (fx : f x = .inr (3, [.ref aW, .ref aG, .ref aR, .ref tr, .ref tg])) (haW : aW ∈ L) (faW : f aW = .inl (k 4, 4, .inr (.inr (.inr (.inr gW))))) (haG : aG ∈ L) (faG : f aG = .inl (k 2, 3, .inr (.inr (.inr (.inr gG))))) (haR : aR ∈ L) (faR : f aR = .inl (k 3, 3, .inr (.inr (.inr (.inr gR))))) (hr9 : r < 4) (eh : gW r = some h) (hh : h ∈ L) (fh : f h = .inr (2, [.ref b])) (hb : b ∈ L) (fb : f b = .inl (k 0, n, .inl g)) (hn : n ≤ 256) (hp : a + m ≤ n) (X : vCX p9 s9 m9 args9 meth9 c9 cX3_fill 10 yX3_fill.cls (Cond.code yX3_fill cX3_fill 10 (some .int) :: vGW) D vCl (vTy k) sb) (hex : vV p9 l e9 ({ frames := 10, cells := 0, slots := 0, locals := 152 }) s9 m9 args9 below9 meth9 c9 10 D vCl sb Q9 (va_pl L (va_up f b (.inl (k 0, n, .inl (fillC g a m v st))))) 0 0 59 [(7, .int (smB g a m))] []) : ∀ (z i : Nat) (g1 : Nat → Int32) (v1 : Int32) (s1 : Int32), i + z = m → g1 = fillC g a i v st → v1 = v + nI i * st → s1 = smB g a i → vV p9 l e9 ({ frames := 10, cells := 0, slots := 0, locals := 152 }) s9 m9 args9 below9 meth9 c9 10 D vCl sb Q9 (va_pl L (va_up f b (.inl (k 0, n, .inl (g1))))) 0 0 24 [(9, .int (nI (i))), (8, .int (v1)), (7, .int (s1)), (6, .ref (h)), (2, .int (nI (a))), (3, .int (nI (m))), (5, .int (st))] [] := by
  intro z
  induction z with
  | zero =>
    intro i g1 v1 s1 hi hg1 hv1 hs1
    have hin : m = i := by omega
    subst hin
    subst hg1
    subst hv1
    subst hs1
    refine vIload X dX3_fill_24 0 rfl ?_
    refine vIloadN X dX3_fill_26 5 rfl ?_
    refine vIcmpN_geT X 59 dX3_fill_27 (by decide) (by omega) (by omega) (by omega) ?_
    refine vSub [2] [(7, .int (smB g a m))] rfl ?_
    exact hex
  | succ z ih =>
    intro i g1 v1 s1 hi hg1 hv1 hs1
    refine vIload X dX3_fill_24 0 rfl ?_
    refine vIloadN X dX3_fill_26 5 rfl ?_
    refine vIcmpN_geF X 59 dX3_fill_27 (by decide) (by omega) (by omega) (by omega) ?_
    refine vIload X dX3_fill_30 2 rfl ?_
    refine vAload X dX3_fill_32 3 rfl ?_
    refine vIloadN X dX3_fill_34 4 rfl ?_
    refine vIload X dX3_fill_35 0 rfl ?_
    refine vIadd X dX3_fill_37 (v := nI ((a) + (i))) (nI_add _ _) ?_
    refine vIload X dX3_fill_38 1 rfl ?_
    obtain ⟨ix40, hix40⟩ := vp_ix (f := va_up f b (.inl (k 0, n, .inl (g1)))) hh
    refine vCallVd X [.int (s1)] (cr_exchange l D k sb L (va_up f b (.inl (k 0, n, .inl (g1)))) h b (n) (g1) ((a) + (i)) (v1) hh ((va_up_nq _ (ne_of fh fb (by simp))).trans fh) hb (va_up_eq _ _ _) (by omega) (by omega)) (vGV q_412 q_413 q_414 q_25 q_415) ⟨by decide, by decide, (show _ = some 2 from by decide +kernel)⟩ ⟨Nat.le_of_ble_eq_true rfl, Nat.le_of_ble_eq_true rfl⟩ ix40 2 rfl rfl (hix40.trans (by rw [((va_up_nq _ (ne_of fh fb (by simp))).trans fh)])) rfl (Nat.le_of_ble_eq_true rfl) dX3_fill_40 ⟨Nat.le_of_ble_eq_true rfl, Nat.le_of_ble_eq_true rfl⟩ ?_
    refine vWs (ws' := va_pl L (va_up f b (.inl (k 0, n, .inl (upd g1 ((a) + (i)) (lb (v1))))))) (congrArg (fun φ9 => va_pl L (φ9)) (va_up_up _ _ _ _)) ?_
    refine vIadd X dX3_fill_43 (v := (s1) + (g1 ((a) + (i)))) rfl ?_
    refine vIstore X [(7, .int ((s1) + (g1 ((a) + (i))))), (9, .int (nI (i))), (8, .int (v1)), (6, .ref (h)), (2, .int (nI (a))), (3, .int (nI (m))), (5, .int (st))] dX3_fill_44 (by decide) rfl ?_
    refine vIload X dX3_fill_46 2 rfl ?_
    refine vIload X dX3_fill_48 6 rfl ?_
    refine vIadd X dX3_fill_50 (v := (v1) + (st)) rfl ?_
    refine vIstore X [(8, .int ((v1) + (st))), (7, .int ((s1) + (g1 ((a) + (i))))), (9, .int (nI (i))), (6, .ref (h)), (2, .int (nI (a))), (3, .int (nI (m))), (5, .int (st))] dX3_fill_51 (by decide) rfl ?_
    refine vIinc X [(9, .int (nI (i + 1))), (8, .int ((v1) + (st))), (7, .int ((s1) + (g1 ((a) + (i))))), (6, .ref (h)), (2, .int (nI (a))), (3, .int (nI (m))), (5, .int (st))] dX3_fill_53 2 rfl (nI_inc _) (by decide) rfl ?_
    refine vGoto X 24 dX3_fill_56 (by decide) ?_
    refine vSub [0, 1, 2, 3, 4, 5, 6] [(9, .int (nI (i + 1))), (8, .int ((v1) + (st))), (7, .int ((s1) + (g1 ((a) + (i))))), (6, .ref (h)), (2, .int (nI (a))), (3, .int (nI (m))), (5, .int (st))] rfl ?_
    exact ih (i + 1) _ _ _ (by omega) (by rw [hg1, hv1]; exact fillC_1 _ _ _ _ _) (by rw [hv1, nI_mul1, Int32.add_assoc]) (by rw [hs1, hg1, fillC_at]; rfl)
set_option maxHeartbeats 4000000 in
set_option maxRecDepth 100000 in
theorem cb_fill (l : Launch) (D : va_G) (k : Nat → ClassId) (sb : Nat) (L : List Nat) (f : Nat → va_E) (x aW aG aR tr tg : Nat) (gW gG gR : Nat → Option Nat) (r : Nat) (h b n : Nat) (g : Nat → Int32) (a m : Nat) (v st : Int32) (hx : x ∈ L) (fx : f x = .inr (3, [.ref aW, .ref aG, .ref aR, .ref tr, .ref tg])) (haW : aW ∈ L) (faW : f aW = .inl (k 4, 4, .inr (.inr (.inr (.inr gW))))) (haG : aG ∈ L) (faG : f aG = .inl (k 2, 3, .inr (.inr (.inr (.inr gG))))) (haR : aR ∈ L) (faR : f aR = .inl (k 3, 3, .inr (.inr (.inr (.inr gR))))) (hr9 : r < 4) (eh : gW r = some h) (hh : h ∈ L) (fh : f h = .inr (2, [.ref b])) (hb : b ∈ L) (fb : f b = .inl (k 0, n, .inl g)) (hn : n ≤ 256) (hp : a + m ≤ n) : vCt l yX3_fill cX3_fill 10 (some .int) 10 152 0 0 D vCl (vTy k) sb [.ref (x), .int (nI (r)), .int (nI (a)), .int (nI (m)), .int (v), .int (st)] (va_pl L f) (vDet (some (.int (smB g a m))) (va_pl L (va_up f b (.inl (k 0, n, .inl (fillC g a m v st)))))) := by
  refine vOf (by decide +kernel) (Nat.le_of_ble_eq_true rfl) (fun p9 e9 s9 m9 below9 meth9 c9 X hret hmn => ?_)
  refine vAloadN X dX3_fill_0 0 rfl ?_
  refine vIloadN X dX3_fill_1 1 rfl ?_
  obtain ⟨ix2, hix2⟩ := vp_ix (f := f) hx
  refine vCallVd X [] (cb_rowAt l D k sb L f x aW aG aR tr tg (gW) (gG) (gR) r h hx fx haW faW haG faG haR faR (by omega) eh) (vGV q_341 q_343 q_3 q_24 q_344) ⟨by decide, by decide, (show _ = some 1 from by decide +kernel)⟩ ⟨Nat.le_of_ble_eq_true rfl, Nat.le_of_ble_eq_true rfl⟩ ix2 3 rfl rfl (hix2.trans (by rw [fx])) rfl (Nat.le_of_ble_eq_true rfl) dX3_fill_2 ⟨Nat.le_of_ble_eq_true rfl, Nat.le_of_ble_eq_true rfl⟩ ?_
  refine vAstore X [(6, .ref (h)), (0, .ref (x)), (1, .int (nI (r))), (2, .int (nI (a))), (3, .int (nI (m))), (4, .int (v)), (5, .int (st))] dX3_fill_5 (by decide) rfl ?_
  refine vAload X dX3_fill_7 0 rfl ?_
  refine vIloadN X dX3_fill_9 3 rfl ?_
  refine vIloadN X dX3_fill_10 4 rfl ?_
  refine vCallSd X [] (cb_needPlaces l D k sb L f h b (n) (g) (a) (m) hh fh hb fb (by omega) (by omega)) (vGS q_399 q_400 q_24 q_401) rfl ⟨by decide, by decide, (show _ = some 3 from by decide +kernel)⟩ ⟨Nat.le_of_ble_eq_true rfl, Nat.le_of_ble_eq_true rfl⟩ rfl (Nat.le_of_ble_eq_true rfl) dX3_fill_11 ⟨Nat.le_of_ble_eq_true rfl, Nat.le_of_ble_eq_true rfl⟩ ?_
  refine vIconst X dX3_fill_14 (v := nI (0)) (by decide) ?_
  refine vIstore X [(7, .int (nI (0))), (6, .ref (h)), (0, .ref (x)), (1, .int (nI (r))), (2, .int (nI (a))), (3, .int (nI (m))), (4, .int (v)), (5, .int (st))] dX3_fill_15 (by decide) rfl ?_
  refine vIload X dX3_fill_17 6 rfl ?_
  refine vIstore X [(8, .int (v)), (7, .int (nI (0))), (6, .ref (h)), (0, .ref (x)), (1, .int (nI (r))), (2, .int (nI (a))), (3, .int (nI (m))), (4, .int (v)), (5, .int (st))] dX3_fill_19 (by decide) rfl ?_
  refine vIconst X dX3_fill_21 (v := nI (0)) (by decide) ?_
  refine vIstore X [(9, .int (nI (0))), (8, .int (v)), (7, .int (nI (0))), (6, .ref (h)), (0, .ref (x)), (1, .int (nI (r))), (2, .int (nI (a))), (3, .int (nI (m))), (4, .int (v)), (5, .int (st))] dX3_fill_22 (by decide) rfl ?_
  refine vWs (ws' := va_pl L (va_up f b (.inl (k 0, n, .inl g)))) (congrArg (va_pl L) (va_up_id _ _ _ fb)) ?_
  refine vSub [0, 1, 2, 3, 6, 7, 9] [(9, .int (nI (0))), (8, .int (v)), (7, .int (nI (0))), (6, .ref (h)), (2, .int (nI (a))), (3, .int (nI (m))), (5, .int (st))] rfl ?_
  refine cLp_fill D k sb L f x aW aG aR tr tg gW gG gR r h b n g a m v st hx fx haW faW haG faG haR faR hr9 eh hh fh hb fb hn hp X ?_ (m) 0 _ _ _ (by omega) (fillC_0 _ _ _ _) (by rw [show nI 0 * st = 0 from Int32.zero_mul]; exact (Int32.add_zero v).symm) rfl
  refine vIload X dX3_fill_59 0 rfl ?_
  exact vRetI X hret dX3_fill_61 ⟨rfl, rfl⟩
set_option maxHeartbeats 4000000 in
set_option maxRecDepth 100000 in
theorem ct_fill1 (l : Launch) (D : va_G) (k : Nat → ClassId) (sb : Nat) (L : List Nat) (f : Nat → va_E) (x aW aG aR tr tg : Nat) (gW gG gR : Nat → Option Nat) (v z y c d : Int32) (hl : l.stackTraces = false) (hx : x ∈ L) (fx : f x = .inr (3, [.ref aW, .ref aG, .ref aR, .ref tr, .ref tg])) (haW : aW ∈ L) (faW : f aW = .inl (k 4, 4, .inr (.inr (.inr (.inr gW))))) (haG : aG ∈ L) (faG : f aG = .inl (k 2, 3, .inr (.inr (.inr (.inr gG))))) (haR : aR ∈ L) (faR : f aR = .inl (k 3, 3, .inr (.inr (.inr (.inr gR))))) (hv : ¬ vRow v) : vCtX l yX3_fill cX3_fill 10 (some .int) 10 152 1 6 D vCl (vTy k) sb [.ref (x), .int (v), .int (z), .int (y), .int (c), .int (d)] (va_pl L f) "java/lang/IndexOutOfBoundsException" := by
  refine vOfX (by decide +kernel) (Nat.le_of_ble_eq_true rfl) (fun p9 e9 s9 m9 below9 meth9 c9 X hE hnt => ?_)
  refine vAloadN X dX3_fill_0 0 rfl ?_
  refine vIloadN X dX3_fill_1 1 rfl ?_
  obtain ⟨ix2, hix2⟩ := vp_ix (f := f) hx
  exact vCallVT X hE hnt [] (ct_rowAt l D k sb L f x aW aG aR tr tg (gW) (gG) (gR) v hl hx fx haW faW haG faG haR faR hv) (vGV q_341 q_343 q_3 q_24 q_344) ⟨by decide, by decide, (show _ = some 1 from by decide +kernel)⟩ ⟨Nat.le_of_ble_eq_true rfl, Nat.le_of_ble_eq_true rfl⟩ ix2 3 rfl rfl (hix2.trans (by rw [fx])) rfl (Nat.le_of_ble_eq_true rfl) dX3_fill_2 ⟨(Nat.le_of_ble_eq_true rfl), (Nat.le_of_ble_eq_true rfl)⟩ (Nat.le_of_ble_eq_true rfl) (Nat.le_of_ble_eq_true rfl)
set_option maxHeartbeats 4000000 in
set_option maxRecDepth 100000 in
theorem ct_fill2 (l : Launch) (D : va_G) (k : Nat → ClassId) (sb : Nat) (L : List Nat) (f : Nat → va_E) (x aW aG aR tr tg : Nat) (gW gG gR : Nat → Option Nat) (r : Nat) (h b n : Nat) (g : Nat → Int32) (z y c d : Int32) (hl : l.stackTraces = false) (hx : x ∈ L) (fx : f x = .inr (3, [.ref aW, .ref aG, .ref aR, .ref tr, .ref tg])) (haW : aW ∈ L) (faW : f aW = .inl (k 4, 4, .inr (.inr (.inr (.inr gW))))) (haG : aG ∈ L) (faG : f aG = .inl (k 2, 3, .inr (.inr (.inr (.inr gG))))) (haR : aR ∈ L) (faR : f aR = .inl (k 3, 3, .inr (.inr (.inr (.inr gR))))) (hr9 : r < 4) (eh : gW r = some h) (hh : h ∈ L) (fh : f h = .inr (2, [.ref b])) (hb : b ∈ L) (fb : f b = .inl (k 0, n, .inl g)) (hn : n ≤ 256) (hpart : ¬ vPt n z y) : vCtX l yX3_fill cX3_fill 10 (some .int) 10 152 1 6 D vCl (vTy k) sb [.ref (x), .int (nI (r)), .int (z), .int (y), .int (c), .int (d)] (va_pl L f) "java/lang/IndexOutOfBoundsException" := by
  refine vOfX (by decide +kernel) (Nat.le_of_ble_eq_true rfl) (fun p9 e9 s9 m9 below9 meth9 c9 X hE hnt => ?_)
  refine vAloadN X dX3_fill_0 0 rfl ?_
  refine vIloadN X dX3_fill_1 1 rfl ?_
  obtain ⟨ix2, hix2⟩ := vp_ix (f := f) hx
  refine vCallVd X [] (cb_rowAt l D k sb L f x aW aG aR tr tg (gW) (gG) (gR) r h hx fx haW faW haG faG haR faR (by omega) eh) (vGV q_341 q_343 q_3 q_24 q_344) ⟨by decide, by decide, (show _ = some 1 from by decide +kernel)⟩ ⟨Nat.le_of_ble_eq_true rfl, Nat.le_of_ble_eq_true rfl⟩ ix2 3 rfl rfl (hix2.trans (by rw [fx])) rfl (Nat.le_of_ble_eq_true rfl) dX3_fill_2 ⟨Nat.le_of_ble_eq_true rfl, Nat.le_of_ble_eq_true rfl⟩ ?_
  refine vAstore X [(6, .ref (h)), (0, .ref (x)), (1, .int (nI (r))), (2, .int (z)), (3, .int (y)), (4, .int (c)), (5, .int (d))] dX3_fill_5 (by decide) rfl ?_
  refine vAload X dX3_fill_7 0 rfl ?_
  refine vIloadN X dX3_fill_9 3 rfl ?_
  refine vIloadN X dX3_fill_10 4 rfl ?_
  exact vCallST X hE hnt [] (ct_needPlaces l D k sb L f h b (n) (g) (z) (y) hl hh fh hb fb (by omega) hpart) (vGS q_399 q_400 q_24 q_401) rfl ⟨by decide, by decide, (show _ = some 3 from by decide +kernel)⟩ ⟨Nat.le_of_ble_eq_true rfl, Nat.le_of_ble_eq_true rfl⟩ rfl (Nat.le_of_ble_eq_true rfl) dX3_fill_11 ⟨(Nat.le_of_ble_eq_true rfl), (Nat.le_of_ble_eq_true rfl)⟩ (Nat.le_of_ble_eq_true rfl) (Nat.le_of_ble_eq_true rfl)
set_option maxHeartbeats 4000000 in
set_option maxRecDepth 100000 in
theorem ct_isLike1 (l : Launch) (D : va_G) (k : Nat → ClassId) (sb : Nat) (L : List Nat) (f : Nat → va_E) (x aW aG aR tr tg : Nat) (gW gG gR : Nat → Option Nat) (v z : Int32) (hl : l.stackTraces = false) (hx : x ∈ L) (fx : f x = .inr (3, [.ref aW, .ref aG, .ref aR, .ref tr, .ref tg])) (haW : aW ∈ L) (faW : f aW = .inl (k 4, 4, .inr (.inr (.inr (.inr gW))))) (haG : aG ∈ L) (faG : f aG = .inl (k 2, 3, .inr (.inr (.inr (.inr gG))))) (haR : aR ∈ L) (faR : f aR = .inl (k 3, 3, .inr (.inr (.inr (.inr gR))))) (hv : ¬ vRow v) : vCtX l yX3_isLike cX3_isLike 6 (some .boolean) 10 152 1 6 D vCl (vTy k) sb [.ref (x), .int (v), .int (z)] (va_pl L f) "java/lang/IndexOutOfBoundsException" := by
  refine vOfX (by decide +kernel) (Nat.le_of_ble_eq_true rfl) (fun p9 e9 s9 m9 below9 meth9 c9 X hE hnt => ?_)
  refine vAloadN X dX3_isLike_0 0 rfl ?_
  refine vIloadN X dX3_isLike_1 1 rfl ?_
  obtain ⟨ix2, hix2⟩ := vp_ix (f := f) hx
  exact vCallVT X hE hnt [] (ct_rowAt l D k sb L f x aW aG aR tr tg (gW) (gG) (gR) v hl hx fx haW faW haG faG haR faR hv) (vGV q_341 q_343 q_3 q_24 q_344) ⟨by decide, by decide, (show _ = some 1 from by decide +kernel)⟩ ⟨Nat.le_of_ble_eq_true rfl, Nat.le_of_ble_eq_true rfl⟩ ix2 3 rfl rfl (hix2.trans (by rw [fx])) rfl (Nat.le_of_ble_eq_true rfl) dX3_isLike_2 ⟨(Nat.le_of_ble_eq_true rfl), (Nat.le_of_ble_eq_true rfl)⟩ (Nat.le_of_ble_eq_true rfl) (Nat.le_of_ble_eq_true rfl)
set_option maxHeartbeats 4000000 in
set_option maxRecDepth 100000 in
theorem ct_isLike2 (l : Launch) (D : va_G) (k : Nat → ClassId) (sb : Nat) (L : List Nat) (f : Nat → va_E) (x aW aG aR tr tg : Nat) (gW gG gR : Nat → Option Nat) (r : Nat) (h b n : Nat) (g : Nat → Int32) (z : Int32) (hl : l.stackTraces = false) (hx : x ∈ L) (fx : f x = .inr (3, [.ref aW, .ref aG, .ref aR, .ref tr, .ref tg])) (haW : aW ∈ L) (faW : f aW = .inl (k 4, 4, .inr (.inr (.inr (.inr gW))))) (haG : aG ∈ L) (faG : f aG = .inl (k 2, 3, .inr (.inr (.inr (.inr gG))))) (haR : aR ∈ L) (faR : f aR = .inl (k 3, 3, .inr (.inr (.inr (.inr gR))))) (hr9 : r < 4) (eh : gW r = some h) (hh : h ∈ L) (fh : f h = .inr (2, [.ref b])) (hb : b ∈ L) (fb : f b = .inl (k 0, n, .inl g)) (hn : n ≤ 256) (hz : ¬ vRow z) : vCtX l yX3_isLike cX3_isLike 6 (some .boolean) 10 152 1 6 D vCl (vTy k) sb [.ref (x), .int (nI (r)), .int (z)] (va_pl L f) "java/lang/IndexOutOfBoundsException" := by
  refine vOfX (by decide +kernel) (Nat.le_of_ble_eq_true rfl) (fun p9 e9 s9 m9 below9 meth9 c9 X hE hnt => ?_)
  refine vAloadN X dX3_isLike_0 0 rfl ?_
  refine vIloadN X dX3_isLike_1 1 rfl ?_
  obtain ⟨ix2, hix2⟩ := vp_ix (f := f) hx
  refine vCallVd X [] (cb_rowAt l D k sb L f x aW aG aR tr tg (gW) (gG) (gR) r h hx fx haW faW haG faG haR faR (by omega) eh) (vGV q_341 q_343 q_3 q_24 q_344) ⟨by decide, by decide, (show _ = some 1 from by decide +kernel)⟩ ⟨Nat.le_of_ble_eq_true rfl, Nat.le_of_ble_eq_true rfl⟩ ix2 3 rfl rfl (hix2.trans (by rw [fx])) rfl (Nat.le_of_ble_eq_true rfl) dX3_isLike_2 ⟨Nat.le_of_ble_eq_true rfl, Nat.le_of_ble_eq_true rfl⟩ ?_
  refine vAstoreN X [(3, .ref (h)), (0, .ref (x)), (1, .int (nI (r))), (2, .int (z))] dX3_isLike_5 (by decide) rfl ?_
  refine vAloadN X dX3_isLike_6 1 rfl ?_
  refine vIloadN X dX3_isLike_7 3 rfl ?_
  obtain ⟨ix8, hix8⟩ := vp_ix (f := f) hx
  exact vCallVT X hE hnt [] (ct_rowAt l D k sb L f x aW aG aR tr tg (gW) (gG) (gR) z hl hx fx haW faW haG faG haR faR hz) (vGV q_341 q_343 q_3 q_24 q_344) ⟨by decide, by decide, (show _ = some 1 from by decide +kernel)⟩ ⟨Nat.le_of_ble_eq_true rfl, Nat.le_of_ble_eq_true rfl⟩ ix8 3 rfl rfl (hix8.trans (by rw [fx])) rfl (Nat.le_of_ble_eq_true rfl) dX3_isLike_8 ⟨(Nat.le_of_ble_eq_true rfl), (Nat.le_of_ble_eq_true rfl)⟩ (Nat.le_of_ble_eq_true rfl) (Nat.le_of_ble_eq_true rfl)
set_option maxHeartbeats 4000000 in
set_option maxRecDepth 100000 in
theorem cb_isLikeA (l : Launch) (D : va_G) (k : Nat → ClassId) (sb : Nat) (L : List Nat) (f : Nat → va_E) (x aW aG aR tr tg : Nat) (gW gG gR : Nat → Option Nat) (r : Nat) (h b n : Nat) (g : Nat → Int32) (u : Nat) (h2 b2 n2 : Nat) (g2 : Nat → Int32) (hx : x ∈ L) (fx : f x = .inr (3, [.ref aW, .ref aG, .ref aR, .ref tr, .ref tg])) (haW : aW ∈ L) (faW : f aW = .inl (k 4, 4, .inr (.inr (.inr (.inr gW))))) (haG : aG ∈ L) (faG : f aG = .inl (k 2, 3, .inr (.inr (.inr (.inr gG))))) (haR : aR ∈ L) (faR : f aR = .inl (k 3, 3, .inr (.inr (.inr (.inr gR))))) (hr9 : r < 4) (eh : gW r = some h) (hh : h ∈ L) (fh : f h = .inr (2, [.ref b])) (hb : b ∈ L) (fb : f b = .inl (k 0, n, .inl g)) (hn : n ≤ 256) (hu9 : u < 4) (eh2 : gW u = some h2) (hh2 : h2 ∈ L) (fh2 : f h2 = .inr (2, [.ref b2])) (hb2 : b2 ∈ L) (fb2 : f b2 = .inl (k 0, n2, .inl g2)) (hn2 : n2 ≤ 256) (hne : ¬ n = n2) : vCt l yX3_isLike cX3_isLike 6 (some .boolean) 10 152 0 0 D vCl (vTy k) sb [.ref (x), .int (nI (r)), .int (nI (u))] (va_pl L f) (vDet (some (.int (nI (0)))) (va_pl L f)) := by
  refine vOf (by decide +kernel) (Nat.le_of_ble_eq_true rfl) (fun p9 e9 s9 m9 below9 meth9 c9 X hret hmn => ?_)
  refine vAloadN X dX3_isLike_0 0 rfl ?_
  refine vIloadN X dX3_isLike_1 1 rfl ?_
  obtain ⟨ix2, hix2⟩ := vp_ix (f := f) hx
  refine vCallVd X [] (cb_rowAt l D k sb L f x aW aG aR tr tg (gW) (gG) (gR) r h hx fx haW faW haG faG haR faR (by omega) eh) (vGV q_341 q_343 q_3 q_24 q_344) ⟨by decide, by decide, (show _ = some 1 from by decide +kernel)⟩ ⟨Nat.le_of_ble_eq_true rfl, Nat.le_of_ble_eq_true rfl⟩ ix2 3 rfl rfl (hix2.trans (by rw [fx])) rfl (Nat.le_of_ble_eq_true rfl) dX3_isLike_2 ⟨Nat.le_of_ble_eq_true rfl, Nat.le_of_ble_eq_true rfl⟩ ?_
  refine vAstoreN X [(3, .ref (h)), (0, .ref (x)), (1, .int (nI (r))), (2, .int (nI (u)))] dX3_isLike_5 (by decide) rfl ?_
  refine vAloadN X dX3_isLike_6 1 rfl ?_
  refine vIloadN X dX3_isLike_7 3 rfl ?_
  obtain ⟨ix8, hix8⟩ := vp_ix (f := f) hx
  refine vCallVd X [] (cb_rowAt l D k sb L f x aW aG aR tr tg (gW) (gG) (gR) u h2 hx fx haW faW haG faG haR faR (by omega) eh2) (vGV q_341 q_343 q_3 q_24 q_344) ⟨by decide, by decide, (show _ = some 1 from by decide +kernel)⟩ ⟨Nat.le_of_ble_eq_true rfl, Nat.le_of_ble_eq_true rfl⟩ ix8 3 rfl rfl (hix8.trans (by rw [fx])) rfl (Nat.le_of_ble_eq_true rfl) dX3_isLike_8 ⟨Nat.le_of_ble_eq_true rfl, Nat.le_of_ble_eq_true rfl⟩ ?_
  refine vAstore X [(4, .ref (h2)), (3, .ref (h)), (0, .ref (x)), (1, .int (nI (r))), (2, .int (nI (u)))] dX3_isLike_11 (by decide) rfl ?_
  refine vAloadN X dX3_isLike_13 1 rfl ?_
  obtain ⟨ix14, hix14⟩ := vp_ix (f := f) hh
  refine vCallVd X [] (cr_count l D k sb L f h b (n) (g)  hh fh hb fb (by omega) ) (vGV q_131 q_132 q_133 q_25 q_134) ⟨by decide, by decide, (show _ = some 0 from by decide +kernel)⟩ ⟨Nat.le_of_ble_eq_true rfl, Nat.le_of_ble_eq_true rfl⟩ ix14 2 rfl rfl (hix14.trans (by rw [fh])) rfl (Nat.le_of_ble_eq_true rfl) dX3_isLike_14 ⟨Nat.le_of_ble_eq_true rfl, Nat.le_of_ble_eq_true rfl⟩ ?_
  refine vAload X dX3_isLike_17 0 rfl ?_
  obtain ⟨ix19, hix19⟩ := vp_ix (f := f) hh2
  refine vCallVd X [.int (nI (n))] (cr_count l D k sb L f h2 b2 (n2) (g2)  hh2 fh2 hb2 fb2 (by omega) ) (vGV q_131 q_132 q_133 q_25 q_134) ⟨by decide, by decide, (show _ = some 0 from by decide +kernel)⟩ ⟨Nat.le_of_ble_eq_true rfl, Nat.le_of_ble_eq_true rfl⟩ ix19 2 rfl rfl (hix19.trans (by rw [fh2])) rfl (Nat.le_of_ble_eq_true rfl) dX3_isLike_19 ⟨Nat.le_of_ble_eq_true rfl, Nat.le_of_ble_eq_true rfl⟩ ?_
  refine vIcmpN_eqF X 27 dX3_isLike_22 (by decide) (by omega) (by omega) (by omega) ?_
  refine vIconst X dX3_isLike_25 (v := nI (0)) (by decide) ?_
  exact vRetZ X hret (by first | rfl | exact nar_bI _) dX3_isLike_26 ⟨rfl, rfl⟩
set_option maxHeartbeats 4000000 in
set_option maxRecDepth 100000 in
theorem cL_isLikeT {p9 : Program} {l : Launch} {e9 : Env} {s9 : State} {m9 : MethodId} {args9 : Array Value} {below9 : List Frame} {meth9 : Method} {c9 : Code} {Q9 : State → Prop} (D : va_G) (k : Nat → ClassId) (sb : Nat) (L : List Nat) (f : Nat → va_E) (x aW aG aR tr tg : Nat) (gW gG gR : Nat → Option Nat) (r : Nat) (h b n : Nat) (g : Nat → Int32) (u : Nat) (h2 b2 n2 : Nat) (g2 : Nat → Int32) (hx : x ∈ L) (fx : f x = .inr (3, [.ref aW, .ref aG, .ref aR, .ref tr, .ref tg])) (haW : aW ∈ L) (faW : f aW = .inl (k 4, 4, .inr (.inr (.inr (.inr gW))))) (haG : aG ∈ L) (faG : f aG = .inl (k 2, 3, .inr (.inr (.inr (.inr gG))))) (haR : aR ∈ L) (faR : f aR = .inl (k 3, 3, .inr (.inr (.inr (.inr gR))))) (hr9 : r < 4) (eh : gW r = some h) (hh : h ∈ L) (fh : f h = .inr (2, [.ref b])) (hb : b ∈ L) (fb : f b = .inl (k 0, n, .inl g)) (hn : n ≤ 256) (hu9 : u < 4) (eh2 : gW u = some h2) (hh2 : h2 ∈ L) (fh2 : f h2 = .inr (2, [.ref b2])) (hb2 : b2 ∈ L) (fb2 : f b2 = .inl (k 0, n2, .inl g2)) (hn2 : n2 ≤ 256) (hne : n = n2) (hq : ∀ j, j < n → g j = g2 j) (X : vCX p9 s9 m9 args9 meth9 c9 cX3_isLike 6 yX3_isLike.cls (Cond.code yX3_isLike cX3_isLike 6 (some .boolean) :: vGW) D vCl (vTy k) sb) (hex : vV p9 l e9 ({ frames := 10, cells := 0, slots := 0, locals := 152 }) s9 m9 args9 below9 meth9 c9 6 D vCl sb Q9 (va_pl L f) 0 0 63 [(3, .ref (h)), (4, .ref (h2))] []) : ∀ (z i : Nat) , i + z = n → vV p9 l e9 ({ frames := 10, cells := 0, slots := 0, locals := 152 }) s9 m9 args9 below9 meth9 c9 6 D vCl sb Q9 (va_pl L f) 0 0 30 [(5, .int (nI (i))), (3, .ref (h)), (4, .ref (h2))] [] := by
  intro z
  induction z with
  | zero =>
    intro i  hi 
    have hin : n = i := by omega
    subst hin
    refine vIload X dX3_isLike_30 0 rfl ?_
    refine vAloadN X dX3_isLike_32 1 rfl ?_
    obtain ⟨ix33, hix33⟩ := vp_ix (f := f) hh
    refine vCallVd X [.int (nI (n))] (cr_count l D k sb L f h b (n) (g)  hh fh hb fb (by omega) ) (vGV q_131 q_132 q_133 q_25 q_134) ⟨by decide, by decide, (show _ = some 0 from by decide +kernel)⟩ ⟨Nat.le_of_ble_eq_true rfl, Nat.le_of_ble_eq_true rfl⟩ ix33 2 rfl rfl (hix33.trans (by rw [fh])) rfl (Nat.le_of_ble_eq_true rfl) dX3_isLike_33 ⟨Nat.le_of_ble_eq_true rfl, Nat.le_of_ble_eq_true rfl⟩ ?_
    refine vIcmpN_geT X 63 dX3_isLike_36 (by decide) (by omega) (by omega) (by omega) ?_
    refine vSub [1, 2] [(3, .ref (h)), (4, .ref (h2))] rfl ?_
    exact hex
  | succ z ih =>
    intro i  hi 
    refine vIload X dX3_isLike_30 0 rfl ?_
    refine vAloadN X dX3_isLike_32 1 rfl ?_
    obtain ⟨ix33, hix33⟩ := vp_ix (f := f) hh
    refine vCallVd X [.int (nI (i))] (cr_count l D k sb L f h b (n) (g)  hh fh hb fb (by omega) ) (vGV q_131 q_132 q_133 q_25 q_134) ⟨by decide, by decide, (show _ = some 0 from by decide +kernel)⟩ ⟨Nat.le_of_ble_eq_true rfl, Nat.le_of_ble_eq_true rfl⟩ ix33 2 rfl rfl (hix33.trans (by rw [fh])) rfl (Nat.le_of_ble_eq_true rfl) dX3_isLike_33 ⟨Nat.le_of_ble_eq_true rfl, Nat.le_of_ble_eq_true rfl⟩ ?_
    refine vIcmpN_geF X 63 dX3_isLike_36 (by decide) (by omega) (by omega) (by omega) ?_
    refine vAloadN X dX3_isLike_39 1 rfl ?_
    refine vIload X dX3_isLike_40 0 rfl ?_
    obtain ⟨ix42, hix42⟩ := vp_ix (f := f) hh
    refine vCallVd X [] (cr_byteAt l D k sb L f h b (n) (g) i hh fh hb fb (by omega) (by omega)) (vGV q_404 q_141 q_142 q_25 q_143) ⟨by decide, by decide, (show _ = some 1 from by decide +kernel)⟩ ⟨Nat.le_of_ble_eq_true rfl, Nat.le_of_ble_eq_true rfl⟩ ix42 2 rfl rfl (hix42.trans (by rw [fh])) rfl (Nat.le_of_ble_eq_true rfl) dX3_isLike_42 ⟨Nat.le_of_ble_eq_true rfl, Nat.le_of_ble_eq_true rfl⟩ ?_
    refine vAload X dX3_isLike_45 2 rfl ?_
    refine vIload X dX3_isLike_47 0 rfl ?_
    obtain ⟨ix49, hix49⟩ := vp_ix (f := f) hh2
    refine vCallVd X [.int (g (i))] (cr_byteAt l D k sb L f h2 b2 (n2) (g2) i hh2 fh2 hb2 fb2 (by omega) (by omega)) (vGV q_404 q_141 q_142 q_25 q_143) ⟨by decide, by decide, (show _ = some 1 from by decide +kernel)⟩ ⟨Nat.le_of_ble_eq_true rfl, Nat.le_of_ble_eq_true rfl⟩ ix49 2 rfl rfl (hix49.trans (by rw [fh2])) rfl (Nat.le_of_ble_eq_true rfl) dX3_isLike_49 ⟨Nat.le_of_ble_eq_true rfl, Nat.le_of_ble_eq_true rfl⟩ ?_
    refine vIcmp_eqT X 57 dX3_isLike_52 (by decide) (hq i (by omega)) ?_
    refine vIinc X [(5, .int (nI (i + 1))), (3, .ref (h)), (4, .ref (h2))] dX3_isLike_57 0 rfl (nI_inc _) (by decide) rfl ?_
    refine vGoto X 30 dX3_isLike_60 (by decide) ?_
    refine vSub [0, 1, 2] [(5, .int (nI (i + 1))), (3, .ref (h)), (4, .ref (h2))] rfl ?_
    exact ih (i + 1) (by omega)
set_option maxHeartbeats 4000000 in
set_option maxRecDepth 100000 in
theorem cL_isLikeF {p9 : Program} {l : Launch} {e9 : Env} {s9 : State} {m9 : MethodId} {args9 : Array Value} {below9 : List Frame} {meth9 : Method} {c9 : Code} {Q9 : State → Prop} (D : va_G) (k : Nat → ClassId) (sb : Nat) (L : List Nat) (f : Nat → va_E) (x aW aG aR tr tg : Nat) (gW gG gR : Nat → Option Nat) (r : Nat) (h b n : Nat) (g : Nat → Int32) (u : Nat) (h2 b2 n2 : Nat) (g2 : Nat → Int32) (d : Nat) (hx : x ∈ L) (fx : f x = .inr (3, [.ref aW, .ref aG, .ref aR, .ref tr, .ref tg])) (haW : aW ∈ L) (faW : f aW = .inl (k 4, 4, .inr (.inr (.inr (.inr gW))))) (haG : aG ∈ L) (faG : f aG = .inl (k 2, 3, .inr (.inr (.inr (.inr gG))))) (haR : aR ∈ L) (faR : f aR = .inl (k 3, 3, .inr (.inr (.inr (.inr gR))))) (hr9 : r < 4) (eh : gW r = some h) (hh : h ∈ L) (fh : f h = .inr (2, [.ref b])) (hb : b ∈ L) (fb : f b = .inl (k 0, n, .inl g)) (hn : n ≤ 256) (hu9 : u < 4) (eh2 : gW u = some h2) (hh2 : h2 ∈ L) (fh2 : f h2 = .inr (2, [.ref b2])) (hb2 : b2 ∈ L) (fb2 : f b2 = .inl (k 0, n2, .inl g2)) (hn2 : n2 ≤ 256) (hne : n = n2) (hd : d < n) (hq : ∀ j, j < d → g j = g2 j) (X : vCX p9 s9 m9 args9 meth9 c9 cX3_isLike 6 yX3_isLike.cls (Cond.code yX3_isLike cX3_isLike 6 (some .boolean) :: vGW) D vCl (vTy k) sb) (hex : vV p9 l e9 ({ frames := 10, cells := 0, slots := 0, locals := 152 }) s9 m9 args9 below9 meth9 c9 6 D vCl sb Q9 (va_pl L f) 0 0 30 [(5, .int (nI (d))), (3, .ref (h)), (4, .ref (h2))] []) : ∀ (z i : Nat) , i + z = d → vV p9 l e9 ({ frames := 10, cells := 0, slots := 0, locals := 152 }) s9 m9 args9 below9 meth9 c9 6 D vCl sb Q9 (va_pl L f) 0 0 30 [(5, .int (nI (i))), (3, .ref (h)), (4, .ref (h2))] [] := by
  intro z
  induction z with
  | zero =>
    intro i  hi 
    have hin : d = i := by omega
    subst hin
    exact hex
  | succ z ih =>
    intro i  hi 
    refine vIload X dX3_isLike_30 0 rfl ?_
    refine vAloadN X dX3_isLike_32 1 rfl ?_
    obtain ⟨ix33, hix33⟩ := vp_ix (f := f) hh
    refine vCallVd X [.int (nI (i))] (cr_count l D k sb L f h b (n) (g)  hh fh hb fb (by omega) ) (vGV q_131 q_132 q_133 q_25 q_134) ⟨by decide, by decide, (show _ = some 0 from by decide +kernel)⟩ ⟨Nat.le_of_ble_eq_true rfl, Nat.le_of_ble_eq_true rfl⟩ ix33 2 rfl rfl (hix33.trans (by rw [fh])) rfl (Nat.le_of_ble_eq_true rfl) dX3_isLike_33 ⟨Nat.le_of_ble_eq_true rfl, Nat.le_of_ble_eq_true rfl⟩ ?_
    refine vIcmpN_geF X 63 dX3_isLike_36 (by decide) (by omega) (by omega) (by omega) ?_
    refine vAloadN X dX3_isLike_39 1 rfl ?_
    refine vIload X dX3_isLike_40 0 rfl ?_
    obtain ⟨ix42, hix42⟩ := vp_ix (f := f) hh
    refine vCallVd X [] (cr_byteAt l D k sb L f h b (n) (g) i hh fh hb fb (by omega) (by omega)) (vGV q_404 q_141 q_142 q_25 q_143) ⟨by decide, by decide, (show _ = some 1 from by decide +kernel)⟩ ⟨Nat.le_of_ble_eq_true rfl, Nat.le_of_ble_eq_true rfl⟩ ix42 2 rfl rfl (hix42.trans (by rw [fh])) rfl (Nat.le_of_ble_eq_true rfl) dX3_isLike_42 ⟨Nat.le_of_ble_eq_true rfl, Nat.le_of_ble_eq_true rfl⟩ ?_
    refine vAload X dX3_isLike_45 2 rfl ?_
    refine vIload X dX3_isLike_47 0 rfl ?_
    obtain ⟨ix49, hix49⟩ := vp_ix (f := f) hh2
    refine vCallVd X [.int (g (i))] (cr_byteAt l D k sb L f h2 b2 (n2) (g2) i hh2 fh2 hb2 fb2 (by omega) (by omega)) (vGV q_404 q_141 q_142 q_25 q_143) ⟨by decide, by decide, (show _ = some 1 from by decide +kernel)⟩ ⟨Nat.le_of_ble_eq_true rfl, Nat.le_of_ble_eq_true rfl⟩ ix49 2 rfl rfl (hix49.trans (by rw [fh2])) rfl (Nat.le_of_ble_eq_true rfl) dX3_isLike_49 ⟨Nat.le_of_ble_eq_true rfl, Nat.le_of_ble_eq_true rfl⟩ ?_
    refine vIcmp_eqT X 57 dX3_isLike_52 (by decide) (hq i (by omega)) ?_
    refine vIinc X [(5, .int (nI (i + 1))), (3, .ref (h)), (4, .ref (h2))] dX3_isLike_57 0 rfl (nI_inc _) (by decide) rfl ?_
    refine vGoto X 30 dX3_isLike_60 (by decide) ?_
    refine vSub [0, 1, 2] [(5, .int (nI (i + 1))), (3, .ref (h)), (4, .ref (h2))] rfl ?_
    exact ih (i + 1) (by omega)
set_option maxHeartbeats 4000000 in
set_option maxRecDepth 100000 in
theorem cb_isLikeT (l : Launch) (D : va_G) (k : Nat → ClassId) (sb : Nat) (L : List Nat) (f : Nat → va_E) (x aW aG aR tr tg : Nat) (gW gG gR : Nat → Option Nat) (r : Nat) (h b n : Nat) (g : Nat → Int32) (u : Nat) (h2 b2 n2 : Nat) (g2 : Nat → Int32) (hx : x ∈ L) (fx : f x = .inr (3, [.ref aW, .ref aG, .ref aR, .ref tr, .ref tg])) (haW : aW ∈ L) (faW : f aW = .inl (k 4, 4, .inr (.inr (.inr (.inr gW))))) (haG : aG ∈ L) (faG : f aG = .inl (k 2, 3, .inr (.inr (.inr (.inr gG))))) (haR : aR ∈ L) (faR : f aR = .inl (k 3, 3, .inr (.inr (.inr (.inr gR))))) (hr9 : r < 4) (eh : gW r = some h) (hh : h ∈ L) (fh : f h = .inr (2, [.ref b])) (hb : b ∈ L) (fb : f b = .inl (k 0, n, .inl g)) (hn : n ≤ 256) (hu9 : u < 4) (eh2 : gW u = some h2) (hh2 : h2 ∈ L) (fh2 : f h2 = .inr (2, [.ref b2])) (hb2 : b2 ∈ L) (fb2 : f b2 = .inl (k 0, n2, .inl g2)) (hn2 : n2 ≤ 256) (hne : n = n2) (hq : ∀ j, j < n → g j = g2 j) : vCt l yX3_isLike cX3_isLike 6 (some .boolean) 10 152 0 0 D vCl (vTy k) sb [.ref (x), .int (nI (r)), .int (nI (u))] (va_pl L f) (vDet (some (.int (nI (1)))) (va_pl L f)) := by
  refine vOf (by decide +kernel) (Nat.le_of_ble_eq_true rfl) (fun p9 e9 s9 m9 below9 meth9 c9 X hret hmn => ?_)
  refine vAloadN X dX3_isLike_0 0 rfl ?_
  refine vIloadN X dX3_isLike_1 1 rfl ?_
  obtain ⟨ix2, hix2⟩ := vp_ix (f := f) hx
  refine vCallVd X [] (cb_rowAt l D k sb L f x aW aG aR tr tg (gW) (gG) (gR) r h hx fx haW faW haG faG haR faR (by omega) eh) (vGV q_341 q_343 q_3 q_24 q_344) ⟨by decide, by decide, (show _ = some 1 from by decide +kernel)⟩ ⟨Nat.le_of_ble_eq_true rfl, Nat.le_of_ble_eq_true rfl⟩ ix2 3 rfl rfl (hix2.trans (by rw [fx])) rfl (Nat.le_of_ble_eq_true rfl) dX3_isLike_2 ⟨Nat.le_of_ble_eq_true rfl, Nat.le_of_ble_eq_true rfl⟩ ?_
  refine vAstoreN X [(3, .ref (h)), (0, .ref (x)), (1, .int (nI (r))), (2, .int (nI (u)))] dX3_isLike_5 (by decide) rfl ?_
  refine vAloadN X dX3_isLike_6 1 rfl ?_
  refine vIloadN X dX3_isLike_7 3 rfl ?_
  obtain ⟨ix8, hix8⟩ := vp_ix (f := f) hx
  refine vCallVd X [] (cb_rowAt l D k sb L f x aW aG aR tr tg (gW) (gG) (gR) u h2 hx fx haW faW haG faG haR faR (by omega) eh2) (vGV q_341 q_343 q_3 q_24 q_344) ⟨by decide, by decide, (show _ = some 1 from by decide +kernel)⟩ ⟨Nat.le_of_ble_eq_true rfl, Nat.le_of_ble_eq_true rfl⟩ ix8 3 rfl rfl (hix8.trans (by rw [fx])) rfl (Nat.le_of_ble_eq_true rfl) dX3_isLike_8 ⟨Nat.le_of_ble_eq_true rfl, Nat.le_of_ble_eq_true rfl⟩ ?_
  refine vAstore X [(4, .ref (h2)), (3, .ref (h)), (0, .ref (x)), (1, .int (nI (r))), (2, .int (nI (u)))] dX3_isLike_11 (by decide) rfl ?_
  refine vAloadN X dX3_isLike_13 1 rfl ?_
  obtain ⟨ix14, hix14⟩ := vp_ix (f := f) hh
  refine vCallVd X [] (cr_count l D k sb L f h b (n) (g)  hh fh hb fb (by omega) ) (vGV q_131 q_132 q_133 q_25 q_134) ⟨by decide, by decide, (show _ = some 0 from by decide +kernel)⟩ ⟨Nat.le_of_ble_eq_true rfl, Nat.le_of_ble_eq_true rfl⟩ ix14 2 rfl rfl (hix14.trans (by rw [fh])) rfl (Nat.le_of_ble_eq_true rfl) dX3_isLike_14 ⟨Nat.le_of_ble_eq_true rfl, Nat.le_of_ble_eq_true rfl⟩ ?_
  refine vAload X dX3_isLike_17 0 rfl ?_
  obtain ⟨ix19, hix19⟩ := vp_ix (f := f) hh2
  refine vCallVd X [.int (nI (n))] (cr_count l D k sb L f h2 b2 (n2) (g2)  hh2 fh2 hb2 fb2 (by omega) ) (vGV q_131 q_132 q_133 q_25 q_134) ⟨by decide, by decide, (show _ = some 0 from by decide +kernel)⟩ ⟨Nat.le_of_ble_eq_true rfl, Nat.le_of_ble_eq_true rfl⟩ ix19 2 rfl rfl (hix19.trans (by rw [fh2])) rfl (Nat.le_of_ble_eq_true rfl) dX3_isLike_19 ⟨Nat.le_of_ble_eq_true rfl, Nat.le_of_ble_eq_true rfl⟩ ?_
  refine vIcmpN_eqT X 27 dX3_isLike_22 (by decide) (by omega) (by omega) (by omega) ?_
  refine vIconst X dX3_isLike_27 (v := nI (0)) (by decide) ?_
  refine vIstore X [(5, .int (nI (0))), (4, .ref (h2)), (3, .ref (h)), (0, .ref (x)), (1, .int (nI (r))), (2, .int (nI (u)))] dX3_isLike_28 (by decide) rfl ?_
  refine vSub [0, 2, 1] [(5, .int (nI (0))), (3, .ref (h)), (4, .ref (h2))] rfl ?_
  refine cL_isLikeT D k sb L f x aW aG aR tr tg gW gG gR r h b n g u h2 b2 n2 g2 hx fx haW faW haG faG haR faR hr9 eh hh fh hb fb hn hu9 eh2 hh2 fh2 hb2 fb2 hn2 hne hq X ?_ (n) 0  (by omega)
  refine vIconst X dX3_isLike_63 (v := nI (1)) (by decide) ?_
  exact vRetZ X hret (by first | rfl | exact nar_bI _) dX3_isLike_64 ⟨rfl, rfl⟩
set_option maxHeartbeats 4000000 in
set_option maxRecDepth 100000 in
theorem cb_isLikeF (l : Launch) (D : va_G) (k : Nat → ClassId) (sb : Nat) (L : List Nat) (f : Nat → va_E) (x aW aG aR tr tg : Nat) (gW gG gR : Nat → Option Nat) (r : Nat) (h b n : Nat) (g : Nat → Int32) (u : Nat) (h2 b2 n2 : Nat) (g2 : Nat → Int32) (d : Nat) (hx : x ∈ L) (fx : f x = .inr (3, [.ref aW, .ref aG, .ref aR, .ref tr, .ref tg])) (haW : aW ∈ L) (faW : f aW = .inl (k 4, 4, .inr (.inr (.inr (.inr gW))))) (haG : aG ∈ L) (faG : f aG = .inl (k 2, 3, .inr (.inr (.inr (.inr gG))))) (haR : aR ∈ L) (faR : f aR = .inl (k 3, 3, .inr (.inr (.inr (.inr gR))))) (hr9 : r < 4) (eh : gW r = some h) (hh : h ∈ L) (fh : f h = .inr (2, [.ref b])) (hb : b ∈ L) (fb : f b = .inl (k 0, n, .inl g)) (hn : n ≤ 256) (hu9 : u < 4) (eh2 : gW u = some h2) (hh2 : h2 ∈ L) (fh2 : f h2 = .inr (2, [.ref b2])) (hb2 : b2 ∈ L) (fb2 : f b2 = .inl (k 0, n2, .inl g2)) (hn2 : n2 ≤ 256) (hne : n = n2) (hd : d < n) (hq : ∀ j, j < d → g j = g2 j) (hq2 : ¬ g d = g2 d) : vCt l yX3_isLike cX3_isLike 6 (some .boolean) 10 152 0 0 D vCl (vTy k) sb [.ref (x), .int (nI (r)), .int (nI (u))] (va_pl L f) (vDet (some (.int (nI (0)))) (va_pl L f)) := by
  refine vOf (by decide +kernel) (Nat.le_of_ble_eq_true rfl) (fun p9 e9 s9 m9 below9 meth9 c9 X hret hmn => ?_)
  refine vAloadN X dX3_isLike_0 0 rfl ?_
  refine vIloadN X dX3_isLike_1 1 rfl ?_
  obtain ⟨ix2, hix2⟩ := vp_ix (f := f) hx
  refine vCallVd X [] (cb_rowAt l D k sb L f x aW aG aR tr tg (gW) (gG) (gR) r h hx fx haW faW haG faG haR faR (by omega) eh) (vGV q_341 q_343 q_3 q_24 q_344) ⟨by decide, by decide, (show _ = some 1 from by decide +kernel)⟩ ⟨Nat.le_of_ble_eq_true rfl, Nat.le_of_ble_eq_true rfl⟩ ix2 3 rfl rfl (hix2.trans (by rw [fx])) rfl (Nat.le_of_ble_eq_true rfl) dX3_isLike_2 ⟨Nat.le_of_ble_eq_true rfl, Nat.le_of_ble_eq_true rfl⟩ ?_
  refine vAstoreN X [(3, .ref (h)), (0, .ref (x)), (1, .int (nI (r))), (2, .int (nI (u)))] dX3_isLike_5 (by decide) rfl ?_
  refine vAloadN X dX3_isLike_6 1 rfl ?_
  refine vIloadN X dX3_isLike_7 3 rfl ?_
  obtain ⟨ix8, hix8⟩ := vp_ix (f := f) hx
  refine vCallVd X [] (cb_rowAt l D k sb L f x aW aG aR tr tg (gW) (gG) (gR) u h2 hx fx haW faW haG faG haR faR (by omega) eh2) (vGV q_341 q_343 q_3 q_24 q_344) ⟨by decide, by decide, (show _ = some 1 from by decide +kernel)⟩ ⟨Nat.le_of_ble_eq_true rfl, Nat.le_of_ble_eq_true rfl⟩ ix8 3 rfl rfl (hix8.trans (by rw [fx])) rfl (Nat.le_of_ble_eq_true rfl) dX3_isLike_8 ⟨Nat.le_of_ble_eq_true rfl, Nat.le_of_ble_eq_true rfl⟩ ?_
  refine vAstore X [(4, .ref (h2)), (3, .ref (h)), (0, .ref (x)), (1, .int (nI (r))), (2, .int (nI (u)))] dX3_isLike_11 (by decide) rfl ?_
  refine vAloadN X dX3_isLike_13 1 rfl ?_
  obtain ⟨ix14, hix14⟩ := vp_ix (f := f) hh
  refine vCallVd X [] (cr_count l D k sb L f h b (n) (g)  hh fh hb fb (by omega) ) (vGV q_131 q_132 q_133 q_25 q_134) ⟨by decide, by decide, (show _ = some 0 from by decide +kernel)⟩ ⟨Nat.le_of_ble_eq_true rfl, Nat.le_of_ble_eq_true rfl⟩ ix14 2 rfl rfl (hix14.trans (by rw [fh])) rfl (Nat.le_of_ble_eq_true rfl) dX3_isLike_14 ⟨Nat.le_of_ble_eq_true rfl, Nat.le_of_ble_eq_true rfl⟩ ?_
  refine vAload X dX3_isLike_17 0 rfl ?_
  obtain ⟨ix19, hix19⟩ := vp_ix (f := f) hh2
  refine vCallVd X [.int (nI (n))] (cr_count l D k sb L f h2 b2 (n2) (g2)  hh2 fh2 hb2 fb2 (by omega) ) (vGV q_131 q_132 q_133 q_25 q_134) ⟨by decide, by decide, (show _ = some 0 from by decide +kernel)⟩ ⟨Nat.le_of_ble_eq_true rfl, Nat.le_of_ble_eq_true rfl⟩ ix19 2 rfl rfl (hix19.trans (by rw [fh2])) rfl (Nat.le_of_ble_eq_true rfl) dX3_isLike_19 ⟨Nat.le_of_ble_eq_true rfl, Nat.le_of_ble_eq_true rfl⟩ ?_
  refine vIcmpN_eqT X 27 dX3_isLike_22 (by decide) (by omega) (by omega) (by omega) ?_
  refine vIconst X dX3_isLike_27 (v := nI (0)) (by decide) ?_
  refine vIstore X [(5, .int (nI (0))), (4, .ref (h2)), (3, .ref (h)), (0, .ref (x)), (1, .int (nI (r))), (2, .int (nI (u)))] dX3_isLike_28 (by decide) rfl ?_
  refine vSub [0, 2, 1] [(5, .int (nI (0))), (3, .ref (h)), (4, .ref (h2))] rfl ?_
  refine cL_isLikeF D k sb L f x aW aG aR tr tg gW gG gR r h b n g u h2 b2 n2 g2 d hx fx haW faW haG faG haR faR hr9 eh hh fh hb fb hn hu9 eh2 hh2 fh2 hb2 fb2 hn2 hne hd hq X ?_ (d) 0  (by omega)
  refine vIload X dX3_isLike_30 0 rfl ?_
  refine vAloadN X dX3_isLike_32 1 rfl ?_
  obtain ⟨ix33, hix33⟩ := vp_ix (f := f) hh
  refine vCallVd X [.int (nI (d))] (cr_count l D k sb L f h b (n) (g)  hh fh hb fb (by omega) ) (vGV q_131 q_132 q_133 q_25 q_134) ⟨by decide, by decide, (show _ = some 0 from by decide +kernel)⟩ ⟨Nat.le_of_ble_eq_true rfl, Nat.le_of_ble_eq_true rfl⟩ ix33 2 rfl rfl (hix33.trans (by rw [fh])) rfl (Nat.le_of_ble_eq_true rfl) dX3_isLike_33 ⟨Nat.le_of_ble_eq_true rfl, Nat.le_of_ble_eq_true rfl⟩ ?_
  refine vIcmpN_geF X 63 dX3_isLike_36 (by decide) (by omega) (by omega) (by omega) ?_
  refine vAloadN X dX3_isLike_39 1 rfl ?_
  refine vIload X dX3_isLike_40 0 rfl ?_
  obtain ⟨ix42, hix42⟩ := vp_ix (f := f) hh
  refine vCallVd X [] (cr_byteAt l D k sb L f h b (n) (g) d hh fh hb fb (by omega) (by omega)) (vGV q_404 q_141 q_142 q_25 q_143) ⟨by decide, by decide, (show _ = some 1 from by decide +kernel)⟩ ⟨Nat.le_of_ble_eq_true rfl, Nat.le_of_ble_eq_true rfl⟩ ix42 2 rfl rfl (hix42.trans (by rw [fh])) rfl (Nat.le_of_ble_eq_true rfl) dX3_isLike_42 ⟨Nat.le_of_ble_eq_true rfl, Nat.le_of_ble_eq_true rfl⟩ ?_
  refine vAload X dX3_isLike_45 2 rfl ?_
  refine vIload X dX3_isLike_47 0 rfl ?_
  obtain ⟨ix49, hix49⟩ := vp_ix (f := f) hh2
  refine vCallVd X [.int (g (d))] (cr_byteAt l D k sb L f h2 b2 (n2) (g2) d hh2 fh2 hb2 fb2 (by omega) (by omega)) (vGV q_404 q_141 q_142 q_25 q_143) ⟨by decide, by decide, (show _ = some 1 from by decide +kernel)⟩ ⟨Nat.le_of_ble_eq_true rfl, Nat.le_of_ble_eq_true rfl⟩ ix49 2 rfl rfl (hix49.trans (by rw [fh2])) rfl (Nat.le_of_ble_eq_true rfl) dX3_isLike_49 ⟨Nat.le_of_ble_eq_true rfl, Nat.le_of_ble_eq_true rfl⟩ ?_
  refine vIcmp_eqF X 57 dX3_isLike_52 (by decide) hq2 ?_
  refine vIconst X dX3_isLike_55 (v := nI (0)) (by decide) ?_
  exact vRetZ X hret (by first | rfl | exact nar_bI _) dX3_isLike_56 ⟨rfl, rfl⟩
set_option maxHeartbeats 4000000 in
set_option maxRecDepth 100000 in
theorem cb_write (l : Launch) (D : va_G) (k : Nat → ClassId) (sb : Nat) (L : List Nat) (f : Nat → va_E) (x aW aG aR tr tg : Nat) (gW gG gR : Nat → Option Nat) (y : Nat) (u ur ub c : Nat) (gu : Nat → Int32) (v : Int32) (hx : x ∈ L) (fx : f x = .inr (3, [.ref aW, .ref aG, .ref aR, .ref tr, .ref tg])) (haW : aW ∈ L) (faW : f aW = .inl (k 4, 4, .inr (.inr (.inr (.inr gW))))) (haG : aG ∈ L) (faG : f aG = .inl (k 2, 3, .inr (.inr (.inr (.inr gG))))) (haR : aR ∈ L) (faR : f aR = .inl (k 3, 3, .inr (.inr (.inr (.inr gR))))) (hy9 : y < 3) (eu : gG y = some u) (hu : u ∈ L) (fu : f u = .inr (0, [.ref ur, .int (nI c)])) (hur : ur ∈ L) (fur : f ur = .inr (2, [.ref ub])) (hub : ub ∈ L) (fub : f ub = .inl (k 0, 256, .inl gu)) (hc : c ≤ 256) (hm : c + 1 ≤ 256) : vCt l yX3_write cX3_write 4 (some .int) 9 131 0 0 D vCl (vTy k) sb [.ref (x), .int (nI (y)), .int (v)] (va_pl L f) (vDet (some (.int (nI (c + 1)))) (va_pl L (va_up (va_up f ub (.inl (k 0, 256, .inl (upd gu (c) (lb (v)))))) u (.inr (0, [.ref (ur), .int (nI ((c) + 1))]))))) := by
  refine vOf (by decide +kernel) (Nat.le_of_ble_eq_true rfl) (fun p9 e9 s9 m9 below9 meth9 c9 X hret hmn => ?_)
  refine vAloadN X dX3_write_0 0 rfl ?_
  refine vIloadN X dX3_write_1 1 rfl ?_
  obtain ⟨ix2, hix2⟩ := vp_ix (f := f) hx
  refine vCallVd X [] (cb_gathererAt l D k sb L f x aW aG aR tr tg (gW) (gG) (gR) y u hx fx haW faW haG faG haR faR (by omega) eu) (vGV q_438 q_440 q_5 q_24 q_441) ⟨by decide, by decide, (show _ = some 1 from by decide +kernel)⟩ ⟨Nat.le_of_ble_eq_true rfl, Nat.le_of_ble_eq_true rfl⟩ ix2 3 rfl rfl (hix2.trans (by rw [fx])) rfl (Nat.le_of_ble_eq_true rfl) dX3_write_2 ⟨Nat.le_of_ble_eq_true rfl, Nat.le_of_ble_eq_true rfl⟩ ?_
  refine vAstoreN X [(3, .ref (u)), (0, .ref (x)), (1, .int (nI (y))), (2, .int (v))] dX3_write_5 (by decide) rfl ?_
  refine vAloadN X dX3_write_6 0 rfl ?_
  refine vIconst X dX3_write_7 (v := nI (1)) (by decide) ?_
  refine vCallSd X [] (cb_needRoom l D k sb L f u ur ub (c) (gu) (1) hu fu hur fur hub fub (by omega) (by omega)) (vGS q_443 q_444 q_24 q_445) rfl ⟨by decide, by decide, (show _ = some 2 from by decide +kernel)⟩ ⟨Nat.le_of_ble_eq_true rfl, Nat.le_of_ble_eq_true rfl⟩ rfl (Nat.le_of_ble_eq_true rfl) dX3_write_8 ⟨Nat.le_of_ble_eq_true rfl, Nat.le_of_ble_eq_true rfl⟩ ?_
  refine vAloadN X dX3_write_11 0 rfl ?_
  refine vIloadN X dX3_write_12 3 rfl ?_
  obtain ⟨ix13, hix13⟩ := vp_ix (f := f) hu
  refine vCallVd X [] (cg_gather l D k sb L f u ur ub (c) (gu) (v) hu fu hur fur hub fub (by omega) (by omega)) (vGV q_467 q_468 q_469 q_27 q_470) ⟨by decide, by decide, (show _ = some 1 from by decide +kernel)⟩ ⟨Nat.le_of_ble_eq_true rfl, Nat.le_of_ble_eq_true rfl⟩ ix13 0 rfl rfl (hix13.trans (by rw [fu])) rfl (Nat.le_of_ble_eq_true rfl) dX3_write_13 ⟨Nat.le_of_ble_eq_true rfl, Nat.le_of_ble_eq_true rfl⟩ ?_
  refine vAloadN X dX3_write_16 0 rfl ?_
  obtain ⟨ix17, hix17⟩ := vp_ix (f := va_up (va_up f ub (.inl (k 0, 256, .inl (upd gu (c) (lb (v)))))) u (.inr (0, [.ref (ur), .int (nI ((c) + 1))]))) hu
  refine vCallVd X [] (cg_count l D k sb L (va_up (va_up f ub (.inl (k 0, 256, .inl (upd gu (c) (lb (v)))))) u (.inr (0, [.ref (ur), .int (nI ((c) + 1))]))) u ur ub ((c) + 1) (upd gu (c) (lb (v)))  hu (va_up_eq _ _ _) hur ((va_up_nq _ (ne_of fur fu (by simp))).trans ((va_up_nq _ (ne_of fur fub (by simp))).trans fur)) hub ((va_up_nq _ (ne_of fub fu (by simp))).trans (va_up_eq _ _ _)) (by omega) ) (vGV q_148 q_149 q_150 q_27 q_151) ⟨by decide, by decide, (show _ = some 0 from by decide +kernel)⟩ ⟨Nat.le_of_ble_eq_true rfl, Nat.le_of_ble_eq_true rfl⟩ ix17 0 rfl rfl (hix17.trans (by rw [(va_up_eq _ _ _)])) rfl (Nat.le_of_ble_eq_true rfl) dX3_write_17 ⟨Nat.le_of_ble_eq_true rfl, Nat.le_of_ble_eq_true rfl⟩ ?_
  exact vRetI X hret dX3_write_20 ⟨rfl, rfl⟩
set_option maxHeartbeats 4000000 in
set_option maxRecDepth 100000 in
theorem ct_write1 (l : Launch) (D : va_G) (k : Nat → ClassId) (sb : Nat) (L : List Nat) (f : Nat → va_E) (x aW aG aR tr tg : Nat) (gW gG gR : Nat → Option Nat) (v z : Int32) (hl : l.stackTraces = false) (hx : x ∈ L) (fx : f x = .inr (3, [.ref aW, .ref aG, .ref aR, .ref tr, .ref tg])) (haW : aW ∈ L) (faW : f aW = .inl (k 4, 4, .inr (.inr (.inr (.inr gW))))) (haG : aG ∈ L) (faG : f aG = .inl (k 2, 3, .inr (.inr (.inr (.inr gG))))) (haR : aR ∈ L) (faR : f aR = .inl (k 3, 3, .inr (.inr (.inr (.inr gR))))) (hv : ¬ vOther v) : vCtX l yX3_write cX3_write 4 (some .int) 9 131 1 6 D vCl (vTy k) sb [.ref (x), .int (v), .int (z)] (va_pl L f) "java/lang/IndexOutOfBoundsException" := by
  refine vOfX (by decide +kernel) (Nat.le_of_ble_eq_true rfl) (fun p9 e9 s9 m9 below9 meth9 c9 X hE hnt => ?_)
  refine vAloadN X dX3_write_0 0 rfl ?_
  refine vIloadN X dX3_write_1 1 rfl ?_
  obtain ⟨ix2, hix2⟩ := vp_ix (f := f) hx
  exact vCallVT X hE hnt [] (ct_gathererAt l D k sb L f x aW aG aR tr tg (gW) (gG) (gR) v hl hx fx haW faW haG faG haR faR hv) (vGV q_438 q_440 q_5 q_24 q_441) ⟨by decide, by decide, (show _ = some 1 from by decide +kernel)⟩ ⟨Nat.le_of_ble_eq_true rfl, Nat.le_of_ble_eq_true rfl⟩ ix2 3 rfl rfl (hix2.trans (by rw [fx])) rfl (Nat.le_of_ble_eq_true rfl) dX3_write_2 ⟨(Nat.le_of_ble_eq_true rfl), (Nat.le_of_ble_eq_true rfl)⟩ (Nat.le_of_ble_eq_true rfl) (Nat.le_of_ble_eq_true rfl)
set_option maxHeartbeats 4000000 in
set_option maxRecDepth 100000 in
theorem ct_write2 (l : Launch) (D : va_G) (k : Nat → ClassId) (sb : Nat) (L : List Nat) (f : Nat → va_E) (x aW aG aR tr tg : Nat) (gW gG gR : Nat → Option Nat) (y : Nat) (u ur ub c : Nat) (gu : Nat → Int32) (z : Int32) (hl : l.stackTraces = false) (hx : x ∈ L) (fx : f x = .inr (3, [.ref aW, .ref aG, .ref aR, .ref tr, .ref tg])) (haW : aW ∈ L) (faW : f aW = .inl (k 4, 4, .inr (.inr (.inr (.inr gW))))) (haG : aG ∈ L) (faG : f aG = .inl (k 2, 3, .inr (.inr (.inr (.inr gG))))) (haR : aR ∈ L) (faR : f aR = .inl (k 3, 3, .inr (.inr (.inr (.inr gR))))) (hy9 : y < 3) (eu : gG y = some u) (hu : u ∈ L) (fu : f u = .inr (0, [.ref ur, .int (nI c)])) (hur : ur ∈ L) (fur : f ur = .inr (2, [.ref ub])) (hub : ub ∈ L) (fub : f ub = .inl (k 0, 256, .inl gu)) (hc : c ≤ 256) (hm : 256 < c + 1) : vCtX l yX3_write cX3_write 4 (some .int) 9 131 1 6 D vCl (vTy k) sb [.ref (x), .int (nI (y)), .int (z)] (va_pl L f) "java/lang/IllegalStateException" := by
  refine vOfX (by decide +kernel) (Nat.le_of_ble_eq_true rfl) (fun p9 e9 s9 m9 below9 meth9 c9 X hE hnt => ?_)
  refine vAloadN X dX3_write_0 0 rfl ?_
  refine vIloadN X dX3_write_1 1 rfl ?_
  obtain ⟨ix2, hix2⟩ := vp_ix (f := f) hx
  refine vCallVd X [] (cb_gathererAt l D k sb L f x aW aG aR tr tg (gW) (gG) (gR) y u hx fx haW faW haG faG haR faR (by omega) eu) (vGV q_438 q_440 q_5 q_24 q_441) ⟨by decide, by decide, (show _ = some 1 from by decide +kernel)⟩ ⟨Nat.le_of_ble_eq_true rfl, Nat.le_of_ble_eq_true rfl⟩ ix2 3 rfl rfl (hix2.trans (by rw [fx])) rfl (Nat.le_of_ble_eq_true rfl) dX3_write_2 ⟨Nat.le_of_ble_eq_true rfl, Nat.le_of_ble_eq_true rfl⟩ ?_
  refine vAstoreN X [(3, .ref (u)), (0, .ref (x)), (1, .int (nI (y))), (2, .int (z))] dX3_write_5 (by decide) rfl ?_
  refine vAloadN X dX3_write_6 0 rfl ?_
  refine vIconst X dX3_write_7 (v := nI (1)) (by decide) ?_
  exact vCallST X hE hnt [] (ct_needRoom l D k sb L f u ur ub (c) (gu) (1) hl hu fu hur fur hub fub (by omega) (by omega) (by omega)) (vGS q_443 q_444 q_24 q_445) rfl ⟨by decide, by decide, (show _ = some 2 from by decide +kernel)⟩ ⟨Nat.le_of_ble_eq_true rfl, Nat.le_of_ble_eq_true rfl⟩ rfl (Nat.le_of_ble_eq_true rfl) dX3_write_8 ⟨(Nat.le_of_ble_eq_true rfl), (Nat.le_of_ble_eq_true rfl)⟩ (Nat.le_of_ble_eq_true rfl) (Nat.le_of_ble_eq_true rfl)
set_option maxHeartbeats 4000000 in
set_option maxRecDepth 100000 in
theorem cb_writePart (l : Launch) (D : va_G) (k : Nat → ClassId) (sb : Nat) (L : List Nat) (f : Nat → va_E) (x aW aG aR tr tg : Nat) (gW gG gR : Nat → Option Nat) (y : Nat) (u ur ub c : Nat) (gu : Nat → Int32) (r : Nat) (h b n : Nat) (g : Nat → Int32) (a m : Nat) (hx : x ∈ L) (fx : f x = .inr (3, [.ref aW, .ref aG, .ref aR, .ref tr, .ref tg])) (haW : aW ∈ L) (faW : f aW = .inl (k 4, 4, .inr (.inr (.inr (.inr gW))))) (haG : aG ∈ L) (faG : f aG = .inl (k 2, 3, .inr (.inr (.inr (.inr gG))))) (haR : aR ∈ L) (faR : f aR = .inl (k 3, 3, .inr (.inr (.inr (.inr gR))))) (hy9 : y < 3) (eu : gG y = some u) (hu : u ∈ L) (fu : f u = .inr (0, [.ref ur, .int (nI c)])) (hur : ur ∈ L) (fur : f ur = .inr (2, [.ref ub])) (hub : ub ∈ L) (fub : f ub = .inl (k 0, 256, .inl gu)) (hc : c ≤ 256) (hr9 : r < 4) (eh : gW r = some h) (hh : h ∈ L) (fh : f h = .inr (2, [.ref b])) (hb : b ∈ L) (fb : f b = .inl (k 0, n, .inl g)) (hn : n ≤ 256) (hp : a + m ≤ n) (hm : c + m ≤ 256) (hgf : ∀ j, lb (g j) = g j) : vCt l yX3_writePart cX3_writePart 7 (some .int) 10 152 0 0 D vCl (vTy k) sb [.ref (x), .int (nI (y)), .int (nI (r)), .int (nI (a)), .int (nI (m))] (va_pl L f) (vDet (some (.int (nI (c + m)))) (va_pl L (va_up (va_up f ub (.inl (k 0, 256, .inl (va_cpy g gu (a) (c) (m))))) u (.inr (0, [.ref (ur), .int (nI ((c) + (m)))]))))) := by
  refine vOf (by decide +kernel) (Nat.le_of_ble_eq_true rfl) (fun p9 e9 s9 m9 below9 meth9 c9 X hret hmn => ?_)
  refine vAloadN X dX3_writePart_0 0 rfl ?_
  refine vIloadN X dX3_writePart_1 1 rfl ?_
  obtain ⟨ix2, hix2⟩ := vp_ix (f := f) hx
  refine vCallVd X [] (cb_gathererAt l D k sb L f x aW aG aR tr tg (gW) (gG) (gR) y u hx fx haW faW haG faG haR faR (by omega) eu) (vGV q_438 q_440 q_5 q_24 q_441) ⟨by decide, by decide, (show _ = some 1 from by decide +kernel)⟩ ⟨Nat.le_of_ble_eq_true rfl, Nat.le_of_ble_eq_true rfl⟩ ix2 3 rfl rfl (hix2.trans (by rw [fx])) rfl (Nat.le_of_ble_eq_true rfl) dX3_writePart_2 ⟨Nat.le_of_ble_eq_true rfl, Nat.le_of_ble_eq_true rfl⟩ ?_
  refine vAstore X [(5, .ref (u)), (0, .ref (x)), (1, .int (nI (y))), (2, .int (nI (r))), (3, .int (nI (a))), (4, .int (nI (m)))] dX3_writePart_5 (by decide) rfl ?_
  refine vAloadN X dX3_writePart_7 1 rfl ?_
  refine vIloadN X dX3_writePart_8 3 rfl ?_
  obtain ⟨ix9, hix9⟩ := vp_ix (f := f) hx
  refine vCallVd X [] (cb_rowAt l D k sb L f x aW aG aR tr tg (gW) (gG) (gR) r h hx fx haW faW haG faG haR faR (by omega) eh) (vGV q_341 q_343 q_3 q_24 q_344) ⟨by decide, by decide, (show _ = some 1 from by decide +kernel)⟩ ⟨Nat.le_of_ble_eq_true rfl, Nat.le_of_ble_eq_true rfl⟩ ix9 3 rfl rfl (hix9.trans (by rw [fx])) rfl (Nat.le_of_ble_eq_true rfl) dX3_writePart_9 ⟨Nat.le_of_ble_eq_true rfl, Nat.le_of_ble_eq_true rfl⟩ ?_
  refine vAstore X [(6, .ref (h)), (5, .ref (u)), (0, .ref (x)), (1, .int (nI (y))), (2, .int (nI (r))), (3, .int (nI (a))), (4, .int (nI (m)))] dX3_writePart_12 (by decide) rfl ?_
  refine vAload X dX3_writePart_14 0 rfl ?_
  refine vIloadN X dX3_writePart_16 5 rfl ?_
  refine vIload X dX3_writePart_17 6 rfl ?_
  refine vCallSd X [] (cb_needPlaces l D k sb L f h b (n) (g) (a) (m) hh fh hb fb (by omega) (by omega)) (vGS q_399 q_400 q_24 q_401) rfl ⟨by decide, by decide, (show _ = some 3 from by decide +kernel)⟩ ⟨Nat.le_of_ble_eq_true rfl, Nat.le_of_ble_eq_true rfl⟩ rfl (Nat.le_of_ble_eq_true rfl) dX3_writePart_19 ⟨Nat.le_of_ble_eq_true rfl, Nat.le_of_ble_eq_true rfl⟩ ?_
  refine vAload X dX3_writePart_22 1 rfl ?_
  refine vIload X dX3_writePart_24 6 rfl ?_
  refine vCallSd X [] (cb_needRoom l D k sb L f u ur ub (c) (gu) (m) hu fu hur fur hub fub (by omega) (by omega)) (vGS q_443 q_444 q_24 q_445) rfl ⟨by decide, by decide, (show _ = some 2 from by decide +kernel)⟩ ⟨Nat.le_of_ble_eq_true rfl, Nat.le_of_ble_eq_true rfl⟩ rfl (Nat.le_of_ble_eq_true rfl) dX3_writePart_26 ⟨Nat.le_of_ble_eq_true rfl, Nat.le_of_ble_eq_true rfl⟩ ?_
  refine vAload X dX3_writePart_29 1 rfl ?_
  refine vAload X dX3_writePart_31 0 rfl ?_
  refine vIloadN X dX3_writePart_33 5 rfl ?_
  refine vIload X dX3_writePart_34 6 rfl ?_
  obtain ⟨ix36, hix36⟩ := vp_ix (f := f) hu
  refine vCallVd X [] (cg_gatherPart l D k sb L f u ur ub (c) (gu) h b (n) (g) (a) (m) hu fu hur fur hub fub (by omega) hh fh hb fb (by omega) (by omega) (by omega) hgf) (vGV q_479 q_247 q_248 q_27 q_249) ⟨by decide, by decide, (show _ = some 3 from by decide +kernel)⟩ ⟨Nat.le_of_ble_eq_true rfl, Nat.le_of_ble_eq_true rfl⟩ ix36 0 rfl rfl (hix36.trans (by rw [fu])) rfl (Nat.le_of_ble_eq_true rfl) dX3_writePart_36 ⟨Nat.le_of_ble_eq_true rfl, Nat.le_of_ble_eq_true rfl⟩ ?_
  refine vAload X dX3_writePart_39 1 rfl ?_
  obtain ⟨ix41, hix41⟩ := vp_ix (f := va_up (va_up f ub (.inl (k 0, 256, .inl (va_cpy g gu (a) (c) (m))))) u (.inr (0, [.ref (ur), .int (nI ((c) + (m)))]))) hu
  refine vCallVd X [] (cg_count l D k sb L (va_up (va_up f ub (.inl (k 0, 256, .inl (va_cpy g gu (a) (c) (m))))) u (.inr (0, [.ref (ur), .int (nI ((c) + (m)))]))) u ur ub ((c) + (m)) (va_cpy g gu (a) (c) (m))  hu (va_up_eq _ _ _) hur ((va_up_nq _ (ne_of fur fu (by simp))).trans ((va_up_nq _ (ne_of fur fub (by simp))).trans fur)) hub ((va_up_nq _ (ne_of fub fu (by simp))).trans (va_up_eq _ _ _)) (by omega) ) (vGV q_148 q_149 q_150 q_27 q_151) ⟨by decide, by decide, (show _ = some 0 from by decide +kernel)⟩ ⟨Nat.le_of_ble_eq_true rfl, Nat.le_of_ble_eq_true rfl⟩ ix41 0 rfl rfl (hix41.trans (by rw [(va_up_eq _ _ _)])) rfl (Nat.le_of_ble_eq_true rfl) dX3_writePart_41 ⟨Nat.le_of_ble_eq_true rfl, Nat.le_of_ble_eq_true rfl⟩ ?_
  exact vRetI X hret dX3_writePart_44 ⟨rfl, rfl⟩
set_option maxHeartbeats 4000000 in
set_option maxRecDepth 100000 in
theorem ct_writePart1 (l : Launch) (D : va_G) (k : Nat → ClassId) (sb : Nat) (L : List Nat) (f : Nat → va_E) (x aW aG aR tr tg : Nat) (gW gG gR : Nat → Option Nat) (v z y c : Int32) (hl : l.stackTraces = false) (hx : x ∈ L) (fx : f x = .inr (3, [.ref aW, .ref aG, .ref aR, .ref tr, .ref tg])) (haW : aW ∈ L) (faW : f aW = .inl (k 4, 4, .inr (.inr (.inr (.inr gW))))) (haG : aG ∈ L) (faG : f aG = .inl (k 2, 3, .inr (.inr (.inr (.inr gG))))) (haR : aR ∈ L) (faR : f aR = .inl (k 3, 3, .inr (.inr (.inr (.inr gR))))) (hv : ¬ vOther v) : vCtX l yX3_writePart cX3_writePart 7 (some .int) 10 152 1 6 D vCl (vTy k) sb [.ref (x), .int (v), .int (z), .int (y), .int (c)] (va_pl L f) "java/lang/IndexOutOfBoundsException" := by
  refine vOfX (by decide +kernel) (Nat.le_of_ble_eq_true rfl) (fun p9 e9 s9 m9 below9 meth9 c9 X hE hnt => ?_)
  refine vAloadN X dX3_writePart_0 0 rfl ?_
  refine vIloadN X dX3_writePart_1 1 rfl ?_
  obtain ⟨ix2, hix2⟩ := vp_ix (f := f) hx
  exact vCallVT X hE hnt [] (ct_gathererAt l D k sb L f x aW aG aR tr tg (gW) (gG) (gR) v hl hx fx haW faW haG faG haR faR hv) (vGV q_438 q_440 q_5 q_24 q_441) ⟨by decide, by decide, (show _ = some 1 from by decide +kernel)⟩ ⟨Nat.le_of_ble_eq_true rfl, Nat.le_of_ble_eq_true rfl⟩ ix2 3 rfl rfl (hix2.trans (by rw [fx])) rfl (Nat.le_of_ble_eq_true rfl) dX3_writePart_2 ⟨(Nat.le_of_ble_eq_true rfl), (Nat.le_of_ble_eq_true rfl)⟩ (Nat.le_of_ble_eq_true rfl) (Nat.le_of_ble_eq_true rfl)
set_option maxHeartbeats 4000000 in
set_option maxRecDepth 100000 in
theorem ct_writePart2 (l : Launch) (D : va_G) (k : Nat → ClassId) (sb : Nat) (L : List Nat) (f : Nat → va_E) (x aW aG aR tr tg : Nat) (gW gG gR : Nat → Option Nat) (y : Nat) (u ur ub c : Nat) (gu : Nat → Int32) (z d e : Int32) (hl : l.stackTraces = false) (hx : x ∈ L) (fx : f x = .inr (3, [.ref aW, .ref aG, .ref aR, .ref tr, .ref tg])) (haW : aW ∈ L) (faW : f aW = .inl (k 4, 4, .inr (.inr (.inr (.inr gW))))) (haG : aG ∈ L) (faG : f aG = .inl (k 2, 3, .inr (.inr (.inr (.inr gG))))) (haR : aR ∈ L) (faR : f aR = .inl (k 3, 3, .inr (.inr (.inr (.inr gR))))) (hy9 : y < 3) (eu : gG y = some u) (hu : u ∈ L) (fu : f u = .inr (0, [.ref ur, .int (nI c)])) (hur : ur ∈ L) (fur : f ur = .inr (2, [.ref ub])) (hub : ub ∈ L) (fub : f ub = .inl (k 0, 256, .inl gu)) (hc : c ≤ 256) (hz : ¬ vRow z) : vCtX l yX3_writePart cX3_writePart 7 (some .int) 10 152 1 6 D vCl (vTy k) sb [.ref (x), .int (nI (y)), .int (z), .int (d), .int (e)] (va_pl L f) "java/lang/IndexOutOfBoundsException" := by
  refine vOfX (by decide +kernel) (Nat.le_of_ble_eq_true rfl) (fun p9 e9 s9 m9 below9 meth9 c9 X hE hnt => ?_)
  refine vAloadN X dX3_writePart_0 0 rfl ?_
  refine vIloadN X dX3_writePart_1 1 rfl ?_
  obtain ⟨ix2, hix2⟩ := vp_ix (f := f) hx
  refine vCallVd X [] (cb_gathererAt l D k sb L f x aW aG aR tr tg (gW) (gG) (gR) y u hx fx haW faW haG faG haR faR (by omega) eu) (vGV q_438 q_440 q_5 q_24 q_441) ⟨by decide, by decide, (show _ = some 1 from by decide +kernel)⟩ ⟨Nat.le_of_ble_eq_true rfl, Nat.le_of_ble_eq_true rfl⟩ ix2 3 rfl rfl (hix2.trans (by rw [fx])) rfl (Nat.le_of_ble_eq_true rfl) dX3_writePart_2 ⟨Nat.le_of_ble_eq_true rfl, Nat.le_of_ble_eq_true rfl⟩ ?_
  refine vAstore X [(5, .ref (u)), (0, .ref (x)), (1, .int (nI (y))), (2, .int (z)), (3, .int (d)), (4, .int (e))] dX3_writePart_5 (by decide) rfl ?_
  refine vAloadN X dX3_writePart_7 1 rfl ?_
  refine vIloadN X dX3_writePart_8 3 rfl ?_
  obtain ⟨ix9, hix9⟩ := vp_ix (f := f) hx
  exact vCallVT X hE hnt [] (ct_rowAt l D k sb L f x aW aG aR tr tg (gW) (gG) (gR) z hl hx fx haW faW haG faG haR faR hz) (vGV q_341 q_343 q_3 q_24 q_344) ⟨by decide, by decide, (show _ = some 1 from by decide +kernel)⟩ ⟨Nat.le_of_ble_eq_true rfl, Nat.le_of_ble_eq_true rfl⟩ ix9 3 rfl rfl (hix9.trans (by rw [fx])) rfl (Nat.le_of_ble_eq_true rfl) dX3_writePart_9 ⟨(Nat.le_of_ble_eq_true rfl), (Nat.le_of_ble_eq_true rfl)⟩ (Nat.le_of_ble_eq_true rfl) (Nat.le_of_ble_eq_true rfl)
set_option maxHeartbeats 4000000 in
set_option maxRecDepth 100000 in
theorem ct_writePart3 (l : Launch) (D : va_G) (k : Nat → ClassId) (sb : Nat) (L : List Nat) (f : Nat → va_E) (x aW aG aR tr tg : Nat) (gW gG gR : Nat → Option Nat) (y : Nat) (u ur ub c : Nat) (gu : Nat → Int32) (r : Nat) (h b n : Nat) (g : Nat → Int32) (z d : Int32) (hl : l.stackTraces = false) (hx : x ∈ L) (fx : f x = .inr (3, [.ref aW, .ref aG, .ref aR, .ref tr, .ref tg])) (haW : aW ∈ L) (faW : f aW = .inl (k 4, 4, .inr (.inr (.inr (.inr gW))))) (haG : aG ∈ L) (faG : f aG = .inl (k 2, 3, .inr (.inr (.inr (.inr gG))))) (haR : aR ∈ L) (faR : f aR = .inl (k 3, 3, .inr (.inr (.inr (.inr gR))))) (hy9 : y < 3) (eu : gG y = some u) (hu : u ∈ L) (fu : f u = .inr (0, [.ref ur, .int (nI c)])) (hur : ur ∈ L) (fur : f ur = .inr (2, [.ref ub])) (hub : ub ∈ L) (fub : f ub = .inl (k 0, 256, .inl gu)) (hc : c ≤ 256) (hr9 : r < 4) (eh : gW r = some h) (hh : h ∈ L) (fh : f h = .inr (2, [.ref b])) (hb : b ∈ L) (fb : f b = .inl (k 0, n, .inl g)) (hn : n ≤ 256) (hpart : ¬ vPt n z d) : vCtX l yX3_writePart cX3_writePart 7 (some .int) 10 152 1 6 D vCl (vTy k) sb [.ref (x), .int (nI (y)), .int (nI (r)), .int (z), .int (d)] (va_pl L f) "java/lang/IndexOutOfBoundsException" := by
  refine vOfX (by decide +kernel) (Nat.le_of_ble_eq_true rfl) (fun p9 e9 s9 m9 below9 meth9 c9 X hE hnt => ?_)
  refine vAloadN X dX3_writePart_0 0 rfl ?_
  refine vIloadN X dX3_writePart_1 1 rfl ?_
  obtain ⟨ix2, hix2⟩ := vp_ix (f := f) hx
  refine vCallVd X [] (cb_gathererAt l D k sb L f x aW aG aR tr tg (gW) (gG) (gR) y u hx fx haW faW haG faG haR faR (by omega) eu) (vGV q_438 q_440 q_5 q_24 q_441) ⟨by decide, by decide, (show _ = some 1 from by decide +kernel)⟩ ⟨Nat.le_of_ble_eq_true rfl, Nat.le_of_ble_eq_true rfl⟩ ix2 3 rfl rfl (hix2.trans (by rw [fx])) rfl (Nat.le_of_ble_eq_true rfl) dX3_writePart_2 ⟨Nat.le_of_ble_eq_true rfl, Nat.le_of_ble_eq_true rfl⟩ ?_
  refine vAstore X [(5, .ref (u)), (0, .ref (x)), (1, .int (nI (y))), (2, .int (nI (r))), (3, .int (z)), (4, .int (d))] dX3_writePart_5 (by decide) rfl ?_
  refine vAloadN X dX3_writePart_7 1 rfl ?_
  refine vIloadN X dX3_writePart_8 3 rfl ?_
  obtain ⟨ix9, hix9⟩ := vp_ix (f := f) hx
  refine vCallVd X [] (cb_rowAt l D k sb L f x aW aG aR tr tg (gW) (gG) (gR) r h hx fx haW faW haG faG haR faR (by omega) eh) (vGV q_341 q_343 q_3 q_24 q_344) ⟨by decide, by decide, (show _ = some 1 from by decide +kernel)⟩ ⟨Nat.le_of_ble_eq_true rfl, Nat.le_of_ble_eq_true rfl⟩ ix9 3 rfl rfl (hix9.trans (by rw [fx])) rfl (Nat.le_of_ble_eq_true rfl) dX3_writePart_9 ⟨Nat.le_of_ble_eq_true rfl, Nat.le_of_ble_eq_true rfl⟩ ?_
  refine vAstore X [(6, .ref (h)), (5, .ref (u)), (0, .ref (x)), (1, .int (nI (y))), (2, .int (nI (r))), (3, .int (z)), (4, .int (d))] dX3_writePart_12 (by decide) rfl ?_
  refine vAload X dX3_writePart_14 0 rfl ?_
  refine vIloadN X dX3_writePart_16 5 rfl ?_
  refine vIload X dX3_writePart_17 6 rfl ?_
  exact vCallST X hE hnt [] (ct_needPlaces l D k sb L f h b (n) (g) (z) (d) hl hh fh hb fb (by omega) hpart) (vGS q_399 q_400 q_24 q_401) rfl ⟨by decide, by decide, (show _ = some 3 from by decide +kernel)⟩ ⟨Nat.le_of_ble_eq_true rfl, Nat.le_of_ble_eq_true rfl⟩ rfl (Nat.le_of_ble_eq_true rfl) dX3_writePart_19 ⟨(Nat.le_of_ble_eq_true rfl), (Nat.le_of_ble_eq_true rfl)⟩ (Nat.le_of_ble_eq_true rfl) (Nat.le_of_ble_eq_true rfl)
set_option maxHeartbeats 4000000 in
set_option maxRecDepth 100000 in
theorem ct_writePart4 (l : Launch) (D : va_G) (k : Nat → ClassId) (sb : Nat) (L : List Nat) (f : Nat → va_E) (x aW aG aR tr tg : Nat) (gW gG gR : Nat → Option Nat) (y : Nat) (u ur ub c : Nat) (gu : Nat → Int32) (r : Nat) (h b n : Nat) (g : Nat → Int32) (a m : Nat) (hl : l.stackTraces = false) (hx : x ∈ L) (fx : f x = .inr (3, [.ref aW, .ref aG, .ref aR, .ref tr, .ref tg])) (haW : aW ∈ L) (faW : f aW = .inl (k 4, 4, .inr (.inr (.inr (.inr gW))))) (haG : aG ∈ L) (faG : f aG = .inl (k 2, 3, .inr (.inr (.inr (.inr gG))))) (haR : aR ∈ L) (faR : f aR = .inl (k 3, 3, .inr (.inr (.inr (.inr gR))))) (hy9 : y < 3) (eu : gG y = some u) (hu : u ∈ L) (fu : f u = .inr (0, [.ref ur, .int (nI c)])) (hur : ur ∈ L) (fur : f ur = .inr (2, [.ref ub])) (hub : ub ∈ L) (fub : f ub = .inl (k 0, 256, .inl gu)) (hc : c ≤ 256) (hr9 : r < 4) (eh : gW r = some h) (hh : h ∈ L) (fh : f h = .inr (2, [.ref b])) (hb : b ∈ L) (fb : f b = .inl (k 0, n, .inl g)) (hn : n ≤ 256) (hp : a + m ≤ n) (hm : 256 < c + m) : vCtX l yX3_writePart cX3_writePart 7 (some .int) 10 152 1 6 D vCl (vTy k) sb [.ref (x), .int (nI (y)), .int (nI (r)), .int (nI (a)), .int (nI (m))] (va_pl L f) "java/lang/IllegalStateException" := by
  refine vOfX (by decide +kernel) (Nat.le_of_ble_eq_true rfl) (fun p9 e9 s9 m9 below9 meth9 c9 X hE hnt => ?_)
  refine vAloadN X dX3_writePart_0 0 rfl ?_
  refine vIloadN X dX3_writePart_1 1 rfl ?_
  obtain ⟨ix2, hix2⟩ := vp_ix (f := f) hx
  refine vCallVd X [] (cb_gathererAt l D k sb L f x aW aG aR tr tg (gW) (gG) (gR) y u hx fx haW faW haG faG haR faR (by omega) eu) (vGV q_438 q_440 q_5 q_24 q_441) ⟨by decide, by decide, (show _ = some 1 from by decide +kernel)⟩ ⟨Nat.le_of_ble_eq_true rfl, Nat.le_of_ble_eq_true rfl⟩ ix2 3 rfl rfl (hix2.trans (by rw [fx])) rfl (Nat.le_of_ble_eq_true rfl) dX3_writePart_2 ⟨Nat.le_of_ble_eq_true rfl, Nat.le_of_ble_eq_true rfl⟩ ?_
  refine vAstore X [(5, .ref (u)), (0, .ref (x)), (1, .int (nI (y))), (2, .int (nI (r))), (3, .int (nI (a))), (4, .int (nI (m)))] dX3_writePart_5 (by decide) rfl ?_
  refine vAloadN X dX3_writePart_7 1 rfl ?_
  refine vIloadN X dX3_writePart_8 3 rfl ?_
  obtain ⟨ix9, hix9⟩ := vp_ix (f := f) hx
  refine vCallVd X [] (cb_rowAt l D k sb L f x aW aG aR tr tg (gW) (gG) (gR) r h hx fx haW faW haG faG haR faR (by omega) eh) (vGV q_341 q_343 q_3 q_24 q_344) ⟨by decide, by decide, (show _ = some 1 from by decide +kernel)⟩ ⟨Nat.le_of_ble_eq_true rfl, Nat.le_of_ble_eq_true rfl⟩ ix9 3 rfl rfl (hix9.trans (by rw [fx])) rfl (Nat.le_of_ble_eq_true rfl) dX3_writePart_9 ⟨Nat.le_of_ble_eq_true rfl, Nat.le_of_ble_eq_true rfl⟩ ?_
  refine vAstore X [(6, .ref (h)), (5, .ref (u)), (0, .ref (x)), (1, .int (nI (y))), (2, .int (nI (r))), (3, .int (nI (a))), (4, .int (nI (m)))] dX3_writePart_12 (by decide) rfl ?_
  refine vAload X dX3_writePart_14 0 rfl ?_
  refine vIloadN X dX3_writePart_16 5 rfl ?_
  refine vIload X dX3_writePart_17 6 rfl ?_
  refine vCallSd X [] (cb_needPlaces l D k sb L f h b (n) (g) (a) (m) hh fh hb fb (by omega) (by omega)) (vGS q_399 q_400 q_24 q_401) rfl ⟨by decide, by decide, (show _ = some 3 from by decide +kernel)⟩ ⟨Nat.le_of_ble_eq_true rfl, Nat.le_of_ble_eq_true rfl⟩ rfl (Nat.le_of_ble_eq_true rfl) dX3_writePart_19 ⟨Nat.le_of_ble_eq_true rfl, Nat.le_of_ble_eq_true rfl⟩ ?_
  refine vAload X dX3_writePart_22 1 rfl ?_
  refine vIload X dX3_writePart_24 6 rfl ?_
  exact vCallST X hE hnt [] (ct_needRoom l D k sb L f u ur ub (c) (gu) (m) hl hu fu hur fur hub fub (by omega) (by omega) (by omega)) (vGS q_443 q_444 q_24 q_445) rfl ⟨by decide, by decide, (show _ = some 2 from by decide +kernel)⟩ ⟨Nat.le_of_ble_eq_true rfl, Nat.le_of_ble_eq_true rfl⟩ rfl (Nat.le_of_ble_eq_true rfl) dX3_writePart_26 ⟨(Nat.le_of_ble_eq_true rfl), (Nat.le_of_ble_eq_true rfl)⟩ (Nat.le_of_ble_eq_true rfl) (Nat.le_of_ble_eq_true rfl)
set_option maxHeartbeats 4000000 in
set_option maxRecDepth 100000 in
theorem cb_writeRow (l : Launch) (D : va_G) (k : Nat → ClassId) (sb : Nat) (L : List Nat) (f : Nat → va_E) (x aW aG aR tr tg : Nat) (gW gG gR : Nat → Option Nat) (y : Nat) (u ur ub c : Nat) (gu : Nat → Int32) (r : Nat) (h b n : Nat) (g : Nat → Int32) (hx : x ∈ L) (fx : f x = .inr (3, [.ref aW, .ref aG, .ref aR, .ref tr, .ref tg])) (haW : aW ∈ L) (faW : f aW = .inl (k 4, 4, .inr (.inr (.inr (.inr gW))))) (haG : aG ∈ L) (faG : f aG = .inl (k 2, 3, .inr (.inr (.inr (.inr gG))))) (haR : aR ∈ L) (faR : f aR = .inl (k 3, 3, .inr (.inr (.inr (.inr gR))))) (hy9 : y < 3) (eu : gG y = some u) (hu : u ∈ L) (fu : f u = .inr (0, [.ref ur, .int (nI c)])) (hur : ur ∈ L) (fur : f ur = .inr (2, [.ref ub])) (hub : ub ∈ L) (fub : f ub = .inl (k 0, 256, .inl gu)) (hc : c ≤ 256) (hr9 : r < 4) (eh : gW r = some h) (hh : h ∈ L) (fh : f h = .inr (2, [.ref b])) (hb : b ∈ L) (fb : f b = .inl (k 0, n, .inl g)) (hn : n ≤ 256) (hm : c + n ≤ 256) (hgf : ∀ j, lb (g j) = g j) : vCt l yX3_writeRow cX3_writeRow 5 (some .int) 10 152 0 0 D vCl (vTy k) sb [.ref (x), .int (nI (y)), .int (nI (r))] (va_pl L f) (vDet (some (.int (nI (c + n)))) (va_pl L (va_up (va_up f ub (.inl (k 0, 256, .inl (va_cpy g gu (0) (c) (n))))) u (.inr (0, [.ref (ur), .int (nI ((c) + (n)))]))))) := by
  refine vOf (by decide +kernel) (Nat.le_of_ble_eq_true rfl) (fun p9 e9 s9 m9 below9 meth9 c9 X hret hmn => ?_)
  refine vAloadN X dX3_writeRow_0 0 rfl ?_
  refine vIloadN X dX3_writeRow_1 1 rfl ?_
  obtain ⟨ix2, hix2⟩ := vp_ix (f := f) hx
  refine vCallVd X [] (cb_gathererAt l D k sb L f x aW aG aR tr tg (gW) (gG) (gR) y u hx fx haW faW haG faG haR faR (by omega) eu) (vGV q_438 q_440 q_5 q_24 q_441) ⟨by decide, by decide, (show _ = some 1 from by decide +kernel)⟩ ⟨Nat.le_of_ble_eq_true rfl, Nat.le_of_ble_eq_true rfl⟩ ix2 3 rfl rfl (hix2.trans (by rw [fx])) rfl (Nat.le_of_ble_eq_true rfl) dX3_writeRow_2 ⟨Nat.le_of_ble_eq_true rfl, Nat.le_of_ble_eq_true rfl⟩ ?_
  refine vAstoreN X [(3, .ref (u)), (0, .ref (x)), (1, .int (nI (y))), (2, .int (nI (r)))] dX3_writeRow_5 (by decide) rfl ?_
  refine vAloadN X dX3_writeRow_6 1 rfl ?_
  refine vIloadN X dX3_writeRow_7 3 rfl ?_
  obtain ⟨ix8, hix8⟩ := vp_ix (f := f) hx
  refine vCallVd X [] (cb_rowAt l D k sb L f x aW aG aR tr tg (gW) (gG) (gR) r h hx fx haW faW haG faG haR faR (by omega) eh) (vGV q_341 q_343 q_3 q_24 q_344) ⟨by decide, by decide, (show _ = some 1 from by decide +kernel)⟩ ⟨Nat.le_of_ble_eq_true rfl, Nat.le_of_ble_eq_true rfl⟩ ix8 3 rfl rfl (hix8.trans (by rw [fx])) rfl (Nat.le_of_ble_eq_true rfl) dX3_writeRow_8 ⟨Nat.le_of_ble_eq_true rfl, Nat.le_of_ble_eq_true rfl⟩ ?_
  refine vAstore X [(4, .ref (h)), (3, .ref (u)), (0, .ref (x)), (1, .int (nI (y))), (2, .int (nI (r)))] dX3_writeRow_11 (by decide) rfl ?_
  refine vAloadN X dX3_writeRow_13 1 rfl ?_
  refine vAload X dX3_writeRow_14 0 rfl ?_
  obtain ⟨ix16, hix16⟩ := vp_ix (f := f) hh
  refine vCallVd X [.ref (u)] (cr_count l D k sb L f h b (n) (g)  hh fh hb fb (by omega) ) (vGV q_131 q_132 q_133 q_25 q_134) ⟨by decide, by decide, (show _ = some 0 from by decide +kernel)⟩ ⟨Nat.le_of_ble_eq_true rfl, Nat.le_of_ble_eq_true rfl⟩ ix16 2 rfl rfl (hix16.trans (by rw [fh])) rfl (Nat.le_of_ble_eq_true rfl) dX3_writeRow_16 ⟨Nat.le_of_ble_eq_true rfl, Nat.le_of_ble_eq_true rfl⟩ ?_
  refine vCallSd X [] (cb_needRoom l D k sb L f u ur ub (c) (gu) (n) hu fu hur fur hub fub (by omega) (by omega)) (vGS q_443 q_444 q_24 q_445) rfl ⟨by decide, by decide, (show _ = some 2 from by decide +kernel)⟩ ⟨Nat.le_of_ble_eq_true rfl, Nat.le_of_ble_eq_true rfl⟩ rfl (Nat.le_of_ble_eq_true rfl) dX3_writeRow_19 ⟨Nat.le_of_ble_eq_true rfl, Nat.le_of_ble_eq_true rfl⟩ ?_
  refine vAloadN X dX3_writeRow_22 1 rfl ?_
  refine vAload X dX3_writeRow_23 0 rfl ?_
  refine vIconst X dX3_writeRow_25 (v := nI (0)) (by decide) ?_
  refine vAload X dX3_writeRow_26 0 rfl ?_
  obtain ⟨ix28, hix28⟩ := vp_ix (f := f) hh
  refine vCallVd X [.int (nI (0)), .ref (h), .ref (u)] (cr_count l D k sb L f h b (n) (g)  hh fh hb fb (by omega) ) (vGV q_131 q_132 q_133 q_25 q_134) ⟨by decide, by decide, (show _ = some 0 from by decide +kernel)⟩ ⟨Nat.le_of_ble_eq_true rfl, Nat.le_of_ble_eq_true rfl⟩ ix28 2 rfl rfl (hix28.trans (by rw [fh])) rfl (Nat.le_of_ble_eq_true rfl) dX3_writeRow_28 ⟨Nat.le_of_ble_eq_true rfl, Nat.le_of_ble_eq_true rfl⟩ ?_
  obtain ⟨ix31, hix31⟩ := vp_ix (f := f) hu
  refine vCallVd X [] (cg_gatherPart l D k sb L f u ur ub (c) (gu) h b (n) (g) (0) (n) hu fu hur fur hub fub (by omega) hh fh hb fb (by omega) (by omega) (by omega) hgf) (vGV q_479 q_247 q_248 q_27 q_249) ⟨by decide, by decide, (show _ = some 3 from by decide +kernel)⟩ ⟨Nat.le_of_ble_eq_true rfl, Nat.le_of_ble_eq_true rfl⟩ ix31 0 rfl rfl (hix31.trans (by rw [fu])) rfl (Nat.le_of_ble_eq_true rfl) dX3_writeRow_31 ⟨Nat.le_of_ble_eq_true rfl, Nat.le_of_ble_eq_true rfl⟩ ?_
  refine vAloadN X dX3_writeRow_34 1 rfl ?_
  obtain ⟨ix35, hix35⟩ := vp_ix (f := va_up (va_up f ub (.inl (k 0, 256, .inl (va_cpy g gu (0) (c) (n))))) u (.inr (0, [.ref (ur), .int (nI ((c) + (n)))]))) hu
  refine vCallVd X [] (cg_count l D k sb L (va_up (va_up f ub (.inl (k 0, 256, .inl (va_cpy g gu (0) (c) (n))))) u (.inr (0, [.ref (ur), .int (nI ((c) + (n)))]))) u ur ub ((c) + (n)) (va_cpy g gu (0) (c) (n))  hu (va_up_eq _ _ _) hur ((va_up_nq _ (ne_of fur fu (by simp))).trans ((va_up_nq _ (ne_of fur fub (by simp))).trans fur)) hub ((va_up_nq _ (ne_of fub fu (by simp))).trans (va_up_eq _ _ _)) (by omega) ) (vGV q_148 q_149 q_150 q_27 q_151) ⟨by decide, by decide, (show _ = some 0 from by decide +kernel)⟩ ⟨Nat.le_of_ble_eq_true rfl, Nat.le_of_ble_eq_true rfl⟩ ix35 0 rfl rfl (hix35.trans (by rw [(va_up_eq _ _ _)])) rfl (Nat.le_of_ble_eq_true rfl) dX3_writeRow_35 ⟨Nat.le_of_ble_eq_true rfl, Nat.le_of_ble_eq_true rfl⟩ ?_
  exact vRetI X hret dX3_writeRow_38 ⟨rfl, rfl⟩
set_option maxHeartbeats 4000000 in
set_option maxRecDepth 100000 in
theorem ct_writeRow1 (l : Launch) (D : va_G) (k : Nat → ClassId) (sb : Nat) (L : List Nat) (f : Nat → va_E) (x aW aG aR tr tg : Nat) (gW gG gR : Nat → Option Nat) (v z : Int32) (hl : l.stackTraces = false) (hx : x ∈ L) (fx : f x = .inr (3, [.ref aW, .ref aG, .ref aR, .ref tr, .ref tg])) (haW : aW ∈ L) (faW : f aW = .inl (k 4, 4, .inr (.inr (.inr (.inr gW))))) (haG : aG ∈ L) (faG : f aG = .inl (k 2, 3, .inr (.inr (.inr (.inr gG))))) (haR : aR ∈ L) (faR : f aR = .inl (k 3, 3, .inr (.inr (.inr (.inr gR))))) (hv : ¬ vOther v) : vCtX l yX3_writeRow cX3_writeRow 5 (some .int) 10 152 1 6 D vCl (vTy k) sb [.ref (x), .int (v), .int (z)] (va_pl L f) "java/lang/IndexOutOfBoundsException" := by
  refine vOfX (by decide +kernel) (Nat.le_of_ble_eq_true rfl) (fun p9 e9 s9 m9 below9 meth9 c9 X hE hnt => ?_)
  refine vAloadN X dX3_writeRow_0 0 rfl ?_
  refine vIloadN X dX3_writeRow_1 1 rfl ?_
  obtain ⟨ix2, hix2⟩ := vp_ix (f := f) hx
  exact vCallVT X hE hnt [] (ct_gathererAt l D k sb L f x aW aG aR tr tg (gW) (gG) (gR) v hl hx fx haW faW haG faG haR faR hv) (vGV q_438 q_440 q_5 q_24 q_441) ⟨by decide, by decide, (show _ = some 1 from by decide +kernel)⟩ ⟨Nat.le_of_ble_eq_true rfl, Nat.le_of_ble_eq_true rfl⟩ ix2 3 rfl rfl (hix2.trans (by rw [fx])) rfl (Nat.le_of_ble_eq_true rfl) dX3_writeRow_2 ⟨(Nat.le_of_ble_eq_true rfl), (Nat.le_of_ble_eq_true rfl)⟩ (Nat.le_of_ble_eq_true rfl) (Nat.le_of_ble_eq_true rfl)
set_option maxHeartbeats 4000000 in
set_option maxRecDepth 100000 in
theorem ct_writeRow2 (l : Launch) (D : va_G) (k : Nat → ClassId) (sb : Nat) (L : List Nat) (f : Nat → va_E) (x aW aG aR tr tg : Nat) (gW gG gR : Nat → Option Nat) (y : Nat) (u ur ub c : Nat) (gu : Nat → Int32) (z : Int32) (hl : l.stackTraces = false) (hx : x ∈ L) (fx : f x = .inr (3, [.ref aW, .ref aG, .ref aR, .ref tr, .ref tg])) (haW : aW ∈ L) (faW : f aW = .inl (k 4, 4, .inr (.inr (.inr (.inr gW))))) (haG : aG ∈ L) (faG : f aG = .inl (k 2, 3, .inr (.inr (.inr (.inr gG))))) (haR : aR ∈ L) (faR : f aR = .inl (k 3, 3, .inr (.inr (.inr (.inr gR))))) (hy9 : y < 3) (eu : gG y = some u) (hu : u ∈ L) (fu : f u = .inr (0, [.ref ur, .int (nI c)])) (hur : ur ∈ L) (fur : f ur = .inr (2, [.ref ub])) (hub : ub ∈ L) (fub : f ub = .inl (k 0, 256, .inl gu)) (hc : c ≤ 256) (hz : ¬ vRow z) : vCtX l yX3_writeRow cX3_writeRow 5 (some .int) 10 152 1 6 D vCl (vTy k) sb [.ref (x), .int (nI (y)), .int (z)] (va_pl L f) "java/lang/IndexOutOfBoundsException" := by
  refine vOfX (by decide +kernel) (Nat.le_of_ble_eq_true rfl) (fun p9 e9 s9 m9 below9 meth9 c9 X hE hnt => ?_)
  refine vAloadN X dX3_writeRow_0 0 rfl ?_
  refine vIloadN X dX3_writeRow_1 1 rfl ?_
  obtain ⟨ix2, hix2⟩ := vp_ix (f := f) hx
  refine vCallVd X [] (cb_gathererAt l D k sb L f x aW aG aR tr tg (gW) (gG) (gR) y u hx fx haW faW haG faG haR faR (by omega) eu) (vGV q_438 q_440 q_5 q_24 q_441) ⟨by decide, by decide, (show _ = some 1 from by decide +kernel)⟩ ⟨Nat.le_of_ble_eq_true rfl, Nat.le_of_ble_eq_true rfl⟩ ix2 3 rfl rfl (hix2.trans (by rw [fx])) rfl (Nat.le_of_ble_eq_true rfl) dX3_writeRow_2 ⟨Nat.le_of_ble_eq_true rfl, Nat.le_of_ble_eq_true rfl⟩ ?_
  refine vAstoreN X [(3, .ref (u)), (0, .ref (x)), (1, .int (nI (y))), (2, .int (z))] dX3_writeRow_5 (by decide) rfl ?_
  refine vAloadN X dX3_writeRow_6 1 rfl ?_
  refine vIloadN X dX3_writeRow_7 3 rfl ?_
  obtain ⟨ix8, hix8⟩ := vp_ix (f := f) hx
  exact vCallVT X hE hnt [] (ct_rowAt l D k sb L f x aW aG aR tr tg (gW) (gG) (gR) z hl hx fx haW faW haG faG haR faR hz) (vGV q_341 q_343 q_3 q_24 q_344) ⟨by decide, by decide, (show _ = some 1 from by decide +kernel)⟩ ⟨Nat.le_of_ble_eq_true rfl, Nat.le_of_ble_eq_true rfl⟩ ix8 3 rfl rfl (hix8.trans (by rw [fx])) rfl (Nat.le_of_ble_eq_true rfl) dX3_writeRow_8 ⟨(Nat.le_of_ble_eq_true rfl), (Nat.le_of_ble_eq_true rfl)⟩ (Nat.le_of_ble_eq_true rfl) (Nat.le_of_ble_eq_true rfl)
set_option maxHeartbeats 4000000 in
set_option maxRecDepth 100000 in
theorem ct_writeRow3 (l : Launch) (D : va_G) (k : Nat → ClassId) (sb : Nat) (L : List Nat) (f : Nat → va_E) (x aW aG aR tr tg : Nat) (gW gG gR : Nat → Option Nat) (y : Nat) (u ur ub c : Nat) (gu : Nat → Int32) (r : Nat) (h b n : Nat) (g : Nat → Int32) (hl : l.stackTraces = false) (hx : x ∈ L) (fx : f x = .inr (3, [.ref aW, .ref aG, .ref aR, .ref tr, .ref tg])) (haW : aW ∈ L) (faW : f aW = .inl (k 4, 4, .inr (.inr (.inr (.inr gW))))) (haG : aG ∈ L) (faG : f aG = .inl (k 2, 3, .inr (.inr (.inr (.inr gG))))) (haR : aR ∈ L) (faR : f aR = .inl (k 3, 3, .inr (.inr (.inr (.inr gR))))) (hy9 : y < 3) (eu : gG y = some u) (hu : u ∈ L) (fu : f u = .inr (0, [.ref ur, .int (nI c)])) (hur : ur ∈ L) (fur : f ur = .inr (2, [.ref ub])) (hub : ub ∈ L) (fub : f ub = .inl (k 0, 256, .inl gu)) (hc : c ≤ 256) (hr9 : r < 4) (eh : gW r = some h) (hh : h ∈ L) (fh : f h = .inr (2, [.ref b])) (hb : b ∈ L) (fb : f b = .inl (k 0, n, .inl g)) (hn : n ≤ 256) (hm : 256 < c + n) : vCtX l yX3_writeRow cX3_writeRow 5 (some .int) 10 152 1 6 D vCl (vTy k) sb [.ref (x), .int (nI (y)), .int (nI (r))] (va_pl L f) "java/lang/IllegalStateException" := by
  refine vOfX (by decide +kernel) (Nat.le_of_ble_eq_true rfl) (fun p9 e9 s9 m9 below9 meth9 c9 X hE hnt => ?_)
  refine vAloadN X dX3_writeRow_0 0 rfl ?_
  refine vIloadN X dX3_writeRow_1 1 rfl ?_
  obtain ⟨ix2, hix2⟩ := vp_ix (f := f) hx
  refine vCallVd X [] (cb_gathererAt l D k sb L f x aW aG aR tr tg (gW) (gG) (gR) y u hx fx haW faW haG faG haR faR (by omega) eu) (vGV q_438 q_440 q_5 q_24 q_441) ⟨by decide, by decide, (show _ = some 1 from by decide +kernel)⟩ ⟨Nat.le_of_ble_eq_true rfl, Nat.le_of_ble_eq_true rfl⟩ ix2 3 rfl rfl (hix2.trans (by rw [fx])) rfl (Nat.le_of_ble_eq_true rfl) dX3_writeRow_2 ⟨Nat.le_of_ble_eq_true rfl, Nat.le_of_ble_eq_true rfl⟩ ?_
  refine vAstoreN X [(3, .ref (u)), (0, .ref (x)), (1, .int (nI (y))), (2, .int (nI (r)))] dX3_writeRow_5 (by decide) rfl ?_
  refine vAloadN X dX3_writeRow_6 1 rfl ?_
  refine vIloadN X dX3_writeRow_7 3 rfl ?_
  obtain ⟨ix8, hix8⟩ := vp_ix (f := f) hx
  refine vCallVd X [] (cb_rowAt l D k sb L f x aW aG aR tr tg (gW) (gG) (gR) r h hx fx haW faW haG faG haR faR (by omega) eh) (vGV q_341 q_343 q_3 q_24 q_344) ⟨by decide, by decide, (show _ = some 1 from by decide +kernel)⟩ ⟨Nat.le_of_ble_eq_true rfl, Nat.le_of_ble_eq_true rfl⟩ ix8 3 rfl rfl (hix8.trans (by rw [fx])) rfl (Nat.le_of_ble_eq_true rfl) dX3_writeRow_8 ⟨Nat.le_of_ble_eq_true rfl, Nat.le_of_ble_eq_true rfl⟩ ?_
  refine vAstore X [(4, .ref (h)), (3, .ref (u)), (0, .ref (x)), (1, .int (nI (y))), (2, .int (nI (r)))] dX3_writeRow_11 (by decide) rfl ?_
  refine vAloadN X dX3_writeRow_13 1 rfl ?_
  refine vAload X dX3_writeRow_14 0 rfl ?_
  obtain ⟨ix16, hix16⟩ := vp_ix (f := f) hh
  refine vCallVd X [.ref (u)] (cr_count l D k sb L f h b (n) (g)  hh fh hb fb (by omega) ) (vGV q_131 q_132 q_133 q_25 q_134) ⟨by decide, by decide, (show _ = some 0 from by decide +kernel)⟩ ⟨Nat.le_of_ble_eq_true rfl, Nat.le_of_ble_eq_true rfl⟩ ix16 2 rfl rfl (hix16.trans (by rw [fh])) rfl (Nat.le_of_ble_eq_true rfl) dX3_writeRow_16 ⟨Nat.le_of_ble_eq_true rfl, Nat.le_of_ble_eq_true rfl⟩ ?_
  exact vCallST X hE hnt [] (ct_needRoom l D k sb L f u ur ub (c) (gu) (n) hl hu fu hur fur hub fub (by omega) (by omega) (by omega)) (vGS q_443 q_444 q_24 q_445) rfl ⟨by decide, by decide, (show _ = some 2 from by decide +kernel)⟩ ⟨Nat.le_of_ble_eq_true rfl, Nat.le_of_ble_eq_true rfl⟩ rfl (Nat.le_of_ble_eq_true rfl) dX3_writeRow_19 ⟨(Nat.le_of_ble_eq_true rfl), (Nat.le_of_ble_eq_true rfl)⟩ (Nat.le_of_ble_eq_true rfl) (Nat.le_of_ble_eq_true rfl)
set_option maxHeartbeats 4000000 in
set_option maxRecDepth 100000 in
theorem cb_writeNumber (l : Launch) (D : va_G) (k : Nat → ClassId) (sb : Nat) (L : List Nat) (f : Nat → va_E) (x aW aG aR tr tg : Nat) (gW gG gR : Nat → Option Nat) (y : Nat) (u ur ub c : Nat) (gu : Nat → Int32) (v : Int32) (hx : x ∈ L) (fx : f x = .inr (3, [.ref aW, .ref aG, .ref aR, .ref tr, .ref tg])) (haW : aW ∈ L) (faW : f aW = .inl (k 4, 4, .inr (.inr (.inr (.inr gW))))) (haG : aG ∈ L) (faG : f aG = .inl (k 2, 3, .inr (.inr (.inr (.inr gG))))) (haR : aR ∈ L) (faR : f aR = .inl (k 3, 3, .inr (.inr (.inr (.inr gR))))) (hy9 : y < 3) (eu : gG y = some u) (hu : u ∈ L) (fu : f u = .inr (0, [.ref ur, .int (nI c)])) (hur : ur ∈ L) (fur : f ur = .inr (2, [.ref ub])) (hub : ub ∈ L) (fub : f ub = .inl (k 0, 256, .inl gu)) (hc : c ≤ 256) (hm : c + 4 ≤ 256) : vCt l yX3_writeNumber cX3_writeNumber 5 (some .int) 9 131 0 0 D vCl (vTy k) sb [.ref (x), .int (nI (y)), .int (v)] (va_pl L f) (vDet (some (.int (nI (c + 1 + 1 + 1 + 1)))) (va_pl L (va_up (va_up f ub (.inl (k 0, 256, .inl (upd (upd (upd (upd gu (c) (lb ((v) >>> ((nI (24)) &&& 31)))) ((c) + 1) (lb ((v) >>> ((nI (16)) &&& 31)))) (((c) + 1) + 1) (lb ((v) >>> ((nI (8)) &&& 31)))) ((((c) + 1) + 1) + 1) (lb ((v) >>> ((nI (0)) &&& 31))))))) u (.inr (0, [.ref (ur), .int (nI (((((c) + 1) + 1) + 1) + 1))]))))) := by
  refine vOf (by decide +kernel) (Nat.le_of_ble_eq_true rfl) (fun p9 e9 s9 m9 below9 meth9 c9 X hret hmn => ?_)
  refine vAloadN X dX3_writeNumber_0 0 rfl ?_
  refine vIloadN X dX3_writeNumber_1 1 rfl ?_
  obtain ⟨ix2, hix2⟩ := vp_ix (f := f) hx
  refine vCallVd X [] (cb_gathererAt l D k sb L f x aW aG aR tr tg (gW) (gG) (gR) y u hx fx haW faW haG faG haR faR (by omega) eu) (vGV q_438 q_440 q_5 q_24 q_441) ⟨by decide, by decide, (show _ = some 1 from by decide +kernel)⟩ ⟨Nat.le_of_ble_eq_true rfl, Nat.le_of_ble_eq_true rfl⟩ ix2 3 rfl rfl (hix2.trans (by rw [fx])) rfl (Nat.le_of_ble_eq_true rfl) dX3_writeNumber_2 ⟨Nat.le_of_ble_eq_true rfl, Nat.le_of_ble_eq_true rfl⟩ ?_
  refine vAstoreN X [(3, .ref (u)), (0, .ref (x)), (1, .int (nI (y))), (2, .int (v))] dX3_writeNumber_5 (by decide) rfl ?_
  refine vAloadN X dX3_writeNumber_6 0 rfl ?_
  refine vIconst X dX3_writeNumber_7 (v := nI (4)) (by decide) ?_
  refine vCallSd X [] (cb_needRoom l D k sb L f u ur ub (c) (gu) (4) hu fu hur fur hub fub (by omega) (by omega)) (vGS q_443 q_444 q_24 q_445) rfl ⟨by decide, by decide, (show _ = some 2 from by decide +kernel)⟩ ⟨Nat.le_of_ble_eq_true rfl, Nat.le_of_ble_eq_true rfl⟩ rfl (Nat.le_of_ble_eq_true rfl) dX3_writeNumber_8 ⟨Nat.le_of_ble_eq_true rfl, Nat.le_of_ble_eq_true rfl⟩ ?_
  refine vBipush X dX3_writeNumber_11 (v := nI (24)) (by decide) ?_
  refine vIstore X [(4, .int (nI (24))), (3, .ref (u)), (0, .ref (x)), (1, .int (nI (y))), (2, .int (v))] dX3_writeNumber_13 (by decide) rfl ?_
  refine vIload X dX3_writeNumber_15 0 rfl ?_
  refine vIfN_ltF X 34 dX3_writeNumber_17 (by decide) (by omega) (by omega) ?_
  refine vAloadN X dX3_writeNumber_20 1 rfl ?_
  refine vIloadN X dX3_writeNumber_21 4 rfl ?_
  refine vIload X dX3_writeNumber_22 0 rfl ?_
  refine vIshr X dX3_writeNumber_24 (v := (v) >>> ((nI (24)) &&& 31)) rfl ?_
  obtain ⟨ix25, hix25⟩ := vp_ix (f := f) hu
  refine vCallVd X [] (cg_gather l D k sb L f u ur ub (c) (gu) ((v) >>> ((nI (24)) &&& 31)) hu fu hur fur hub fub (by omega) (by omega)) (vGV q_467 q_468 q_469 q_27 q_470) ⟨by decide, by decide, (show _ = some 1 from by decide +kernel)⟩ ⟨Nat.le_of_ble_eq_true rfl, Nat.le_of_ble_eq_true rfl⟩ ix25 0 rfl rfl (hix25.trans (by rw [fu])) rfl (Nat.le_of_ble_eq_true rfl) dX3_writeNumber_25 ⟨Nat.le_of_ble_eq_true rfl, Nat.le_of_ble_eq_true rfl⟩ ?_
  refine vIinc X [(4, .int (nI (16))), (3, .ref (u)), (0, .ref (x)), (1, .int (nI (y))), (2, .int (v))] dX3_writeNumber_28 0 rfl (by decide) (by decide) rfl ?_
  refine vGoto X 15 dX3_writeNumber_31 (by decide) ?_
  refine vIload X dX3_writeNumber_15 0 rfl ?_
  refine vIfN_ltF X 34 dX3_writeNumber_17 (by decide) (by omega) (by omega) ?_
  refine vAloadN X dX3_writeNumber_20 1 rfl ?_
  refine vIloadN X dX3_writeNumber_21 4 rfl ?_
  refine vIload X dX3_writeNumber_22 0 rfl ?_
  refine vIshr X dX3_writeNumber_24 (v := (v) >>> ((nI (16)) &&& 31)) rfl ?_
  obtain ⟨ix25, hix25⟩ := vp_ix (f := va_up (va_up f ub (.inl (k 0, 256, .inl (upd gu (c) (lb ((v) >>> ((nI (24)) &&& 31))))))) u (.inr (0, [.ref (ur), .int (nI ((c) + 1))]))) hu
  refine vCallVd X [] (cg_gather l D k sb L (va_up (va_up f ub (.inl (k 0, 256, .inl (upd gu (c) (lb ((v) >>> ((nI (24)) &&& 31))))))) u (.inr (0, [.ref (ur), .int (nI ((c) + 1))]))) u ur ub ((c) + 1) (upd gu (c) (lb ((v) >>> ((nI (24)) &&& 31)))) ((v) >>> ((nI (16)) &&& 31)) hu (va_up_eq _ _ _) hur ((va_up_nq _ (ne_of fur fu (by simp))).trans ((va_up_nq _ (ne_of fur fub (by simp))).trans fur)) hub ((va_up_nq _ (ne_of fub fu (by simp))).trans (va_up_eq _ _ _)) (by omega) (by omega)) (vGV q_467 q_468 q_469 q_27 q_470) ⟨by decide, by decide, (show _ = some 1 from by decide +kernel)⟩ ⟨Nat.le_of_ble_eq_true rfl, Nat.le_of_ble_eq_true rfl⟩ ix25 0 rfl rfl (hix25.trans (by rw [(va_up_eq _ _ _)])) rfl (Nat.le_of_ble_eq_true rfl) dX3_writeNumber_25 ⟨Nat.le_of_ble_eq_true rfl, Nat.le_of_ble_eq_true rfl⟩ ?_
  refine vWs (ws' := va_pl L (va_up (va_up (va_up f u (.inr (0, [.ref (ur), .int (nI ((c) + 1))]))) ub (.inl (k 0, 256, .inl (upd (upd gu (c) (lb ((v) >>> ((nI (24)) &&& 31)))) ((c) + 1) (lb ((v) >>> ((nI (16)) &&& 31))))))) u (.inr (0, [.ref (ur), .int (nI (((c) + 1) + 1))])))) (congrArg (fun φ9 => va_pl L (va_up φ9 u (.inr (0, [.ref (ur), .int (nI (((c) + 1) + 1))])))) va_up_sh) ?_
  refine vWs (ws' := va_pl L (va_up (va_up f ub (.inl (k 0, 256, .inl (upd (upd gu (c) (lb ((v) >>> ((nI (24)) &&& 31)))) ((c) + 1) (lb ((v) >>> ((nI (16)) &&& 31))))))) u (.inr (0, [.ref (ur), .int (nI (((c) + 1) + 1))])))) (congrArg (fun φ9 => va_pl L (φ9)) va_up_sh) ?_
  refine vIinc X [(4, .int (nI (8))), (3, .ref (u)), (0, .ref (x)), (1, .int (nI (y))), (2, .int (v))] dX3_writeNumber_28 0 rfl (by decide) (by decide) rfl ?_
  refine vGoto X 15 dX3_writeNumber_31 (by decide) ?_
  refine vIload X dX3_writeNumber_15 0 rfl ?_
  refine vIfN_ltF X 34 dX3_writeNumber_17 (by decide) (by omega) (by omega) ?_
  refine vAloadN X dX3_writeNumber_20 1 rfl ?_
  refine vIloadN X dX3_writeNumber_21 4 rfl ?_
  refine vIload X dX3_writeNumber_22 0 rfl ?_
  refine vIshr X dX3_writeNumber_24 (v := (v) >>> ((nI (8)) &&& 31)) rfl ?_
  obtain ⟨ix25, hix25⟩ := vp_ix (f := va_up (va_up f ub (.inl (k 0, 256, .inl (upd (upd gu (c) (lb ((v) >>> ((nI (24)) &&& 31)))) ((c) + 1) (lb ((v) >>> ((nI (16)) &&& 31))))))) u (.inr (0, [.ref (ur), .int (nI (((c) + 1) + 1))]))) hu
  refine vCallVd X [] (cg_gather l D k sb L (va_up (va_up f ub (.inl (k 0, 256, .inl (upd (upd gu (c) (lb ((v) >>> ((nI (24)) &&& 31)))) ((c) + 1) (lb ((v) >>> ((nI (16)) &&& 31))))))) u (.inr (0, [.ref (ur), .int (nI (((c) + 1) + 1))]))) u ur ub (((c) + 1) + 1) (upd (upd gu (c) (lb ((v) >>> ((nI (24)) &&& 31)))) ((c) + 1) (lb ((v) >>> ((nI (16)) &&& 31)))) ((v) >>> ((nI (8)) &&& 31)) hu (va_up_eq _ _ _) hur ((va_up_nq _ (ne_of fur fu (by simp))).trans ((va_up_nq _ (ne_of fur fub (by simp))).trans fur)) hub ((va_up_nq _ (ne_of fub fu (by simp))).trans (va_up_eq _ _ _)) (by omega) (by omega)) (vGV q_467 q_468 q_469 q_27 q_470) ⟨by decide, by decide, (show _ = some 1 from by decide +kernel)⟩ ⟨Nat.le_of_ble_eq_true rfl, Nat.le_of_ble_eq_true rfl⟩ ix25 0 rfl rfl (hix25.trans (by rw [(va_up_eq _ _ _)])) rfl (Nat.le_of_ble_eq_true rfl) dX3_writeNumber_25 ⟨Nat.le_of_ble_eq_true rfl, Nat.le_of_ble_eq_true rfl⟩ ?_
  refine vWs (ws' := va_pl L (va_up (va_up (va_up f u (.inr (0, [.ref (ur), .int (nI (((c) + 1) + 1))]))) ub (.inl (k 0, 256, .inl (upd (upd (upd gu (c) (lb ((v) >>> ((nI (24)) &&& 31)))) ((c) + 1) (lb ((v) >>> ((nI (16)) &&& 31)))) (((c) + 1) + 1) (lb ((v) >>> ((nI (8)) &&& 31))))))) u (.inr (0, [.ref (ur), .int (nI ((((c) + 1) + 1) + 1))])))) (congrArg (fun φ9 => va_pl L (va_up φ9 u (.inr (0, [.ref (ur), .int (nI ((((c) + 1) + 1) + 1))])))) va_up_sh) ?_
  refine vWs (ws' := va_pl L (va_up (va_up f ub (.inl (k 0, 256, .inl (upd (upd (upd gu (c) (lb ((v) >>> ((nI (24)) &&& 31)))) ((c) + 1) (lb ((v) >>> ((nI (16)) &&& 31)))) (((c) + 1) + 1) (lb ((v) >>> ((nI (8)) &&& 31))))))) u (.inr (0, [.ref (ur), .int (nI ((((c) + 1) + 1) + 1))])))) (congrArg (fun φ9 => va_pl L (φ9)) va_up_sh) ?_
  refine vIinc X [(4, .int (nI (0))), (3, .ref (u)), (0, .ref (x)), (1, .int (nI (y))), (2, .int (v))] dX3_writeNumber_28 0 rfl (by decide) (by decide) rfl ?_
  refine vGoto X 15 dX3_writeNumber_31 (by decide) ?_
  refine vIload X dX3_writeNumber_15 0 rfl ?_
  refine vIfN_ltF X 34 dX3_writeNumber_17 (by decide) (by omega) (by omega) ?_
  refine vAloadN X dX3_writeNumber_20 1 rfl ?_
  refine vIloadN X dX3_writeNumber_21 4 rfl ?_
  refine vIload X dX3_writeNumber_22 0 rfl ?_
  refine vIshr X dX3_writeNumber_24 (v := (v) >>> ((nI (0)) &&& 31)) rfl ?_
  obtain ⟨ix25, hix25⟩ := vp_ix (f := va_up (va_up f ub (.inl (k 0, 256, .inl (upd (upd (upd gu (c) (lb ((v) >>> ((nI (24)) &&& 31)))) ((c) + 1) (lb ((v) >>> ((nI (16)) &&& 31)))) (((c) + 1) + 1) (lb ((v) >>> ((nI (8)) &&& 31))))))) u (.inr (0, [.ref (ur), .int (nI ((((c) + 1) + 1) + 1))]))) hu
  refine vCallVd X [] (cg_gather l D k sb L (va_up (va_up f ub (.inl (k 0, 256, .inl (upd (upd (upd gu (c) (lb ((v) >>> ((nI (24)) &&& 31)))) ((c) + 1) (lb ((v) >>> ((nI (16)) &&& 31)))) (((c) + 1) + 1) (lb ((v) >>> ((nI (8)) &&& 31))))))) u (.inr (0, [.ref (ur), .int (nI ((((c) + 1) + 1) + 1))]))) u ur ub ((((c) + 1) + 1) + 1) (upd (upd (upd gu (c) (lb ((v) >>> ((nI (24)) &&& 31)))) ((c) + 1) (lb ((v) >>> ((nI (16)) &&& 31)))) (((c) + 1) + 1) (lb ((v) >>> ((nI (8)) &&& 31)))) ((v) >>> ((nI (0)) &&& 31)) hu (va_up_eq _ _ _) hur ((va_up_nq _ (ne_of fur fu (by simp))).trans ((va_up_nq _ (ne_of fur fub (by simp))).trans fur)) hub ((va_up_nq _ (ne_of fub fu (by simp))).trans (va_up_eq _ _ _)) (by omega) (by omega)) (vGV q_467 q_468 q_469 q_27 q_470) ⟨by decide, by decide, (show _ = some 1 from by decide +kernel)⟩ ⟨Nat.le_of_ble_eq_true rfl, Nat.le_of_ble_eq_true rfl⟩ ix25 0 rfl rfl (hix25.trans (by rw [(va_up_eq _ _ _)])) rfl (Nat.le_of_ble_eq_true rfl) dX3_writeNumber_25 ⟨Nat.le_of_ble_eq_true rfl, Nat.le_of_ble_eq_true rfl⟩ ?_
  refine vWs (ws' := va_pl L (va_up (va_up (va_up f u (.inr (0, [.ref (ur), .int (nI ((((c) + 1) + 1) + 1))]))) ub (.inl (k 0, 256, .inl (upd (upd (upd (upd gu (c) (lb ((v) >>> ((nI (24)) &&& 31)))) ((c) + 1) (lb ((v) >>> ((nI (16)) &&& 31)))) (((c) + 1) + 1) (lb ((v) >>> ((nI (8)) &&& 31)))) ((((c) + 1) + 1) + 1) (lb ((v) >>> ((nI (0)) &&& 31))))))) u (.inr (0, [.ref (ur), .int (nI (((((c) + 1) + 1) + 1) + 1))])))) (congrArg (fun φ9 => va_pl L (va_up φ9 u (.inr (0, [.ref (ur), .int (nI (((((c) + 1) + 1) + 1) + 1))])))) va_up_sh) ?_
  refine vWs (ws' := va_pl L (va_up (va_up f ub (.inl (k 0, 256, .inl (upd (upd (upd (upd gu (c) (lb ((v) >>> ((nI (24)) &&& 31)))) ((c) + 1) (lb ((v) >>> ((nI (16)) &&& 31)))) (((c) + 1) + 1) (lb ((v) >>> ((nI (8)) &&& 31)))) ((((c) + 1) + 1) + 1) (lb ((v) >>> ((nI (0)) &&& 31))))))) u (.inr (0, [.ref (ur), .int (nI (((((c) + 1) + 1) + 1) + 1))])))) (congrArg (fun φ9 => va_pl L (φ9)) va_up_sh) ?_
  refine vIinc X [(4, .int ((-8 : Int32))), (3, .ref (u)), (0, .ref (x)), (1, .int (nI (y))), (2, .int (v))] dX3_writeNumber_28 0 rfl (by decide) (by decide) rfl ?_
  refine vGoto X 15 dX3_writeNumber_31 (by decide) ?_
  refine vIload X dX3_writeNumber_15 0 rfl ?_
  refine vIf_ltT X 34 dX3_writeNumber_17 (by decide) (by first | assumption | exact Int32.not_lt.mpr (by assumption) | exact Int32.not_le.mpr (by assumption) | exact Int32.not_lt.mp (by assumption) | exact Int32.not_le.mp (by assumption) | decide) ?_
  refine vAloadN X dX3_writeNumber_34 1 rfl ?_
  obtain ⟨ix35, hix35⟩ := vp_ix (f := va_up (va_up f ub (.inl (k 0, 256, .inl (upd (upd (upd (upd gu (c) (lb ((v) >>> ((nI (24)) &&& 31)))) ((c) + 1) (lb ((v) >>> ((nI (16)) &&& 31)))) (((c) + 1) + 1) (lb ((v) >>> ((nI (8)) &&& 31)))) ((((c) + 1) + 1) + 1) (lb ((v) >>> ((nI (0)) &&& 31))))))) u (.inr (0, [.ref (ur), .int (nI (((((c) + 1) + 1) + 1) + 1))]))) hu
  refine vCallVd X [] (cg_count l D k sb L (va_up (va_up f ub (.inl (k 0, 256, .inl (upd (upd (upd (upd gu (c) (lb ((v) >>> ((nI (24)) &&& 31)))) ((c) + 1) (lb ((v) >>> ((nI (16)) &&& 31)))) (((c) + 1) + 1) (lb ((v) >>> ((nI (8)) &&& 31)))) ((((c) + 1) + 1) + 1) (lb ((v) >>> ((nI (0)) &&& 31))))))) u (.inr (0, [.ref (ur), .int (nI (((((c) + 1) + 1) + 1) + 1))]))) u ur ub (((((c) + 1) + 1) + 1) + 1) (upd (upd (upd (upd gu (c) (lb ((v) >>> ((nI (24)) &&& 31)))) ((c) + 1) (lb ((v) >>> ((nI (16)) &&& 31)))) (((c) + 1) + 1) (lb ((v) >>> ((nI (8)) &&& 31)))) ((((c) + 1) + 1) + 1) (lb ((v) >>> ((nI (0)) &&& 31))))  hu (va_up_eq _ _ _) hur ((va_up_nq _ (ne_of fur fu (by simp))).trans ((va_up_nq _ (ne_of fur fub (by simp))).trans fur)) hub ((va_up_nq _ (ne_of fub fu (by simp))).trans (va_up_eq _ _ _)) (by omega) ) (vGV q_148 q_149 q_150 q_27 q_151) ⟨by decide, by decide, (show _ = some 0 from by decide +kernel)⟩ ⟨Nat.le_of_ble_eq_true rfl, Nat.le_of_ble_eq_true rfl⟩ ix35 0 rfl rfl (hix35.trans (by rw [(va_up_eq _ _ _)])) rfl (Nat.le_of_ble_eq_true rfl) dX3_writeNumber_35 ⟨Nat.le_of_ble_eq_true rfl, Nat.le_of_ble_eq_true rfl⟩ ?_
  exact vRetI X hret dX3_writeNumber_38 ⟨rfl, rfl⟩
set_option maxHeartbeats 4000000 in
set_option maxRecDepth 100000 in
theorem ct_writeNumber1 (l : Launch) (D : va_G) (k : Nat → ClassId) (sb : Nat) (L : List Nat) (f : Nat → va_E) (x aW aG aR tr tg : Nat) (gW gG gR : Nat → Option Nat) (v z : Int32) (hl : l.stackTraces = false) (hx : x ∈ L) (fx : f x = .inr (3, [.ref aW, .ref aG, .ref aR, .ref tr, .ref tg])) (haW : aW ∈ L) (faW : f aW = .inl (k 4, 4, .inr (.inr (.inr (.inr gW))))) (haG : aG ∈ L) (faG : f aG = .inl (k 2, 3, .inr (.inr (.inr (.inr gG))))) (haR : aR ∈ L) (faR : f aR = .inl (k 3, 3, .inr (.inr (.inr (.inr gR))))) (hv : ¬ vOther v) : vCtX l yX3_writeNumber cX3_writeNumber 5 (some .int) 9 131 1 6 D vCl (vTy k) sb [.ref (x), .int (v), .int (z)] (va_pl L f) "java/lang/IndexOutOfBoundsException" := by
  refine vOfX (by decide +kernel) (Nat.le_of_ble_eq_true rfl) (fun p9 e9 s9 m9 below9 meth9 c9 X hE hnt => ?_)
  refine vAloadN X dX3_writeNumber_0 0 rfl ?_
  refine vIloadN X dX3_writeNumber_1 1 rfl ?_
  obtain ⟨ix2, hix2⟩ := vp_ix (f := f) hx
  exact vCallVT X hE hnt [] (ct_gathererAt l D k sb L f x aW aG aR tr tg (gW) (gG) (gR) v hl hx fx haW faW haG faG haR faR hv) (vGV q_438 q_440 q_5 q_24 q_441) ⟨by decide, by decide, (show _ = some 1 from by decide +kernel)⟩ ⟨Nat.le_of_ble_eq_true rfl, Nat.le_of_ble_eq_true rfl⟩ ix2 3 rfl rfl (hix2.trans (by rw [fx])) rfl (Nat.le_of_ble_eq_true rfl) dX3_writeNumber_2 ⟨(Nat.le_of_ble_eq_true rfl), (Nat.le_of_ble_eq_true rfl)⟩ (Nat.le_of_ble_eq_true rfl) (Nat.le_of_ble_eq_true rfl)
set_option maxHeartbeats 4000000 in
set_option maxRecDepth 100000 in
theorem ct_writeNumber2 (l : Launch) (D : va_G) (k : Nat → ClassId) (sb : Nat) (L : List Nat) (f : Nat → va_E) (x aW aG aR tr tg : Nat) (gW gG gR : Nat → Option Nat) (y : Nat) (u ur ub c : Nat) (gu : Nat → Int32) (z : Int32) (hl : l.stackTraces = false) (hx : x ∈ L) (fx : f x = .inr (3, [.ref aW, .ref aG, .ref aR, .ref tr, .ref tg])) (haW : aW ∈ L) (faW : f aW = .inl (k 4, 4, .inr (.inr (.inr (.inr gW))))) (haG : aG ∈ L) (faG : f aG = .inl (k 2, 3, .inr (.inr (.inr (.inr gG))))) (haR : aR ∈ L) (faR : f aR = .inl (k 3, 3, .inr (.inr (.inr (.inr gR))))) (hy9 : y < 3) (eu : gG y = some u) (hu : u ∈ L) (fu : f u = .inr (0, [.ref ur, .int (nI c)])) (hur : ur ∈ L) (fur : f ur = .inr (2, [.ref ub])) (hub : ub ∈ L) (fub : f ub = .inl (k 0, 256, .inl gu)) (hc : c ≤ 256) (hm : 256 < c + 4) : vCtX l yX3_writeNumber cX3_writeNumber 5 (some .int) 9 131 1 6 D vCl (vTy k) sb [.ref (x), .int (nI (y)), .int (z)] (va_pl L f) "java/lang/IllegalStateException" := by
  refine vOfX (by decide +kernel) (Nat.le_of_ble_eq_true rfl) (fun p9 e9 s9 m9 below9 meth9 c9 X hE hnt => ?_)
  refine vAloadN X dX3_writeNumber_0 0 rfl ?_
  refine vIloadN X dX3_writeNumber_1 1 rfl ?_
  obtain ⟨ix2, hix2⟩ := vp_ix (f := f) hx
  refine vCallVd X [] (cb_gathererAt l D k sb L f x aW aG aR tr tg (gW) (gG) (gR) y u hx fx haW faW haG faG haR faR (by omega) eu) (vGV q_438 q_440 q_5 q_24 q_441) ⟨by decide, by decide, (show _ = some 1 from by decide +kernel)⟩ ⟨Nat.le_of_ble_eq_true rfl, Nat.le_of_ble_eq_true rfl⟩ ix2 3 rfl rfl (hix2.trans (by rw [fx])) rfl (Nat.le_of_ble_eq_true rfl) dX3_writeNumber_2 ⟨Nat.le_of_ble_eq_true rfl, Nat.le_of_ble_eq_true rfl⟩ ?_
  refine vAstoreN X [(3, .ref (u)), (0, .ref (x)), (1, .int (nI (y))), (2, .int (z))] dX3_writeNumber_5 (by decide) rfl ?_
  refine vAloadN X dX3_writeNumber_6 0 rfl ?_
  refine vIconst X dX3_writeNumber_7 (v := nI (4)) (by decide) ?_
  exact vCallST X hE hnt [] (ct_needRoom l D k sb L f u ur ub (c) (gu) (4) hl hu fu hur fur hub fub (by omega) (by omega) (by omega)) (vGS q_443 q_444 q_24 q_445) rfl ⟨by decide, by decide, (show _ = some 2 from by decide +kernel)⟩ ⟨Nat.le_of_ble_eq_true rfl, Nat.le_of_ble_eq_true rfl⟩ rfl (Nat.le_of_ble_eq_true rfl) dX3_writeNumber_8 ⟨(Nat.le_of_ble_eq_true rfl), (Nat.le_of_ble_eq_true rfl)⟩ (Nat.le_of_ble_eq_true rfl) (Nat.le_of_ble_eq_true rfl)
set_option maxHeartbeats 4000000 in
set_option maxRecDepth 100000 in
theorem cb_size (l : Launch) (D : va_G) (k : Nat → ClassId) (sb : Nat) (L : List Nat) (f : Nat → va_E) (x aW aG aR tr tg : Nat) (gW gG gR : Nat → Option Nat) (y : Nat) (u ur ub c : Nat) (gu : Nat → Int32) (hx : x ∈ L) (fx : f x = .inr (3, [.ref aW, .ref aG, .ref aR, .ref tr, .ref tg])) (haW : aW ∈ L) (faW : f aW = .inl (k 4, 4, .inr (.inr (.inr (.inr gW))))) (haG : aG ∈ L) (faG : f aG = .inl (k 2, 3, .inr (.inr (.inr (.inr gG))))) (haR : aR ∈ L) (faR : f aR = .inl (k 3, 3, .inr (.inr (.inr (.inr gR))))) (hy9 : y < 3) (eu : gG y = some u) (hu : u ∈ L) (fu : f u = .inr (0, [.ref ur, .int (nI c)])) (hur : ur ∈ L) (fur : f ur = .inr (2, [.ref ub])) (hub : ub ∈ L) (fub : f ub = .inl (k 0, 256, .inl gu)) (hc : c ≤ 256) : vCt l yX3_size cX3_size 2 (some .int) 9 131 0 0 D vCl (vTy k) sb [.ref (x), .int (nI (y))] (va_pl L f) (vDet (some (.int (nI (c)))) (va_pl L f)) := by
  refine vOf (by decide +kernel) (Nat.le_of_ble_eq_true rfl) (fun p9 e9 s9 m9 below9 meth9 c9 X hret hmn => ?_)
  refine vAloadN X dX3_size_0 0 rfl ?_
  refine vIloadN X dX3_size_1 1 rfl ?_
  obtain ⟨ix2, hix2⟩ := vp_ix (f := f) hx
  refine vCallVd X [] (cb_gathererAt l D k sb L f x aW aG aR tr tg (gW) (gG) (gR) y u hx fx haW faW haG faG haR faR (by omega) eu) (vGV q_438 q_440 q_5 q_24 q_441) ⟨by decide, by decide, (show _ = some 1 from by decide +kernel)⟩ ⟨Nat.le_of_ble_eq_true rfl, Nat.le_of_ble_eq_true rfl⟩ ix2 3 rfl rfl (hix2.trans (by rw [fx])) rfl (Nat.le_of_ble_eq_true rfl) dX3_size_2 ⟨Nat.le_of_ble_eq_true rfl, Nat.le_of_ble_eq_true rfl⟩ ?_
  obtain ⟨ix5, hix5⟩ := vp_ix (f := f) hu
  refine vCallVd X [] (cg_count l D k sb L f u ur ub (c) (gu)  hu fu hur fur hub fub (by omega) ) (vGV q_148 q_149 q_150 q_27 q_151) ⟨by decide, by decide, (show _ = some 0 from by decide +kernel)⟩ ⟨Nat.le_of_ble_eq_true rfl, Nat.le_of_ble_eq_true rfl⟩ ix5 0 rfl rfl (hix5.trans (by rw [fu])) rfl (Nat.le_of_ble_eq_true rfl) dX3_size_5 ⟨Nat.le_of_ble_eq_true rfl, Nat.le_of_ble_eq_true rfl⟩ ?_
  exact vRetI X hret dX3_size_8 ⟨rfl, rfl⟩
set_option maxHeartbeats 4000000 in
set_option maxRecDepth 100000 in
theorem cb_empty (l : Launch) (D : va_G) (k : Nat → ClassId) (sb : Nat) (L : List Nat) (f : Nat → va_E) (x aW aG aR tr tg : Nat) (gW gG gR : Nat → Option Nat) (y : Nat) (u ur ub c : Nat) (gu : Nat → Int32) (hx : x ∈ L) (fx : f x = .inr (3, [.ref aW, .ref aG, .ref aR, .ref tr, .ref tg])) (haW : aW ∈ L) (faW : f aW = .inl (k 4, 4, .inr (.inr (.inr (.inr gW))))) (haG : aG ∈ L) (faG : f aG = .inl (k 2, 3, .inr (.inr (.inr (.inr gG))))) (haR : aR ∈ L) (faR : f aR = .inl (k 3, 3, .inr (.inr (.inr (.inr gR))))) (hy9 : y < 3) (eu : gG y = some u) (hu : u ∈ L) (fu : f u = .inr (0, [.ref ur, .int (nI c)])) (hur : ur ∈ L) (fur : f ur = .inr (2, [.ref ub])) (hub : ub ∈ L) (fub : f ub = .inl (k 0, 256, .inl gu)) (hc : c ≤ 256) : vCt l yX3_empty cX3_empty 4 (some .int) 9 131 0 0 D vCl (vTy k) sb [.ref (x), .int (nI (y))] (va_pl L f) (vDet (some (.int (nI (c)))) (va_pl L (va_up f u (.inr (0, [.ref (ur), .int (nI (0))]))))) := by
  refine vOf (by decide +kernel) (Nat.le_of_ble_eq_true rfl) (fun p9 e9 s9 m9 below9 meth9 c9 X hret hmn => ?_)
  refine vAloadN X dX3_empty_0 0 rfl ?_
  refine vIloadN X dX3_empty_1 1 rfl ?_
  obtain ⟨ix2, hix2⟩ := vp_ix (f := f) hx
  refine vCallVd X [] (cb_gathererAt l D k sb L f x aW aG aR tr tg (gW) (gG) (gR) y u hx fx haW faW haG faG haR faR (by omega) eu) (vGV q_438 q_440 q_5 q_24 q_441) ⟨by decide, by decide, (show _ = some 1 from by decide +kernel)⟩ ⟨Nat.le_of_ble_eq_true rfl, Nat.le_of_ble_eq_true rfl⟩ ix2 3 rfl rfl (hix2.trans (by rw [fx])) rfl (Nat.le_of_ble_eq_true rfl) dX3_empty_2 ⟨Nat.le_of_ble_eq_true rfl, Nat.le_of_ble_eq_true rfl⟩ ?_
  refine vAstoreN X [(2, .ref (u)), (0, .ref (x)), (1, .int (nI (y)))] dX3_empty_5 (by decide) rfl ?_
  refine vAloadN X dX3_empty_6 0 rfl ?_
  obtain ⟨ix7, hix7⟩ := vp_ix (f := f) hu
  refine vCallVd X [] (cg_count l D k sb L f u ur ub (c) (gu)  hu fu hur fur hub fub (by omega) ) (vGV q_148 q_149 q_150 q_27 q_151) ⟨by decide, by decide, (show _ = some 0 from by decide +kernel)⟩ ⟨Nat.le_of_ble_eq_true rfl, Nat.le_of_ble_eq_true rfl⟩ ix7 0 rfl rfl (hix7.trans (by rw [fu])) rfl (Nat.le_of_ble_eq_true rfl) dX3_empty_7 ⟨Nat.le_of_ble_eq_true rfl, Nat.le_of_ble_eq_true rfl⟩ ?_
  refine vIstoreN X [(3, .int (nI (c))), (2, .ref (u)), (0, .ref (x)), (1, .int (nI (y)))] dX3_empty_10 (by decide) rfl ?_
  refine vAloadN X dX3_empty_11 1 rfl ?_
  obtain ⟨ix12, hix12⟩ := vp_ix (f := f) hu
  refine vCallVd X [] (cg_clear l D k sb L f u ur ub (c) (gu)  hu fu hur fur hub fub (by omega) ) (vGV q_235 q_236 q_237 q_27 q_238) ⟨by decide, by decide, (show _ = some 0 from by decide +kernel)⟩ ⟨Nat.le_of_ble_eq_true rfl, Nat.le_of_ble_eq_true rfl⟩ ix12 0 rfl rfl (hix12.trans (by rw [fu])) rfl (Nat.le_of_ble_eq_true rfl) dX3_empty_12 ⟨Nat.le_of_ble_eq_true rfl, Nat.le_of_ble_eq_true rfl⟩ ?_
  refine vIloadN X dX3_empty_15 0 rfl ?_
  exact vRetI X hret dX3_empty_16 ⟨rfl, rfl⟩
set_option maxHeartbeats 4000000 in
set_option maxRecDepth 100000 in
theorem ct_size1 (l : Launch) (D : va_G) (k : Nat → ClassId) (sb : Nat) (L : List Nat) (f : Nat → va_E) (x aW aG aR tr tg : Nat) (gW gG gR : Nat → Option Nat) (v : Int32) (hl : l.stackTraces = false) (hx : x ∈ L) (fx : f x = .inr (3, [.ref aW, .ref aG, .ref aR, .ref tr, .ref tg])) (haW : aW ∈ L) (faW : f aW = .inl (k 4, 4, .inr (.inr (.inr (.inr gW))))) (haG : aG ∈ L) (faG : f aG = .inl (k 2, 3, .inr (.inr (.inr (.inr gG))))) (haR : aR ∈ L) (faR : f aR = .inl (k 3, 3, .inr (.inr (.inr (.inr gR))))) (hv : ¬ vOther v) : vCtX l yX3_size cX3_size 2 (some .int) 9 131 1 6 D vCl (vTy k) sb [.ref (x), .int (v)] (va_pl L f) "java/lang/IndexOutOfBoundsException" := by
  refine vOfX (by decide +kernel) (Nat.le_of_ble_eq_true rfl) (fun p9 e9 s9 m9 below9 meth9 c9 X hE hnt => ?_)
  refine vAloadN X dX3_size_0 0 rfl ?_
  refine vIloadN X dX3_size_1 1 rfl ?_
  obtain ⟨ix2, hix2⟩ := vp_ix (f := f) hx
  exact vCallVT X hE hnt [] (ct_gathererAt l D k sb L f x aW aG aR tr tg (gW) (gG) (gR) v hl hx fx haW faW haG faG haR faR hv) (vGV q_438 q_440 q_5 q_24 q_441) ⟨by decide, by decide, (show _ = some 1 from by decide +kernel)⟩ ⟨Nat.le_of_ble_eq_true rfl, Nat.le_of_ble_eq_true rfl⟩ ix2 3 rfl rfl (hix2.trans (by rw [fx])) rfl (Nat.le_of_ble_eq_true rfl) dX3_size_2 ⟨(Nat.le_of_ble_eq_true rfl), (Nat.le_of_ble_eq_true rfl)⟩ (Nat.le_of_ble_eq_true rfl) (Nat.le_of_ble_eq_true rfl)
set_option maxHeartbeats 4000000 in
set_option maxRecDepth 100000 in
theorem ct_empty1 (l : Launch) (D : va_G) (k : Nat → ClassId) (sb : Nat) (L : List Nat) (f : Nat → va_E) (x aW aG aR tr tg : Nat) (gW gG gR : Nat → Option Nat) (v : Int32) (hl : l.stackTraces = false) (hx : x ∈ L) (fx : f x = .inr (3, [.ref aW, .ref aG, .ref aR, .ref tr, .ref tg])) (haW : aW ∈ L) (faW : f aW = .inl (k 4, 4, .inr (.inr (.inr (.inr gW))))) (haG : aG ∈ L) (faG : f aG = .inl (k 2, 3, .inr (.inr (.inr (.inr gG))))) (haR : aR ∈ L) (faR : f aR = .inl (k 3, 3, .inr (.inr (.inr (.inr gR))))) (hv : ¬ vOther v) : vCtX l yX3_empty cX3_empty 4 (some .int) 9 131 1 6 D vCl (vTy k) sb [.ref (x), .int (v)] (va_pl L f) "java/lang/IndexOutOfBoundsException" := by
  refine vOfX (by decide +kernel) (Nat.le_of_ble_eq_true rfl) (fun p9 e9 s9 m9 below9 meth9 c9 X hE hnt => ?_)
  refine vAloadN X dX3_empty_0 0 rfl ?_
  refine vIloadN X dX3_empty_1 1 rfl ?_
  obtain ⟨ix2, hix2⟩ := vp_ix (f := f) hx
  exact vCallVT X hE hnt [] (ct_gathererAt l D k sb L f x aW aG aR tr tg (gW) (gG) (gR) v hl hx fx haW faW haG faG haR faR hv) (vGV q_438 q_440 q_5 q_24 q_441) ⟨by decide, by decide, (show _ = some 1 from by decide +kernel)⟩ ⟨Nat.le_of_ble_eq_true rfl, Nat.le_of_ble_eq_true rfl⟩ ix2 3 rfl rfl (hix2.trans (by rw [fx])) rfl (Nat.le_of_ble_eq_true rfl) dX3_empty_2 ⟨(Nat.le_of_ble_eq_true rfl), (Nat.le_of_ble_eq_true rfl)⟩ (Nat.le_of_ble_eq_true rfl) (Nat.le_of_ble_eq_true rfl)
set_option maxHeartbeats 4000000 in
set_option maxRecDepth 100000 in
theorem cb_take (l : Launch) (D : va_G) (k : Nat → ClassId) (sb : Nat) (L : List Nat) (f : Nat → va_E) (x aW aG aR tr tg : Nat) (gW gG gR : Nat → Option Nat) (y : Nat) (u ur ub c : Nat) (gu : Nat → Int32) (r : Nat) (hx : x ∈ L) (fx : f x = .inr (3, [.ref aW, .ref aG, .ref aR, .ref tr, .ref tg])) (haW : aW ∈ L) (faW : f aW = .inl (k 4, 4, .inr (.inr (.inr (.inr gW))))) (haG : aG ∈ L) (faG : f aG = .inl (k 2, 3, .inr (.inr (.inr (.inr gG))))) (haR : aR ∈ L) (faR : f aR = .inl (k 3, 3, .inr (.inr (.inr (.inr gR))))) (hy9 : y < 3) (eu : gG y = some u) (hu : u ∈ L) (fu : f u = .inr (0, [.ref ur, .int (nI c)])) (hur : ur ∈ L) (fur : f ur = .inr (2, [.ref ub])) (hub : ub ∈ L) (fub : f ub = .inl (k 0, 256, .inl gu)) (hc : c ≤ 256) (hr9 : r < 4) (hgf : ∀ j, lb (gu j) = gu j) : vCt l yX3_take cX3_take 5 (some .int) 9 131 2 257 D vCl (vTy k) sb [.ref (x), .int (nI (y)), .int (nI (r))] (va_pl L f) (fun v ws' => ∃ (q qb : Nat) (L' : List Nat) (f' : Nat → va_E), q ∉ L ∧ qb ∉ L ∧ (∀ a, a ∈ L → a ∈ L' ∧ (a ≠ aW → f' a = f a)) ∧ f' aW = .inl (k 4, 4, .inr (.inr (.inr (.inr (va_up gW r (some q)))))) ∧ q ∈ L' ∧ f' q = .inr (2, [.ref qb]) ∧ qb ∈ L' ∧ f' qb = .inl (k 0, c, .inl (va_cpy gu (fun _ => 0) 0 0 c)) ∧ v = some (.int (nI (c))) ∧ ws' = va_pl L' f') := by
  refine vOf (by decide +kernel) (Nat.le_of_ble_eq_true rfl) (fun p9 e9 s9 m9 below9 meth9 c9 X hret hmn => ?_)
  refine vAloadN X dX3_take_0 0 rfl ?_
  refine vIloadN X dX3_take_1 1 rfl ?_
  obtain ⟨ix2, hix2⟩ := vp_ix (f := f) hx
  refine vCallVd X [] (cb_gathererAt l D k sb L f x aW aG aR tr tg (gW) (gG) (gR) y u hx fx haW faW haG faG haR faR (by omega) eu) (vGV q_438 q_440 q_5 q_24 q_441) ⟨by decide, by decide, (show _ = some 1 from by decide +kernel)⟩ ⟨Nat.le_of_ble_eq_true rfl, Nat.le_of_ble_eq_true rfl⟩ ix2 3 rfl rfl (hix2.trans (by rw [fx])) rfl (Nat.le_of_ble_eq_true rfl) dX3_take_2 ⟨Nat.le_of_ble_eq_true rfl, Nat.le_of_ble_eq_true rfl⟩ ?_
  refine vAstoreN X [(3, .ref (u)), (0, .ref (x)), (1, .int (nI (y))), (2, .int (nI (r)))] dX3_take_5 (by decide) rfl ?_
  refine vAloadN X dX3_take_6 1 rfl ?_
  refine vIloadN X dX3_take_7 3 rfl ?_
  obtain ⟨ix8, hix8⟩ := vp_ix (f := f) hx
  refine vCallVd X [] (cb_needRow l D k sb L f x aW aG aR tr tg (gW) (gG) (gR) r hx fx haW faW haG faG haR faR (by omega)) (vGV q_345 q_347 q_4 q_24 q_348) ⟨by decide, by decide, (show _ = some 1 from by decide +kernel)⟩ ⟨Nat.le_of_ble_eq_true rfl, Nat.le_of_ble_eq_true rfl⟩ ix8 3 rfl rfl (hix8.trans (by rw [fx])) rfl (Nat.le_of_ble_eq_true rfl) dX3_take_8 ⟨Nat.le_of_ble_eq_true rfl, Nat.le_of_ble_eq_true rfl⟩ ?_
  refine vAloadN X dX3_take_11 0 rfl ?_
  obtain ⟨ix12, hix12⟩ := vp_ix (f := f) hu
  refine vCallV X [] (cg_copy l D k sb L f u ur ub (c) (gu)  hu fu hur fur hub fub (by omega) hgf) (vGV q_179 q_180 q_181 q_27 q_182) ⟨by decide, by decide, (show _ = some 0 from by decide +kernel)⟩ ⟨Nat.le_of_ble_eq_true rfl, Nat.le_of_ble_eq_true rfl⟩ ix12 0 rfl rfl (hix12.trans (by rw [fu])) rfl (Nat.le_of_ble_eq_true rfl) dX3_take_12 ⟨Nat.le_of_ble_eq_true rfl, Nat.le_of_ble_eq_true rfl⟩ (fun v9 w9 hp9 => ?_)
  obtain ⟨q12, qb12, L12, f12, hq12, hqb12, hx12, mq12, vq12, mqb12, vqb12, rfl, rfl⟩ := hp9
  refine vWiden 2 257 (by omega) (by omega) ?_
  refine vAstore X [(4, .ref (q12)), (3, .ref (u)), (0, .ref (x)), (1, .int (nI (y))), (2, .int (nI (r)))] dX3_take_15 (by decide) rfl ?_
  refine vAloadN X dX3_take_17 2 rfl ?_
  refine vpGet X (C := RX3) (T := TX3) (N := 5) (ci := 3) (vcons inB) rfl (((hx12) _ hx).1) (((hx12) _ hx).2.trans fx) 0 (by decide) (List.mem_cons_of_mem _ q_109) (fun _ h => h) rfl dX3_take_18 ?_
  refine vIloadN X dX3_take_21 4 rfl ?_
  refine vAload X dX3_take_22 0 rfl ?_
  refine vpAastore X (r := (RX2, TX2, 1)) (g' := va_up gW (r) (some q12)) (((hx12) _ haW).1) (((hx12) _ haW).2.trans faW) 4 rfl mq12 vq12 rfl rfl (by omega) (by omega) rfl dX3_take_24 ?_
  refine vAload X dX3_take_25 0 rfl ?_
  obtain ⟨ix27, hix27⟩ := vp_ix (f := va_up f12 aW (.inl (k 4, 4, .inr (.inr (.inr (.inr (va_up gW (r) (some q12)))))))) mq12
  refine vCallVd X [] (cr_count l D k sb L12 (va_up f12 aW (.inl (k 4, 4, .inr (.inr (.inr (.inr (va_up gW (r) (some q12)))))))) q12 qb12 (c) (va_cpy gu (fun _ => 0) 0 0 (c))  mq12 ((va_up_nq _ (fun z9 => hq12 (by rw [z9]; exact haW))).trans vq12) mqb12 ((va_up_nq _ (fun z9 => hqb12 (by rw [z9]; exact haW))).trans vqb12) (by omega) ) (vGV q_131 q_132 q_133 q_25 q_134) ⟨by decide, by decide, (show _ = some 0 from by decide +kernel)⟩ ⟨Nat.le_of_ble_eq_true rfl, Nat.le_of_ble_eq_true rfl⟩ ix27 2 rfl rfl (hix27.trans (by rw [((va_up_nq _ (fun z9 => hq12 (by rw [z9]; exact haW))).trans vq12)])) rfl (Nat.le_of_ble_eq_true rfl) dX3_take_27 ⟨Nat.le_of_ble_eq_true rfl, Nat.le_of_ble_eq_true rfl⟩ ?_
  exact vRetI X hret dX3_take_30 ⟨q12, qb12, _, _, hq12, hqb12, (fun a9 ha9 => ⟨(((hx12) _ ha9).1), fun ne9 => ((va_up_nq _ ne9).trans (((hx12) _ ha9).2.trans rfl))⟩), (va_up_eq _ _ _), mq12, ((va_up_nq _ (fun z9 => hq12 (by rw [z9]; exact haW))).trans vq12), mqb12, ((va_up_nq _ (fun z9 => hqb12 (by rw [z9]; exact haW))).trans vqb12), rfl, rfl⟩
set_option maxHeartbeats 4000000 in
set_option maxRecDepth 100000 in
theorem ct_take1 (l : Launch) (D : va_G) (k : Nat → ClassId) (sb : Nat) (L : List Nat) (f : Nat → va_E) (x aW aG aR tr tg : Nat) (gW gG gR : Nat → Option Nat) (v z : Int32) (hl : l.stackTraces = false) (hx : x ∈ L) (fx : f x = .inr (3, [.ref aW, .ref aG, .ref aR, .ref tr, .ref tg])) (haW : aW ∈ L) (faW : f aW = .inl (k 4, 4, .inr (.inr (.inr (.inr gW))))) (haG : aG ∈ L) (faG : f aG = .inl (k 2, 3, .inr (.inr (.inr (.inr gG))))) (haR : aR ∈ L) (faR : f aR = .inl (k 3, 3, .inr (.inr (.inr (.inr gR))))) (hv : ¬ vOther v) : vCtX l yX3_take cX3_take 5 (some .int) 9 131 1 6 D vCl (vTy k) sb [.ref (x), .int (v), .int (z)] (va_pl L f) "java/lang/IndexOutOfBoundsException" := by
  refine vOfX (by decide +kernel) (Nat.le_of_ble_eq_true rfl) (fun p9 e9 s9 m9 below9 meth9 c9 X hE hnt => ?_)
  refine vAloadN X dX3_take_0 0 rfl ?_
  refine vIloadN X dX3_take_1 1 rfl ?_
  obtain ⟨ix2, hix2⟩ := vp_ix (f := f) hx
  exact vCallVT X hE hnt [] (ct_gathererAt l D k sb L f x aW aG aR tr tg (gW) (gG) (gR) v hl hx fx haW faW haG faG haR faR hv) (vGV q_438 q_440 q_5 q_24 q_441) ⟨by decide, by decide, (show _ = some 1 from by decide +kernel)⟩ ⟨Nat.le_of_ble_eq_true rfl, Nat.le_of_ble_eq_true rfl⟩ ix2 3 rfl rfl (hix2.trans (by rw [fx])) rfl (Nat.le_of_ble_eq_true rfl) dX3_take_2 ⟨(Nat.le_of_ble_eq_true rfl), (Nat.le_of_ble_eq_true rfl)⟩ (Nat.le_of_ble_eq_true rfl) (Nat.le_of_ble_eq_true rfl)
set_option maxHeartbeats 4000000 in
set_option maxRecDepth 100000 in
theorem ct_take2 (l : Launch) (D : va_G) (k : Nat → ClassId) (sb : Nat) (L : List Nat) (f : Nat → va_E) (x aW aG aR tr tg : Nat) (gW gG gR : Nat → Option Nat) (y : Nat) (u ur ub c : Nat) (gu : Nat → Int32) (z : Int32) (hl : l.stackTraces = false) (hx : x ∈ L) (fx : f x = .inr (3, [.ref aW, .ref aG, .ref aR, .ref tr, .ref tg])) (haW : aW ∈ L) (faW : f aW = .inl (k 4, 4, .inr (.inr (.inr (.inr gW))))) (haG : aG ∈ L) (faG : f aG = .inl (k 2, 3, .inr (.inr (.inr (.inr gG))))) (haR : aR ∈ L) (faR : f aR = .inl (k 3, 3, .inr (.inr (.inr (.inr gR))))) (hy9 : y < 3) (eu : gG y = some u) (hu : u ∈ L) (fu : f u = .inr (0, [.ref ur, .int (nI c)])) (hur : ur ∈ L) (fur : f ur = .inr (2, [.ref ub])) (hub : ub ∈ L) (fub : f ub = .inl (k 0, 256, .inl gu)) (hc : c ≤ 256) (hz : ¬ vRow z) : vCtX l yX3_take cX3_take 5 (some .int) 9 131 1 6 D vCl (vTy k) sb [.ref (x), .int (nI (y)), .int (z)] (va_pl L f) "java/lang/IndexOutOfBoundsException" := by
  refine vOfX (by decide +kernel) (Nat.le_of_ble_eq_true rfl) (fun p9 e9 s9 m9 below9 meth9 c9 X hE hnt => ?_)
  refine vAloadN X dX3_take_0 0 rfl ?_
  refine vIloadN X dX3_take_1 1 rfl ?_
  obtain ⟨ix2, hix2⟩ := vp_ix (f := f) hx
  refine vCallVd X [] (cb_gathererAt l D k sb L f x aW aG aR tr tg (gW) (gG) (gR) y u hx fx haW faW haG faG haR faR (by omega) eu) (vGV q_438 q_440 q_5 q_24 q_441) ⟨by decide, by decide, (show _ = some 1 from by decide +kernel)⟩ ⟨Nat.le_of_ble_eq_true rfl, Nat.le_of_ble_eq_true rfl⟩ ix2 3 rfl rfl (hix2.trans (by rw [fx])) rfl (Nat.le_of_ble_eq_true rfl) dX3_take_2 ⟨Nat.le_of_ble_eq_true rfl, Nat.le_of_ble_eq_true rfl⟩ ?_
  refine vAstoreN X [(3, .ref (u)), (0, .ref (x)), (1, .int (nI (y))), (2, .int (z))] dX3_take_5 (by decide) rfl ?_
  refine vAloadN X dX3_take_6 1 rfl ?_
  refine vIloadN X dX3_take_7 3 rfl ?_
  obtain ⟨ix8, hix8⟩ := vp_ix (f := f) hx
  exact vCallVT X hE hnt [] (ct_needRow l D k sb L f x aW aG aR tr tg (gW) (gG) (gR) z hl hx fx haW faW haG faG haR faR hz) (vGV q_345 q_347 q_4 q_24 q_348) ⟨by decide, by decide, (show _ = some 1 from by decide +kernel)⟩ ⟨Nat.le_of_ble_eq_true rfl, Nat.le_of_ble_eq_true rfl⟩ ix8 3 rfl rfl (hix8.trans (by rw [fx])) rfl (Nat.le_of_ble_eq_true rfl) dX3_take_8 ⟨(Nat.le_of_ble_eq_true rfl), (Nat.le_of_ble_eq_true rfl)⟩ (Nat.le_of_ble_eq_true rfl) (Nat.le_of_ble_eq_true rfl)
