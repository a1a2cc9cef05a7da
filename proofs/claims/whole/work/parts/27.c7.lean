set_option maxHeartbeats 4000000 in
set_option maxRecDepth 100000 in
theorem cb_open (l : Launch) (D : va_G) (k : Nat → ClassId) (sb : Nat) (L : List Nat) (f : Nat → va_E) (x aW aG aR tr tg : Nat) (gW gG gR : Nat → Option Nat) (q : Nat) (rd w b n s P M T Mt : Nat) (g : Nat → Int32) (r : Nat) (h2 b2 n2 : Nat) (g2 : Nat → Int32) (hx : x ∈ L) (fx : f x = .inr (3, [.ref aW, .ref aG, .ref aR, .ref tr, .ref tg])) (haW : aW ∈ L) (faW : f aW = .inl (k 4, 4, .inr (.inr (.inr (.inr gW))))) (haG : aG ∈ L) (faG : f aG = .inl (k 2, 3, .inr (.inr (.inr (.inr gG))))) (haR : aR ∈ L) (faR : f aR = .inl (k 3, 3, .inr (.inr (.inr (.inr gR))))) (hq9 : q < 3) (eq : gR q = some rd) (hrd : rd ∈ L) (frd : f rd = .inr (1, [.ref w, .int (nI s), .int (nI P), .int (nI M), .int (nI T), .int (nI Mt)])) (hw : w ∈ L) (fw : f w = .inr (2, [.ref b])) (hb : b ∈ L) (fb : f b = .inl (k 0, n, .inl g)) (hn : n ≤ 256) (hP : P ≤ n) (hr9 : r < 4) (eh2 : gW r = some h2) (hh2 : h2 ∈ L) (fh2 : f h2 = .inr (2, [.ref b2])) (hb2 : b2 ∈ L) (fb2 : f b2 = .inl (k 0, n2, .inl g2)) (hn2 : n2 ≤ 256) : vCt l yX3_open cX3_open 4 (some .int) 10 152 0 0 D vCl (vTy k) sb [.ref (x), .int (nI (q)), .int (nI (r))] (va_pl L f) (vDet (some (.int (nI (n2 - 0)))) (va_pl L (va_up f rd (.inr (1, [.ref (h2), .int (nI (1)), .int (nI (0)), .int (nI (0)), .int (nI (0)), .int (nI (0))]))))) := by
  refine vOf (by decide +kernel) (Nat.le_of_ble_eq_true rfl) (fun p9 e9 s9 m9 below9 meth9 c9 X hret hmn => ?_)
  refine vAloadN X dX3_open_0 0 rfl ?_
  refine vIloadN X dX3_open_1 1 rfl ?_
  obtain ⟨ix2, hix2⟩ := vp_ix (f := f) hx
  refine vCallVd X [] (cb_readerAt l D k sb L f x aW aG aR tr tg (gW) (gG) (gR) q rd hx fx haW faW haG faG haR faR (by omega) eq) (vGV q_522 q_524 q_6 q_24 q_525) ⟨by decide, by decide, (show _ = some 1 from by decide +kernel)⟩ ⟨Nat.le_of_ble_eq_true rfl, Nat.le_of_ble_eq_true rfl⟩ ix2 3 rfl rfl (hix2.trans (by rw [fx])) rfl (Nat.le_of_ble_eq_true rfl) dX3_open_2 ⟨Nat.le_of_ble_eq_true rfl, Nat.le_of_ble_eq_true rfl⟩ ?_
  refine vAstoreN X [(3, .ref (rd)), (0, .ref (x)), (1, .int (nI (q))), (2, .int (nI (r)))] dX3_open_5 (by decide) rfl ?_
  refine vAloadN X dX3_open_6 0 rfl ?_
  refine vAloadN X dX3_open_7 1 rfl ?_
  refine vIloadN X dX3_open_8 3 rfl ?_
  obtain ⟨ix9, hix9⟩ := vp_ix (f := f) hx
  refine vCallVd X [.ref (rd)] (cb_rowAt l D k sb L f x aW aG aR tr tg (gW) (gG) (gR) r h2 hx fx haW faW haG faG haR faR (by omega) eh2) (vGV q_341 q_343 q_3 q_24 q_344) ⟨by decide, by decide, (show _ = some 1 from by decide +kernel)⟩ ⟨Nat.le_of_ble_eq_true rfl, Nat.le_of_ble_eq_true rfl⟩ ix9 3 rfl rfl (hix9.trans (by rw [fx])) rfl (Nat.le_of_ble_eq_true rfl) dX3_open_9 ⟨Nat.le_of_ble_eq_true rfl, Nat.le_of_ble_eq_true rfl⟩ ?_
  obtain ⟨ix12, hix12⟩ := vp_ix (f := f) hrd
  refine vCallVd X [] (cq_start l D k sb L f rd w b (n) (s) (P) (M) (T) (Mt) (g) h2 b2 (n2) (g2) hrd frd hw fw hb fb (by omega) (by omega) hh2 fh2 hb2 fb2 (by omega)) (vGV q_194 q_195 q_196 q_28 q_197) ⟨by decide, by decide, (show _ = some 1 from by decide +kernel)⟩ ⟨Nat.le_of_ble_eq_true rfl, Nat.le_of_ble_eq_true rfl⟩ ix12 1 rfl rfl (hix12.trans (by rw [frd])) rfl (Nat.le_of_ble_eq_true rfl) dX3_open_12 ⟨Nat.le_of_ble_eq_true rfl, Nat.le_of_ble_eq_true rfl⟩ ?_
  refine vAloadN X dX3_open_15 0 rfl ?_
  obtain ⟨ix16, hix16⟩ := vp_ix (f := va_up f rd (.inr (1, [.ref (h2), .int (nI (1)), .int (nI (0)), .int (nI (0)), .int (nI (0)), .int (nI (0))]))) hrd
  refine vCallVd X [] (cq_remaining l D k sb L (va_up f rd (.inr (1, [.ref (h2), .int (nI (1)), .int (nI (0)), .int (nI (0)), .int (nI (0)), .int (nI (0))]))) rd h2 b2 (n2) (1) (0) (0) (0) (0) (g2)  hrd (va_up_eq _ _ _) hh2 ((va_up_nq _ (ne_of fh2 frd (by simp))).trans fh2) hb2 ((va_up_nq _ (ne_of fb2 frd (by simp))).trans fb2) (by omega) (by omega) ) (vGV q_161 q_162 q_163 q_28 q_164) ⟨by decide, by decide, (show _ = some 0 from by decide +kernel)⟩ ⟨Nat.le_of_ble_eq_true rfl, Nat.le_of_ble_eq_true rfl⟩ ix16 1 rfl rfl (hix16.trans (by rw [(va_up_eq _ _ _)])) rfl (Nat.le_of_ble_eq_true rfl) dX3_open_16 ⟨Nat.le_of_ble_eq_true rfl, Nat.le_of_ble_eq_true rfl⟩ ?_
  exact vRetI X hret dX3_open_19 ⟨rfl, rfl⟩
set_option maxHeartbeats 4000000 in
set_option maxRecDepth 100000 in
theorem ct_open1 (l : Launch) (D : va_G) (k : Nat → ClassId) (sb : Nat) (L : List Nat) (f : Nat → va_E) (x aW aG aR tr tg : Nat) (gW gG gR : Nat → Option Nat) (v z : Int32) (hl : l.stackTraces = false) (hx : x ∈ L) (fx : f x = .inr (3, [.ref aW, .ref aG, .ref aR, .ref tr, .ref tg])) (haW : aW ∈ L) (faW : f aW = .inl (k 4, 4, .inr (.inr (.inr (.inr gW))))) (haG : aG ∈ L) (faG : f aG = .inl (k 2, 3, .inr (.inr (.inr (.inr gG))))) (haR : aR ∈ L) (faR : f aR = .inl (k 3, 3, .inr (.inr (.inr (.inr gR))))) (hv : ¬ vOther v) : vCtX l yX3_open cX3_open 4 (some .int) 10 152 1 6 D vCl (vTy k) sb [.ref (x), .int (v), .int (z)] (va_pl L f) "java/lang/IndexOutOfBoundsException" := by
  refine vOfX (by decide +kernel) (Nat.le_of_ble_eq_true rfl) (fun p9 e9 s9 m9 below9 meth9 c9 X hE hnt => ?_)
  refine vAloadN X dX3_open_0 0 rfl ?_
  refine vIloadN X dX3_open_1 1 rfl ?_
  obtain ⟨ix2, hix2⟩ := vp_ix (f := f) hx
  exact vCallVT X hE hnt [] (ct_readerAt l D k sb L f x aW aG aR tr tg (gW) (gG) (gR) v hl hx fx haW faW haG faG haR faR hv) (vGV q_522 q_524 q_6 q_24 q_525) ⟨by decide, by decide, (show _ = some 1 from by decide +kernel)⟩ ⟨Nat.le_of_ble_eq_true rfl, Nat.le_of_ble_eq_true rfl⟩ ix2 3 rfl rfl (hix2.trans (by rw [fx])) rfl (Nat.le_of_ble_eq_true rfl) dX3_open_2 ⟨(Nat.le_of_ble_eq_true rfl), (Nat.le_of_ble_eq_true rfl)⟩ (Nat.le_of_ble_eq_true rfl) (Nat.le_of_ble_eq_true rfl)
set_option maxHeartbeats 4000000 in
set_option maxRecDepth 100000 in
theorem ct_open2 (l : Launch) (D : va_G) (k : Nat → ClassId) (sb : Nat) (L : List Nat) (f : Nat → va_E) (x aW aG aR tr tg : Nat) (gW gG gR : Nat → Option Nat) (q : Nat) (rd w b n s P M T Mt : Nat) (g : Nat → Int32) (z : Int32) (hl : l.stackTraces = false) (hx : x ∈ L) (fx : f x = .inr (3, [.ref aW, .ref aG, .ref aR, .ref tr, .ref tg])) (haW : aW ∈ L) (faW : f aW = .inl (k 4, 4, .inr (.inr (.inr (.inr gW))))) (haG : aG ∈ L) (faG : f aG = .inl (k 2, 3, .inr (.inr (.inr (.inr gG))))) (haR : aR ∈ L) (faR : f aR = .inl (k 3, 3, .inr (.inr (.inr (.inr gR))))) (hq9 : q < 3) (eq : gR q = some rd) (hrd : rd ∈ L) (frd : f rd = .inr (1, [.ref w, .int (nI s), .int (nI P), .int (nI M), .int (nI T), .int (nI Mt)])) (hw : w ∈ L) (fw : f w = .inr (2, [.ref b])) (hb : b ∈ L) (fb : f b = .inl (k 0, n, .inl g)) (hn : n ≤ 256) (hP : P ≤ n) (hz : ¬ vRow z) : vCtX l yX3_open cX3_open 4 (some .int) 10 152 1 6 D vCl (vTy k) sb [.ref (x), .int (nI (q)), .int (z)] (va_pl L f) "java/lang/IndexOutOfBoundsException" := by
  refine vOfX (by decide +kernel) (Nat.le_of_ble_eq_true rfl) (fun p9 e9 s9 m9 below9 meth9 c9 X hE hnt => ?_)
  refine vAloadN X dX3_open_0 0 rfl ?_
  refine vIloadN X dX3_open_1 1 rfl ?_
  obtain ⟨ix2, hix2⟩ := vp_ix (f := f) hx
  refine vCallVd X [] (cb_readerAt l D k sb L f x aW aG aR tr tg (gW) (gG) (gR) q rd hx fx haW faW haG faG haR faR (by omega) eq) (vGV q_522 q_524 q_6 q_24 q_525) ⟨by decide, by decide, (show _ = some 1 from by decide +kernel)⟩ ⟨Nat.le_of_ble_eq_true rfl, Nat.le_of_ble_eq_true rfl⟩ ix2 3 rfl rfl (hix2.trans (by rw [fx])) rfl (Nat.le_of_ble_eq_true rfl) dX3_open_2 ⟨Nat.le_of_ble_eq_true rfl, Nat.le_of_ble_eq_true rfl⟩ ?_
  refine vAstoreN X [(3, .ref (rd)), (0, .ref (x)), (1, .int (nI (q))), (2, .int (z))] dX3_open_5 (by decide) rfl ?_
  refine vAloadN X dX3_open_6 0 rfl ?_
  refine vAloadN X dX3_open_7 1 rfl ?_
  refine vIloadN X dX3_open_8 3 rfl ?_
  obtain ⟨ix9, hix9⟩ := vp_ix (f := f) hx
  exact vCallVT X hE hnt [.ref (rd)] (ct_rowAt l D k sb L f x aW aG aR tr tg (gW) (gG) (gR) z hl hx fx haW faW haG faG haR faR hz) (vGV q_341 q_343 q_3 q_24 q_344) ⟨by decide, by decide, (show _ = some 1 from by decide +kernel)⟩ ⟨Nat.le_of_ble_eq_true rfl, Nat.le_of_ble_eq_true rfl⟩ ix9 3 rfl rfl (hix9.trans (by rw [fx])) rfl (Nat.le_of_ble_eq_true rfl) dX3_open_9 ⟨(Nat.le_of_ble_eq_true rfl), (Nat.le_of_ble_eq_true rfl)⟩ (Nat.le_of_ble_eq_true rfl) (Nat.le_of_ble_eq_true rfl)
set_option maxHeartbeats 4000000 in
set_option maxRecDepth 100000 in
theorem cb_isOpen1 (l : Launch) (D : va_G) (k : Nat → ClassId) (sb : Nat) (L : List Nat) (f : Nat → va_E) (x aW aG aR tr tg : Nat) (gW gG gR : Nat → Option Nat) (q : Nat) (rd w b n s P M T Mt : Nat) (g : Nat → Int32) (hx : x ∈ L) (fx : f x = .inr (3, [.ref aW, .ref aG, .ref aR, .ref tr, .ref tg])) (haW : aW ∈ L) (faW : f aW = .inl (k 4, 4, .inr (.inr (.inr (.inr gW))))) (haG : aG ∈ L) (faG : f aG = .inl (k 2, 3, .inr (.inr (.inr (.inr gG))))) (haR : aR ∈ L) (faR : f aR = .inl (k 3, 3, .inr (.inr (.inr (.inr gR))))) (hq9 : q < 3) (eq : gR q = some rd) (hrd : rd ∈ L) (frd : f rd = .inr (1, [.ref w, .int (nI s), .int (nI P), .int (nI M), .int (nI T), .int (nI Mt)])) (hw : w ∈ L) (fw : f w = .inr (2, [.ref b])) (hb : b ∈ L) (fb : f b = .inl (k 0, n, .inl g)) (hn : n ≤ 256) (hP : P ≤ n) (hs : s = 1) : vCt l yX3_isOpen cX3_isOpen 2 (some .boolean) 9 131 0 0 D vCl (vTy k) sb [.ref (x), .int (nI (q))] (va_pl L f) (vDet (some (.int (nI (1)))) (va_pl L f)) := by
  refine vOf (by decide +kernel) (Nat.le_of_ble_eq_true rfl) (fun p9 e9 s9 m9 below9 meth9 c9 X hret hmn => ?_)
  refine vAloadN X dX3_isOpen_0 0 rfl ?_
  refine vIloadN X dX3_isOpen_1 1 rfl ?_
  obtain ⟨ix2, hix2⟩ := vp_ix (f := f) hx
  refine vCallVd X [] (cb_readerAt l D k sb L f x aW aG aR tr tg (gW) (gG) (gR) q rd hx fx haW faW haG faG haR faR (by omega) eq) (vGV q_522 q_524 q_6 q_24 q_525) ⟨by decide, by decide, (show _ = some 1 from by decide +kernel)⟩ ⟨Nat.le_of_ble_eq_true rfl, Nat.le_of_ble_eq_true rfl⟩ ix2 3 rfl rfl (hix2.trans (by rw [fx])) rfl (Nat.le_of_ble_eq_true rfl) dX3_isOpen_2 ⟨Nat.le_of_ble_eq_true rfl, Nat.le_of_ble_eq_true rfl⟩ ?_
  obtain ⟨ix5, hix5⟩ := vp_ix (f := f) hrd
  refine vCallVd X [] (cq_isStarted1 l D k sb L f rd w b (n) (s) (P) (M) (T) (Mt) (g)  hrd frd hw fw hb fb (by omega) (by omega) (by first | rfl | assumption)) (vGV q_157 q_158 q_159 q_28 q_160) ⟨by decide, by decide, (show _ = some 0 from by decide +kernel)⟩ ⟨Nat.le_of_ble_eq_true rfl, Nat.le_of_ble_eq_true rfl⟩ ix5 1 rfl rfl (hix5.trans (by rw [frd])) rfl (Nat.le_of_ble_eq_true rfl) dX3_isOpen_5 ⟨Nat.le_of_ble_eq_true rfl, Nat.le_of_ble_eq_true rfl⟩ ?_
  exact vRetZ X hret (by first | rfl | exact nar_bI _) dX3_isOpen_8 ⟨rfl, rfl⟩
set_option maxHeartbeats 4000000 in
set_option maxRecDepth 100000 in
theorem cb_isOpen0 (l : Launch) (D : va_G) (k : Nat → ClassId) (sb : Nat) (L : List Nat) (f : Nat → va_E) (x aW aG aR tr tg : Nat) (gW gG gR : Nat → Option Nat) (q : Nat) (rd w b n s P M T Mt : Nat) (g : Nat → Int32) (hx : x ∈ L) (fx : f x = .inr (3, [.ref aW, .ref aG, .ref aR, .ref tr, .ref tg])) (haW : aW ∈ L) (faW : f aW = .inl (k 4, 4, .inr (.inr (.inr (.inr gW))))) (haG : aG ∈ L) (faG : f aG = .inl (k 2, 3, .inr (.inr (.inr (.inr gG))))) (haR : aR ∈ L) (faR : f aR = .inl (k 3, 3, .inr (.inr (.inr (.inr gR))))) (hq9 : q < 3) (eq : gR q = some rd) (hrd : rd ∈ L) (frd : f rd = .inr (1, [.ref w, .int (nI s), .int (nI P), .int (nI M), .int (nI T), .int (nI Mt)])) (hw : w ∈ L) (fw : f w = .inr (2, [.ref b])) (hb : b ∈ L) (fb : f b = .inl (k 0, n, .inl g)) (hn : n ≤ 256) (hP : P ≤ n) (hs : s = 0) : vCt l yX3_isOpen cX3_isOpen 2 (some .boolean) 9 131 0 0 D vCl (vTy k) sb [.ref (x), .int (nI (q))] (va_pl L f) (vDet (some (.int (nI (0)))) (va_pl L f)) := by
  refine vOf (by decide +kernel) (Nat.le_of_ble_eq_true rfl) (fun p9 e9 s9 m9 below9 meth9 c9 X hret hmn => ?_)
  refine vAloadN X dX3_isOpen_0 0 rfl ?_
  refine vIloadN X dX3_isOpen_1 1 rfl ?_
  obtain ⟨ix2, hix2⟩ := vp_ix (f := f) hx
  refine vCallVd X [] (cb_readerAt l D k sb L f x aW aG aR tr tg (gW) (gG) (gR) q rd hx fx haW faW haG faG haR faR (by omega) eq) (vGV q_522 q_524 q_6 q_24 q_525) ⟨by decide, by decide, (show _ = some 1 from by decide +kernel)⟩ ⟨Nat.le_of_ble_eq_true rfl, Nat.le_of_ble_eq_true rfl⟩ ix2 3 rfl rfl (hix2.trans (by rw [fx])) rfl (Nat.le_of_ble_eq_true rfl) dX3_isOpen_2 ⟨Nat.le_of_ble_eq_true rfl, Nat.le_of_ble_eq_true rfl⟩ ?_
  obtain ⟨ix5, hix5⟩ := vp_ix (f := f) hrd
  refine vCallVd X [] (cq_isStarted0 l D k sb L f rd w b (n) (s) (P) (M) (T) (Mt) (g)  hrd frd hw fw hb fb (by omega) (by omega) (by first | rfl | assumption)) (vGV q_157 q_158 q_159 q_28 q_160) ⟨by decide, by decide, (show _ = some 0 from by decide +kernel)⟩ ⟨Nat.le_of_ble_eq_true rfl, Nat.le_of_ble_eq_true rfl⟩ ix5 1 rfl rfl (hix5.trans (by rw [frd])) rfl (Nat.le_of_ble_eq_true rfl) dX3_isOpen_5 ⟨Nat.le_of_ble_eq_true rfl, Nat.le_of_ble_eq_true rfl⟩ ?_
  exact vRetZ X hret (by first | rfl | exact nar_bI _) dX3_isOpen_8 ⟨rfl, rfl⟩
set_option maxHeartbeats 4000000 in
set_option maxRecDepth 100000 in
theorem ct_isOpen1 (l : Launch) (D : va_G) (k : Nat → ClassId) (sb : Nat) (L : List Nat) (f : Nat → va_E) (x aW aG aR tr tg : Nat) (gW gG gR : Nat → Option Nat) (v : Int32) (hl : l.stackTraces = false) (hx : x ∈ L) (fx : f x = .inr (3, [.ref aW, .ref aG, .ref aR, .ref tr, .ref tg])) (haW : aW ∈ L) (faW : f aW = .inl (k 4, 4, .inr (.inr (.inr (.inr gW))))) (haG : aG ∈ L) (faG : f aG = .inl (k 2, 3, .inr (.inr (.inr (.inr gG))))) (haR : aR ∈ L) (faR : f aR = .inl (k 3, 3, .inr (.inr (.inr (.inr gR))))) (hv : ¬ vOther v) : vCtX l yX3_isOpen cX3_isOpen 2 (some .boolean) 9 131 1 6 D vCl (vTy k) sb [.ref (x), .int (v)] (va_pl L f) "java/lang/IndexOutOfBoundsException" := by
  refine vOfX (by decide +kernel) (Nat.le_of_ble_eq_true rfl) (fun p9 e9 s9 m9 below9 meth9 c9 X hE hnt => ?_)
  refine vAloadN X dX3_isOpen_0 0 rfl ?_
  refine vIloadN X dX3_isOpen_1 1 rfl ?_
  obtain ⟨ix2, hix2⟩ := vp_ix (f := f) hx
  exact vCallVT X hE hnt [] (ct_readerAt l D k sb L f x aW aG aR tr tg (gW) (gG) (gR) v hl hx fx haW faW haG faG haR faR hv) (vGV q_522 q_524 q_6 q_24 q_525) ⟨by decide, by decide, (show _ = some 1 from by decide +kernel)⟩ ⟨Nat.le_of_ble_eq_true rfl, Nat.le_of_ble_eq_true rfl⟩ ix2 3 rfl rfl (hix2.trans (by rw [fx])) rfl (Nat.le_of_ble_eq_true rfl) dX3_isOpen_2 ⟨(Nat.le_of_ble_eq_true rfl), (Nat.le_of_ble_eq_true rfl)⟩ (Nat.le_of_ble_eq_true rfl) (Nat.le_of_ble_eq_true rfl)
set_option maxHeartbeats 4000000 in
set_option maxRecDepth 100000 in
theorem cb_read0 (l : Launch) (D : va_G) (k : Nat → ClassId) (sb : Nat) (L : List Nat) (f : Nat → va_E) (x aW aG aR tr tg : Nat) (gW gG gR : Nat → Option Nat) (q : Nat) (rd w b n s P M T Mt : Nat) (g : Nat → Int32) (hx : x ∈ L) (fx : f x = .inr (3, [.ref aW, .ref aG, .ref aR, .ref tr, .ref tg])) (haW : aW ∈ L) (faW : f aW = .inl (k 4, 4, .inr (.inr (.inr (.inr gW))))) (haG : aG ∈ L) (faG : f aG = .inl (k 2, 3, .inr (.inr (.inr (.inr gG))))) (haR : aR ∈ L) (faR : f aR = .inl (k 3, 3, .inr (.inr (.inr (.inr gR))))) (hq9 : q < 3) (eq : gR q = some rd) (hrd : rd ∈ L) (frd : f rd = .inr (1, [.ref w, .int (nI s), .int (nI P), .int (nI M), .int (nI T), .int (nI Mt)])) (hw : w ∈ L) (fw : f w = .inr (2, [.ref b])) (hb : b ∈ L) (fb : f b = .inl (k 0, n, .inl g)) (hn : n ≤ 256) (hP : P ≤ n) (hs : s = 1) (he : P = n) : vCt l yX3_read cX3_read 3 (some .int) 9 131 0 0 D vCl (vTy k) sb [.ref (x), .int (nI (q))] (va_pl L f) (vDet (some (.int ((-1 : Int32)))) (va_pl L f)) := by
  refine vOf (by decide +kernel) (Nat.le_of_ble_eq_true rfl) (fun p9 e9 s9 m9 below9 meth9 c9 X hret hmn => ?_)
  refine vAloadN X dX3_read_0 0 rfl ?_
  refine vIloadN X dX3_read_1 1 rfl ?_
  obtain ⟨ix2, hix2⟩ := vp_ix (f := f) hx
  refine vCallVd X [] (cb_readerAt l D k sb L f x aW aG aR tr tg (gW) (gG) (gR) q rd hx fx haW faW haG faG haR faR (by omega) eq) (vGV q_522 q_524 q_6 q_24 q_525) ⟨by decide, by decide, (show _ = some 1 from by decide +kernel)⟩ ⟨Nat.le_of_ble_eq_true rfl, Nat.le_of_ble_eq_true rfl⟩ ix2 3 rfl rfl (hix2.trans (by rw [fx])) rfl (Nat.le_of_ble_eq_true rfl) dX3_read_2 ⟨Nat.le_of_ble_eq_true rfl, Nat.le_of_ble_eq_true rfl⟩ ?_
  refine vAstoreN X [(2, .ref (rd)), (0, .ref (x)), (1, .int (nI (q)))] dX3_read_5 (by decide) rfl ?_
  refine vAloadN X dX3_read_6 0 rfl ?_
  refine vCallSd X [] (cb_needOpen l D k sb L f rd w b (n) (s) (P) (M) (T) (Mt) (g)  hrd frd hw fw hb fb (by omega) (by omega) (by first | rfl | assumption)) (vGS q_542 q_543 q_24 q_544) rfl ⟨by decide, by decide, (show _ = some 1 from by decide +kernel)⟩ ⟨Nat.le_of_ble_eq_true rfl, Nat.le_of_ble_eq_true rfl⟩ rfl (Nat.le_of_ble_eq_true rfl) dX3_read_7 ⟨Nat.le_of_ble_eq_true rfl, Nat.le_of_ble_eq_true rfl⟩ ?_
  refine vAloadN X dX3_read_10 0 rfl ?_
  obtain ⟨ix11, hix11⟩ := vp_ix (f := f) hrd
  refine vCallVd X [] (cq_remaining l D k sb L f rd w b (n) (s) (P) (M) (T) (Mt) (g)  hrd frd hw fw hb fb (by omega) (by omega) ) (vGV q_161 q_162 q_163 q_28 q_164) ⟨by decide, by decide, (show _ = some 0 from by decide +kernel)⟩ ⟨Nat.le_of_ble_eq_true rfl, Nat.le_of_ble_eq_true rfl⟩ ix11 1 rfl rfl (hix11.trans (by rw [frd])) rfl (Nat.le_of_ble_eq_true rfl) dX3_read_11 ⟨Nat.le_of_ble_eq_true rfl, Nat.le_of_ble_eq_true rfl⟩ ?_
  refine vIfN_neF X 19 dX3_read_14 (by decide) (by omega) (by omega) ?_
  refine vIconst X dX3_read_17 (v := (-1 : Int32)) (by decide) ?_
  exact vRetI X hret dX3_read_18 ⟨rfl, rfl⟩
set_option maxHeartbeats 4000000 in
set_option maxRecDepth 100000 in
theorem cb_read1 (l : Launch) (D : va_G) (k : Nat → ClassId) (sb : Nat) (L : List Nat) (f : Nat → va_E) (x aW aG aR tr tg : Nat) (gW gG gR : Nat → Option Nat) (q : Nat) (rd w b n s P M T Mt : Nat) (g : Nat → Int32) (hx : x ∈ L) (fx : f x = .inr (3, [.ref aW, .ref aG, .ref aR, .ref tr, .ref tg])) (haW : aW ∈ L) (faW : f aW = .inl (k 4, 4, .inr (.inr (.inr (.inr gW))))) (haG : aG ∈ L) (faG : f aG = .inl (k 2, 3, .inr (.inr (.inr (.inr gG))))) (haR : aR ∈ L) (faR : f aR = .inl (k 3, 3, .inr (.inr (.inr (.inr gR))))) (hq9 : q < 3) (eq : gR q = some rd) (hrd : rd ∈ L) (frd : f rd = .inr (1, [.ref w, .int (nI s), .int (nI P), .int (nI M), .int (nI T), .int (nI Mt)])) (hw : w ∈ L) (fw : f w = .inr (2, [.ref b])) (hb : b ∈ L) (fb : f b = .inl (k 0, n, .inl g)) (hn : n ≤ 256) (hP : P ≤ n) (hs : s = 1) (he : P < n) : vCt l yX3_read cX3_read 3 (some .int) 9 131 0 0 D vCl (vTy k) sb [.ref (x), .int (nI (q))] (va_pl L f) (vDet (some (.int ((g P) &&& (nI 255)))) (va_pl L (va_up f rd (.inr (1, [.ref (w), .int (nI (s)), .int (nI ((P) + 1)), .int (nI (M)), .int (nI ((T) + (1))), .int (nI (Mt))]))))) := by
  refine vOf (by decide +kernel) (Nat.le_of_ble_eq_true rfl) (fun p9 e9 s9 m9 below9 meth9 c9 X hret hmn => ?_)
  refine vAloadN X dX3_read_0 0 rfl ?_
  refine vIloadN X dX3_read_1 1 rfl ?_
  obtain ⟨ix2, hix2⟩ := vp_ix (f := f) hx
  refine vCallVd X [] (cb_readerAt l D k sb L f x aW aG aR tr tg (gW) (gG) (gR) q rd hx fx haW faW haG faG haR faR (by omega) eq) (vGV q_522 q_524 q_6 q_24 q_525) ⟨by decide, by decide, (show _ = some 1 from by decide +kernel)⟩ ⟨Nat.le_of_ble_eq_true rfl, Nat.le_of_ble_eq_true rfl⟩ ix2 3 rfl rfl (hix2.trans (by rw [fx])) rfl (Nat.le_of_ble_eq_true rfl) dX3_read_2 ⟨Nat.le_of_ble_eq_true rfl, Nat.le_of_ble_eq_true rfl⟩ ?_
  refine vAstoreN X [(2, .ref (rd)), (0, .ref (x)), (1, .int (nI (q)))] dX3_read_5 (by decide) rfl ?_
  refine vAloadN X dX3_read_6 0 rfl ?_
  refine vCallSd X [] (cb_needOpen l D k sb L f rd w b (n) (s) (P) (M) (T) (Mt) (g)  hrd frd hw fw hb fb (by omega) (by omega) (by first | rfl | assumption)) (vGS q_542 q_543 q_24 q_544) rfl ⟨by decide, by decide, (show _ = some 1 from by decide +kernel)⟩ ⟨Nat.le_of_ble_eq_true rfl, Nat.le_of_ble_eq_true rfl⟩ rfl (Nat.le_of_ble_eq_true rfl) dX3_read_7 ⟨Nat.le_of_ble_eq_true rfl, Nat.le_of_ble_eq_true rfl⟩ ?_
  refine vAloadN X dX3_read_10 0 rfl ?_
  obtain ⟨ix11, hix11⟩ := vp_ix (f := f) hrd
  refine vCallVd X [] (cq_remaining l D k sb L f rd w b (n) (s) (P) (M) (T) (Mt) (g)  hrd frd hw fw hb fb (by omega) (by omega) ) (vGV q_161 q_162 q_163 q_28 q_164) ⟨by decide, by decide, (show _ = some 0 from by decide +kernel)⟩ ⟨Nat.le_of_ble_eq_true rfl, Nat.le_of_ble_eq_true rfl⟩ ix11 1 rfl rfl (hix11.trans (by rw [frd])) rfl (Nat.le_of_ble_eq_true rfl) dX3_read_11 ⟨Nat.le_of_ble_eq_true rfl, Nat.le_of_ble_eq_true rfl⟩ ?_
  refine vIfN_neT X 19 dX3_read_14 (by decide) (by omega) (by omega) ?_
  refine vAloadN X dX3_read_19 0 rfl ?_
  refine vIconst X dX3_read_20 (v := nI (1)) (by decide) ?_
  obtain ⟨ix21, hix21⟩ := vp_ix (f := f) hrd
  refine vCallVd X [] (cq_tell l D k sb L f rd w b (n) (s) (P) (M) (T) (Mt) (g) 1 hrd frd hw fw hb fb (by omega) (by omega) ) (vGV q_250 q_251 q_252 q_28 q_253) ⟨by decide, by decide, (show _ = some 1 from by decide +kernel)⟩ ⟨Nat.le_of_ble_eq_true rfl, Nat.le_of_ble_eq_true rfl⟩ ix21 1 rfl rfl (hix21.trans (by rw [frd])) rfl (Nat.le_of_ble_eq_true rfl) dX3_read_21 ⟨Nat.le_of_ble_eq_true rfl, Nat.le_of_ble_eq_true rfl⟩ ?_
  refine vPop X dX3_read_24 rfl ?_
  refine vAloadN X dX3_read_25 0 rfl ?_
  obtain ⟨ix26, hix26⟩ := vp_ix (f := va_up f rd (.inr (1, [.ref (w), .int (nI (s)), .int (nI (P)), .int (nI (M)), .int (nI ((T) + (1))), .int (nI (Mt))]))) hrd
  refine vCallVd X [] (cq_next l D k sb L (va_up f rd (.inr (1, [.ref (w), .int (nI (s)), .int (nI (P)), .int (nI (M)), .int (nI ((T) + (1))), .int (nI (Mt))]))) rd w b (n) (s) (P) (M) ((T) + (1)) (Mt) (g)  hrd (va_up_eq _ _ _) hw ((va_up_nq _ (ne_of fw frd (by simp))).trans fw) hb ((va_up_nq _ (ne_of fb frd (by simp))).trans fb) (by omega) (by omega) (by omega)) (vGV q_202 q_203 q_204 q_28 q_205) ⟨by decide, by decide, (show _ = some 0 from by decide +kernel)⟩ ⟨Nat.le_of_ble_eq_true rfl, Nat.le_of_ble_eq_true rfl⟩ ix26 1 rfl rfl (hix26.trans (by rw [(va_up_eq _ _ _)])) rfl (Nat.le_of_ble_eq_true rfl) dX3_read_26 ⟨Nat.le_of_ble_eq_true rfl, Nat.le_of_ble_eq_true rfl⟩ ?_
  refine vWs (ws' := va_pl L (va_up f rd (.inr (1, [.ref (w), .int (nI (s)), .int (nI ((P) + 1)), .int (nI (M)), .int (nI ((T) + (1))), .int (nI (Mt))])))) (congrArg (fun φ9 => va_pl L (φ9)) (va_up_up _ _ _ _)) ?_
  exact vRetI X hret dX3_read_29 ⟨rfl, rfl⟩
set_option maxHeartbeats 4000000 in
set_option maxRecDepth 100000 in
theorem ct_read1 (l : Launch) (D : va_G) (k : Nat → ClassId) (sb : Nat) (L : List Nat) (f : Nat → va_E) (x aW aG aR tr tg : Nat) (gW gG gR : Nat → Option Nat) (v : Int32)  (hl : l.stackTraces = false) (hx : x ∈ L) (fx : f x = .inr (3, [.ref aW, .ref aG, .ref aR, .ref tr, .ref tg])) (haW : aW ∈ L) (faW : f aW = .inl (k 4, 4, .inr (.inr (.inr (.inr gW))))) (haG : aG ∈ L) (faG : f aG = .inl (k 2, 3, .inr (.inr (.inr (.inr gG))))) (haR : aR ∈ L) (faR : f aR = .inl (k 3, 3, .inr (.inr (.inr (.inr gR))))) (hv : ¬ vOther v) : vCtX l yX3_read cX3_read 3 (some .int) 9 131 1 6 D vCl (vTy k) sb [.ref (x), .int (v)] (va_pl L f) "java/lang/IndexOutOfBoundsException" := by
  refine vOfX (by decide +kernel) (Nat.le_of_ble_eq_true rfl) (fun p9 e9 s9 m9 below9 meth9 c9 X hE hnt => ?_)
  refine vAloadN X dX3_read_0 0 rfl ?_
  refine vIloadN X dX3_read_1 1 rfl ?_
  obtain ⟨ix2, hix2⟩ := vp_ix (f := f) hx
  exact vCallVT X hE hnt [] (ct_readerAt l D k sb L f x aW aG aR tr tg (gW) (gG) (gR) v hl hx fx haW faW haG faG haR faR hv) (vGV q_522 q_524 q_6 q_24 q_525) ⟨by decide, by decide, (show _ = some 1 from by decide +kernel)⟩ ⟨Nat.le_of_ble_eq_true rfl, Nat.le_of_ble_eq_true rfl⟩ ix2 3 rfl rfl (hix2.trans (by rw [fx])) rfl (Nat.le_of_ble_eq_true rfl) dX3_read_2 ⟨(Nat.le_of_ble_eq_true rfl), (Nat.le_of_ble_eq_true rfl)⟩ (Nat.le_of_ble_eq_true rfl) (Nat.le_of_ble_eq_true rfl)
set_option maxHeartbeats 4000000 in
set_option maxRecDepth 100000 in
theorem ct_read2 (l : Launch) (D : va_G) (k : Nat → ClassId) (sb : Nat) (L : List Nat) (f : Nat → va_E) (x aW aG aR tr tg : Nat) (gW gG gR : Nat → Option Nat) (q : Nat) (rd w b n s P M T Mt : Nat) (g : Nat → Int32)  (hl : l.stackTraces = false) (hx : x ∈ L) (fx : f x = .inr (3, [.ref aW, .ref aG, .ref aR, .ref tr, .ref tg])) (haW : aW ∈ L) (faW : f aW = .inl (k 4, 4, .inr (.inr (.inr (.inr gW))))) (haG : aG ∈ L) (faG : f aG = .inl (k 2, 3, .inr (.inr (.inr (.inr gG))))) (haR : aR ∈ L) (faR : f aR = .inl (k 3, 3, .inr (.inr (.inr (.inr gR))))) (hq9 : q < 3) (eq : gR q = some rd) (hrd : rd ∈ L) (frd : f rd = .inr (1, [.ref w, .int (nI s), .int (nI P), .int (nI M), .int (nI T), .int (nI Mt)])) (hw : w ∈ L) (fw : f w = .inr (2, [.ref b])) (hb : b ∈ L) (fb : f b = .inl (k 0, n, .inl g)) (hn : n ≤ 256) (hP : P ≤ n) (hs : s = 0) : vCtX l yX3_read cX3_read 3 (some .int) 9 131 1 6 D vCl (vTy k) sb [.ref (x), .int (nI (q))] (va_pl L f) "java/lang/UnsupportedOperationException" := by
  refine vOfX (by decide +kernel) (Nat.le_of_ble_eq_true rfl) (fun p9 e9 s9 m9 below9 meth9 c9 X hE hnt => ?_)
  refine vAloadN X dX3_read_0 0 rfl ?_
  refine vIloadN X dX3_read_1 1 rfl ?_
  obtain ⟨ix2, hix2⟩ := vp_ix (f := f) hx
  refine vCallVd X [] (cb_readerAt l D k sb L f x aW aG aR tr tg (gW) (gG) (gR) q rd hx fx haW faW haG faG haR faR (by omega) eq) (vGV q_522 q_524 q_6 q_24 q_525) ⟨by decide, by decide, (show _ = some 1 from by decide +kernel)⟩ ⟨Nat.le_of_ble_eq_true rfl, Nat.le_of_ble_eq_true rfl⟩ ix2 3 rfl rfl (hix2.trans (by rw [fx])) rfl (Nat.le_of_ble_eq_true rfl) dX3_read_2 ⟨Nat.le_of_ble_eq_true rfl, Nat.le_of_ble_eq_true rfl⟩ ?_
  refine vAstoreN X [(2, .ref (rd)), (0, .ref (x)), (1, .int (nI (q)))] dX3_read_5 (by decide) rfl ?_
  refine vAloadN X dX3_read_6 0 rfl ?_
  exact vCallST X hE hnt [] (ct_needOpen l D k sb L f rd w b (n) (s) (P) (M) (T) (Mt) (g) hl hrd frd hw fw hb fb (by omega) (by omega) (by first | rfl | assumption)) (vGS q_542 q_543 q_24 q_544) rfl ⟨by decide, by decide, (show _ = some 1 from by decide +kernel)⟩ ⟨Nat.le_of_ble_eq_true rfl, Nat.le_of_ble_eq_true rfl⟩ rfl (Nat.le_of_ble_eq_true rfl) dX3_read_7 ⟨(Nat.le_of_ble_eq_true rfl), (Nat.le_of_ble_eq_true rfl)⟩ (Nat.le_of_ble_eq_true rfl) (Nat.le_of_ble_eq_true rfl)
set_option maxHeartbeats 4000000 in
set_option maxRecDepth 100000 in
theorem ct_left1 (l : Launch) (D : va_G) (k : Nat → ClassId) (sb : Nat) (L : List Nat) (f : Nat → va_E) (x aW aG aR tr tg : Nat) (gW gG gR : Nat → Option Nat) (v : Int32)  (hl : l.stackTraces = false) (hx : x ∈ L) (fx : f x = .inr (3, [.ref aW, .ref aG, .ref aR, .ref tr, .ref tg])) (haW : aW ∈ L) (faW : f aW = .inl (k 4, 4, .inr (.inr (.inr (.inr gW))))) (haG : aG ∈ L) (faG : f aG = .inl (k 2, 3, .inr (.inr (.inr (.inr gG))))) (haR : aR ∈ L) (faR : f aR = .inl (k 3, 3, .inr (.inr (.inr (.inr gR))))) (hv : ¬ vOther v) : vCtX l yX3_left cX3_left 3 (some .int) 9 131 1 6 D vCl (vTy k) sb [.ref (x), .int (v)] (va_pl L f) "java/lang/IndexOutOfBoundsException" := by
  refine vOfX (by decide +kernel) (Nat.le_of_ble_eq_true rfl) (fun p9 e9 s9 m9 below9 meth9 c9 X hE hnt => ?_)
  refine vAloadN X dX3_left_0 0 rfl ?_
  refine vIloadN X dX3_left_1 1 rfl ?_
  obtain ⟨ix2, hix2⟩ := vp_ix (f := f) hx
  exact vCallVT X hE hnt [] (ct_readerAt l D k sb L f x aW aG aR tr tg (gW) (gG) (gR) v hl hx fx haW faW haG faG haR faR hv) (vGV q_522 q_524 q_6 q_24 q_525) ⟨by decide, by decide, (show _ = some 1 from by decide +kernel)⟩ ⟨Nat.le_of_ble_eq_true rfl, Nat.le_of_ble_eq_true rfl⟩ ix2 3 rfl rfl (hix2.trans (by rw [fx])) rfl (Nat.le_of_ble_eq_true rfl) dX3_left_2 ⟨(Nat.le_of_ble_eq_true rfl), (Nat.le_of_ble_eq_true rfl)⟩ (Nat.le_of_ble_eq_true rfl) (Nat.le_of_ble_eq_true rfl)
set_option maxHeartbeats 4000000 in
set_option maxRecDepth 100000 in
theorem ct_left2 (l : Launch) (D : va_G) (k : Nat → ClassId) (sb : Nat) (L : List Nat) (f : Nat → va_E) (x aW aG aR tr tg : Nat) (gW gG gR : Nat → Option Nat) (q : Nat) (rd w b n s P M T Mt : Nat) (g : Nat → Int32)  (hl : l.stackTraces = false) (hx : x ∈ L) (fx : f x = .inr (3, [.ref aW, .ref aG, .ref aR, .ref tr, .ref tg])) (haW : aW ∈ L) (faW : f aW = .inl (k 4, 4, .inr (.inr (.inr (.inr gW))))) (haG : aG ∈ L) (faG : f aG = .inl (k 2, 3, .inr (.inr (.inr (.inr gG))))) (haR : aR ∈ L) (faR : f aR = .inl (k 3, 3, .inr (.inr (.inr (.inr gR))))) (hq9 : q < 3) (eq : gR q = some rd) (hrd : rd ∈ L) (frd : f rd = .inr (1, [.ref w, .int (nI s), .int (nI P), .int (nI M), .int (nI T), .int (nI Mt)])) (hw : w ∈ L) (fw : f w = .inr (2, [.ref b])) (hb : b ∈ L) (fb : f b = .inl (k 0, n, .inl g)) (hn : n ≤ 256) (hP : P ≤ n) (hs : s = 0) : vCtX l yX3_left cX3_left 3 (some .int) 9 131 1 6 D vCl (vTy k) sb [.ref (x), .int (nI (q))] (va_pl L f) "java/lang/UnsupportedOperationException" := by
  refine vOfX (by decide +kernel) (Nat.le_of_ble_eq_true rfl) (fun p9 e9 s9 m9 below9 meth9 c9 X hE hnt => ?_)
  refine vAloadN X dX3_left_0 0 rfl ?_
  refine vIloadN X dX3_left_1 1 rfl ?_
  obtain ⟨ix2, hix2⟩ := vp_ix (f := f) hx
  refine vCallVd X [] (cb_readerAt l D k sb L f x aW aG aR tr tg (gW) (gG) (gR) q rd hx fx haW faW haG faG haR faR (by omega) eq) (vGV q_522 q_524 q_6 q_24 q_525) ⟨by decide, by decide, (show _ = some 1 from by decide +kernel)⟩ ⟨Nat.le_of_ble_eq_true rfl, Nat.le_of_ble_eq_true rfl⟩ ix2 3 rfl rfl (hix2.trans (by rw [fx])) rfl (Nat.le_of_ble_eq_true rfl) dX3_left_2 ⟨Nat.le_of_ble_eq_true rfl, Nat.le_of_ble_eq_true rfl⟩ ?_
  refine vAstoreN X [(2, .ref (rd)), (0, .ref (x)), (1, .int (nI (q)))] dX3_left_5 (by decide) rfl ?_
  refine vAloadN X dX3_left_6 0 rfl ?_
  exact vCallST X hE hnt [] (ct_needOpen l D k sb L f rd w b (n) (s) (P) (M) (T) (Mt) (g) hl hrd frd hw fw hb fb (by omega) (by omega) (by first | rfl | assumption)) (vGS q_542 q_543 q_24 q_544) rfl ⟨by decide, by decide, (show _ = some 1 from by decide +kernel)⟩ ⟨Nat.le_of_ble_eq_true rfl, Nat.le_of_ble_eq_true rfl⟩ rfl (Nat.le_of_ble_eq_true rfl) dX3_left_7 ⟨(Nat.le_of_ble_eq_true rfl), (Nat.le_of_ble_eq_true rfl)⟩ (Nat.le_of_ble_eq_true rfl) (Nat.le_of_ble_eq_true rfl)
set_option maxHeartbeats 4000000 in
set_option maxRecDepth 100000 in
theorem ct_mark1 (l : Launch) (D : va_G) (k : Nat → ClassId) (sb : Nat) (L : List Nat) (f : Nat → va_E) (x aW aG aR tr tg : Nat) (gW gG gR : Nat → Option Nat) (v : Int32) (c : Int32) (hl : l.stackTraces = false) (hx : x ∈ L) (fx : f x = .inr (3, [.ref aW, .ref aG, .ref aR, .ref tr, .ref tg])) (haW : aW ∈ L) (faW : f aW = .inl (k 4, 4, .inr (.inr (.inr (.inr gW))))) (haG : aG ∈ L) (faG : f aG = .inl (k 2, 3, .inr (.inr (.inr (.inr gG))))) (haR : aR ∈ L) (faR : f aR = .inl (k 3, 3, .inr (.inr (.inr (.inr gR))))) (hv : ¬ vOther v) : vCtX l yX3_mark cX3_mark 4 (some .int) 9 131 1 6 D vCl (vTy k) sb [.ref (x), .int (v), .int (c)] (va_pl L f) "java/lang/IndexOutOfBoundsException" := by
  refine vOfX (by decide +kernel) (Nat.le_of_ble_eq_true rfl) (fun p9 e9 s9 m9 below9 meth9 c9 X hE hnt => ?_)
  refine vAloadN X dX3_mark_0 0 rfl ?_
  refine vIloadN X dX3_mark_1 1 rfl ?_
  obtain ⟨ix2, hix2⟩ := vp_ix (f := f) hx
  exact vCallVT X hE hnt [] (ct_readerAt l D k sb L f x aW aG aR tr tg (gW) (gG) (gR) v hl hx fx haW faW haG faG haR faR hv) (vGV q_522 q_524 q_6 q_24 q_525) ⟨by decide, by decide, (show _ = some 1 from by decide +kernel)⟩ ⟨Nat.le_of_ble_eq_true rfl, Nat.le_of_ble_eq_true rfl⟩ ix2 3 rfl rfl (hix2.trans (by rw [fx])) rfl (Nat.le_of_ble_eq_true rfl) dX3_mark_2 ⟨(Nat.le_of_ble_eq_true rfl), (Nat.le_of_ble_eq_true rfl)⟩ (Nat.le_of_ble_eq_true rfl) (Nat.le_of_ble_eq_true rfl)
set_option maxHeartbeats 4000000 in
set_option maxRecDepth 100000 in
theorem ct_mark2 (l : Launch) (D : va_G) (k : Nat → ClassId) (sb : Nat) (L : List Nat) (f : Nat → va_E) (x aW aG aR tr tg : Nat) (gW gG gR : Nat → Option Nat) (q : Nat) (rd w b n s P M T Mt : Nat) (g : Nat → Int32) (c : Int32) (hl : l.stackTraces = false) (hx : x ∈ L) (fx : f x = .inr (3, [.ref aW, .ref aG, .ref aR, .ref tr, .ref tg])) (haW : aW ∈ L) (faW : f aW = .inl (k 4, 4, .inr (.inr (.inr (.inr gW))))) (haG : aG ∈ L) (faG : f aG = .inl (k 2, 3, .inr (.inr (.inr (.inr gG))))) (haR : aR ∈ L) (faR : f aR = .inl (k 3, 3, .inr (.inr (.inr (.inr gR))))) (hq9 : q < 3) (eq : gR q = some rd) (hrd : rd ∈ L) (frd : f rd = .inr (1, [.ref w, .int (nI s), .int (nI P), .int (nI M), .int (nI T), .int (nI Mt)])) (hw : w ∈ L) (fw : f w = .inr (2, [.ref b])) (hb : b ∈ L) (fb : f b = .inl (k 0, n, .inl g)) (hn : n ≤ 256) (hP : P ≤ n) (hs : s = 0) : vCtX l yX3_mark cX3_mark 4 (some .int) 9 131 1 6 D vCl (vTy k) sb [.ref (x), .int (nI (q)), .int (c)] (va_pl L f) "java/lang/UnsupportedOperationException" := by
  refine vOfX (by decide +kernel) (Nat.le_of_ble_eq_true rfl) (fun p9 e9 s9 m9 below9 meth9 c9 X hE hnt => ?_)
  refine vAloadN X dX3_mark_0 0 rfl ?_
  refine vIloadN X dX3_mark_1 1 rfl ?_
  obtain ⟨ix2, hix2⟩ := vp_ix (f := f) hx
  refine vCallVd X [] (cb_readerAt l D k sb L f x aW aG aR tr tg (gW) (gG) (gR) q rd hx fx haW faW haG faG haR faR (by omega) eq) (vGV q_522 q_524 q_6 q_24 q_525) ⟨by decide, by decide, (show _ = some 1 from by decide +kernel)⟩ ⟨Nat.le_of_ble_eq_true rfl, Nat.le_of_ble_eq_true rfl⟩ ix2 3 rfl rfl (hix2.trans (by rw [fx])) rfl (Nat.le_of_ble_eq_true rfl) dX3_mark_2 ⟨Nat.le_of_ble_eq_true rfl, Nat.le_of_ble_eq_true rfl⟩ ?_
  refine vAstoreN X [(3, .ref (rd)), (0, .ref (x)), (1, .int (nI (q))), (2, .int (c))] dX3_mark_5 (by decide) rfl ?_
  refine vAloadN X dX3_mark_6 0 rfl ?_
  exact vCallST X hE hnt [] (ct_needOpen l D k sb L f rd w b (n) (s) (P) (M) (T) (Mt) (g) hl hrd frd hw fw hb fb (by omega) (by omega) (by first | rfl | assumption)) (vGS q_542 q_543 q_24 q_544) rfl ⟨by decide, by decide, (show _ = some 1 from by decide +kernel)⟩ ⟨Nat.le_of_ble_eq_true rfl, Nat.le_of_ble_eq_true rfl⟩ rfl (Nat.le_of_ble_eq_true rfl) dX3_mark_7 ⟨(Nat.le_of_ble_eq_true rfl), (Nat.le_of_ble_eq_true rfl)⟩ (Nat.le_of_ble_eq_true rfl) (Nat.le_of_ble_eq_true rfl)
set_option maxHeartbeats 4000000 in
set_option maxRecDepth 100000 in
theorem ct_back1 (l : Launch) (D : va_G) (k : Nat → ClassId) (sb : Nat) (L : List Nat) (f : Nat → va_E) (x aW aG aR tr tg : Nat) (gW gG gR : Nat → Option Nat) (v : Int32)  (hl : l.stackTraces = false) (hx : x ∈ L) (fx : f x = .inr (3, [.ref aW, .ref aG, .ref aR, .ref tr, .ref tg])) (haW : aW ∈ L) (faW : f aW = .inl (k 4, 4, .inr (.inr (.inr (.inr gW))))) (haG : aG ∈ L) (faG : f aG = .inl (k 2, 3, .inr (.inr (.inr (.inr gG))))) (haR : aR ∈ L) (faR : f aR = .inl (k 3, 3, .inr (.inr (.inr (.inr gR))))) (hv : ¬ vOther v) : vCtX l yX3_back cX3_back 3 (some .int) 9 131 1 6 D vCl (vTy k) sb [.ref (x), .int (v)] (va_pl L f) "java/lang/IndexOutOfBoundsException" := by
  refine vOfX (by decide +kernel) (Nat.le_of_ble_eq_true rfl) (fun p9 e9 s9 m9 below9 meth9 c9 X hE hnt => ?_)
  refine vAloadN X dX3_back_0 0 rfl ?_
  refine vIloadN X dX3_back_1 1 rfl ?_
  obtain ⟨ix2, hix2⟩ := vp_ix (f := f) hx
  exact vCallVT X hE hnt [] (ct_readerAt l D k sb L f x aW aG aR tr tg (gW) (gG) (gR) v hl hx fx haW faW haG faG haR faR hv) (vGV q_522 q_524 q_6 q_24 q_525) ⟨by decide, by decide, (show _ = some 1 from by decide +kernel)⟩ ⟨Nat.le_of_ble_eq_true rfl, Nat.le_of_ble_eq_true rfl⟩ ix2 3 rfl rfl (hix2.trans (by rw [fx])) rfl (Nat.le_of_ble_eq_true rfl) dX3_back_2 ⟨(Nat.le_of_ble_eq_true rfl), (Nat.le_of_ble_eq_true rfl)⟩ (Nat.le_of_ble_eq_true rfl) (Nat.le_of_ble_eq_true rfl)
set_option maxHeartbeats 4000000 in
set_option maxRecDepth 100000 in
theorem ct_back2 (l : Launch) (D : va_G) (k : Nat → ClassId) (sb : Nat) (L : List Nat) (f : Nat → va_E) (x aW aG aR tr tg : Nat) (gW gG gR : Nat → Option Nat) (q : Nat) (rd w b n s P M T Mt : Nat) (g : Nat → Int32)  (hl : l.stackTraces = false) (hx : x ∈ L) (fx : f x = .inr (3, [.ref aW, .ref aG, .ref aR, .ref tr, .ref tg])) (haW : aW ∈ L) (faW : f aW = .inl (k 4, 4, .inr (.inr (.inr (.inr gW))))) (haG : aG ∈ L) (faG : f aG = .inl (k 2, 3, .inr (.inr (.inr (.inr gG))))) (haR : aR ∈ L) (faR : f aR = .inl (k 3, 3, .inr (.inr (.inr (.inr gR))))) (hq9 : q < 3) (eq : gR q = some rd) (hrd : rd ∈ L) (frd : f rd = .inr (1, [.ref w, .int (nI s), .int (nI P), .int (nI M), .int (nI T), .int (nI Mt)])) (hw : w ∈ L) (fw : f w = .inr (2, [.ref b])) (hb : b ∈ L) (fb : f b = .inl (k 0, n, .inl g)) (hn : n ≤ 256) (hP : P ≤ n) (hs : s = 0) : vCtX l yX3_back cX3_back 3 (some .int) 9 131 1 6 D vCl (vTy k) sb [.ref (x), .int (nI (q))] (va_pl L f) "java/lang/UnsupportedOperationException" := by
  refine vOfX (by decide +kernel) (Nat.le_of_ble_eq_true rfl) (fun p9 e9 s9 m9 below9 meth9 c9 X hE hnt => ?_)
  refine vAloadN X dX3_back_0 0 rfl ?_
  refine vIloadN X dX3_back_1 1 rfl ?_
  obtain ⟨ix2, hix2⟩ := vp_ix (f := f) hx
  refine vCallVd X [] (cb_readerAt l D k sb L f x aW aG aR tr tg (gW) (gG) (gR) q rd hx fx haW faW haG faG haR faR (by omega) eq) (vGV q_522 q_524 q_6 q_24 q_525) ⟨by decide, by decide, (show _ = some 1 from by decide +kernel)⟩ ⟨Nat.le_of_ble_eq_true rfl, Nat.le_of_ble_eq_true rfl⟩ ix2 3 rfl rfl (hix2.trans (by rw [fx])) rfl (Nat.le_of_ble_eq_true rfl) dX3_back_2 ⟨Nat.le_of_ble_eq_true rfl, Nat.le_of_ble_eq_true rfl⟩ ?_
  refine vAstoreN X [(2, .ref (rd)), (0, .ref (x)), (1, .int (nI (q)))] dX3_back_5 (by decide) rfl ?_
  refine vAloadN X dX3_back_6 0 rfl ?_
  exact vCallST X hE hnt [] (ct_needOpen l D k sb L f rd w b (n) (s) (P) (M) (T) (Mt) (g) hl hrd frd hw fw hb fb (by omega) (by omega) (by first | rfl | assumption)) (vGS q_542 q_543 q_24 q_544) rfl ⟨by decide, by decide, (show _ = some 1 from by decide +kernel)⟩ ⟨Nat.le_of_ble_eq_true rfl, Nat.le_of_ble_eq_true rfl⟩ rfl (Nat.le_of_ble_eq_true rfl) dX3_back_7 ⟨(Nat.le_of_ble_eq_true rfl), (Nat.le_of_ble_eq_true rfl)⟩ (Nat.le_of_ble_eq_true rfl) (Nat.le_of_ble_eq_true rfl)
set_option maxHeartbeats 4000000 in
set_option maxRecDepth 100000 in
theorem ct_find1 (l : Launch) (D : va_G) (k : Nat → ClassId) (sb : Nat) (L : List Nat) (f : Nat → va_E) (x aW aG aR tr tg : Nat) (gW gG gR : Nat → Option Nat) (v : Int32) (c : Int32) (hl : l.stackTraces = false) (hx : x ∈ L) (fx : f x = .inr (3, [.ref aW, .ref aG, .ref aR, .ref tr, .ref tg])) (haW : aW ∈ L) (faW : f aW = .inl (k 4, 4, .inr (.inr (.inr (.inr gW))))) (haG : aG ∈ L) (faG : f aG = .inl (k 2, 3, .inr (.inr (.inr (.inr gG))))) (haR : aR ∈ L) (faR : f aR = .inl (k 3, 3, .inr (.inr (.inr (.inr gR))))) (hv : ¬ vOther v) : vCtX l yX3_find cX3_find 5 (some .int) 9 131 1 6 D vCl (vTy k) sb [.ref (x), .int (v), .int (c)] (va_pl L f) "java/lang/IndexOutOfBoundsException" := by
  refine vOfX (by decide +kernel) (Nat.le_of_ble_eq_true rfl) (fun p9 e9 s9 m9 below9 meth9 c9 X hE hnt => ?_)
  refine vAloadN X dX3_find_0 0 rfl ?_
  refine vIloadN X dX3_find_1 1 rfl ?_
  obtain ⟨ix2, hix2⟩ := vp_ix (f := f) hx
  exact vCallVT X hE hnt [] (ct_readerAt l D k sb L f x aW aG aR tr tg (gW) (gG) (gR) v hl hx fx haW faW haG faG haR faR hv) (vGV q_522 q_524 q_6 q_24 q_525) ⟨by decide, by decide, (show _ = some 1 from by decide +kernel)⟩ ⟨Nat.le_of_ble_eq_true rfl, Nat.le_of_ble_eq_true rfl⟩ ix2 3 rfl rfl (hix2.trans (by rw [fx])) rfl (Nat.le_of_ble_eq_true rfl) dX3_find_2 ⟨(Nat.le_of_ble_eq_true rfl), (Nat.le_of_ble_eq_true rfl)⟩ (Nat.le_of_ble_eq_true rfl) (Nat.le_of_ble_eq_true rfl)
set_option maxHeartbeats 4000000 in
set_option maxRecDepth 100000 in
theorem ct_find2 (l : Launch) (D : va_G) (k : Nat → ClassId) (sb : Nat) (L : List Nat) (f : Nat → va_E) (x aW aG aR tr tg : Nat) (gW gG gR : Nat → Option Nat) (q : Nat) (rd w b n s P M T Mt : Nat) (g : Nat → Int32) (c : Int32) (hl : l.stackTraces = false) (hx : x ∈ L) (fx : f x = .inr (3, [.ref aW, .ref aG, .ref aR, .ref tr, .ref tg])) (haW : aW ∈ L) (faW : f aW = .inl (k 4, 4, .inr (.inr (.inr (.inr gW))))) (haG : aG ∈ L) (faG : f aG = .inl (k 2, 3, .inr (.inr (.inr (.inr gG))))) (haR : aR ∈ L) (faR : f aR = .inl (k 3, 3, .inr (.inr (.inr (.inr gR))))) (hq9 : q < 3) (eq : gR q = some rd) (hrd : rd ∈ L) (frd : f rd = .inr (1, [.ref w, .int (nI s), .int (nI P), .int (nI M), .int (nI T), .int (nI Mt)])) (hw : w ∈ L) (fw : f w = .inr (2, [.ref b])) (hb : b ∈ L) (fb : f b = .inl (k 0, n, .inl g)) (hn : n ≤ 256) (hP : P ≤ n) (hs : s = 0) : vCtX l yX3_find cX3_find 5 (some .int) 9 131 1 6 D vCl (vTy k) sb [.ref (x), .int (nI (q)), .int (c)] (va_pl L f) "java/lang/UnsupportedOperationException" := by
  refine vOfX (by decide +kernel) (Nat.le_of_ble_eq_true rfl) (fun p9 e9 s9 m9 below9 meth9 c9 X hE hnt => ?_)
  refine vAloadN X dX3_find_0 0 rfl ?_
  refine vIloadN X dX3_find_1 1 rfl ?_
  obtain ⟨ix2, hix2⟩ := vp_ix (f := f) hx
  refine vCallVd X [] (cb_readerAt l D k sb L f x aW aG aR tr tg (gW) (gG) (gR) q rd hx fx haW faW haG faG haR faR (by omega) eq) (vGV q_522 q_524 q_6 q_24 q_525) ⟨by decide, by decide, (show _ = some 1 from by decide +kernel)⟩ ⟨Nat.le_of_ble_eq_true rfl, Nat.le_of_ble_eq_true rfl⟩ ix2 3 rfl rfl (hix2.trans (by rw [fx])) rfl (Nat.le_of_ble_eq_true rfl) dX3_find_2 ⟨Nat.le_of_ble_eq_true rfl, Nat.le_of_ble_eq_true rfl⟩ ?_
  refine vAstoreN X [(3, .ref (rd)), (0, .ref (x)), (1, .int (nI (q))), (2, .int (c))] dX3_find_5 (by decide) rfl ?_
  refine vAloadN X dX3_find_6 0 rfl ?_
  exact vCallST X hE hnt [] (ct_needOpen l D k sb L f rd w b (n) (s) (P) (M) (T) (Mt) (g) hl hrd frd hw fw hb fb (by omega) (by omega) (by first | rfl | assumption)) (vGS q_542 q_543 q_24 q_544) rfl ⟨by decide, by decide, (show _ = some 1 from by decide +kernel)⟩ ⟨Nat.le_of_ble_eq_true rfl, Nat.le_of_ble_eq_true rfl⟩ rfl (Nat.le_of_ble_eq_true rfl) dX3_find_7 ⟨(Nat.le_of_ble_eq_true rfl), (Nat.le_of_ble_eq_true rfl)⟩ (Nat.le_of_ble_eq_true rfl) (Nat.le_of_ble_eq_true rfl)
set_option maxHeartbeats 4000000 in
set_option maxRecDepth 100000 in
theorem ct_readPart1 (l : Launch) (D : va_G) (k : Nat → ClassId) (sb : Nat) (L : List Nat) (f : Nat → va_E) (x aW aG aR tr tg : Nat) (gW gG gR : Nat → Option Nat) (v z y c : Int32) (hl : l.stackTraces = false) (hx : x ∈ L) (fx : f x = .inr (3, [.ref aW, .ref aG, .ref aR, .ref tr, .ref tg])) (haW : aW ∈ L) (faW : f aW = .inl (k 4, 4, .inr (.inr (.inr (.inr gW))))) (haG : aG ∈ L) (faG : f aG = .inl (k 2, 3, .inr (.inr (.inr (.inr gG))))) (haR : aR ∈ L) (faR : f aR = .inl (k 3, 3, .inr (.inr (.inr (.inr gR))))) (hv : ¬ vOther v) : vCtX l yX3_readPart cX3_readPart 7 (some .int) 10 152 1 6 D vCl (vTy k) sb [.ref (x), .int (v), .int (z), .int (y), .int (c)] (va_pl L f) "java/lang/IndexOutOfBoundsException" := by
  refine vOfX (by decide +kernel) (Nat.le_of_ble_eq_true rfl) (fun p9 e9 s9 m9 below9 meth9 c9 X hE hnt => ?_)
  refine vAloadN X dX3_readPart_0 0 rfl ?_
  refine vIloadN X dX3_readPart_1 1 rfl ?_
  obtain ⟨ix2, hix2⟩ := vp_ix (f := f) hx
  exact vCallVT X hE hnt [] (ct_readerAt l D k sb L f x aW aG aR tr tg (gW) (gG) (gR) v hl hx fx haW faW haG faG haR faR hv) (vGV q_522 q_524 q_6 q_24 q_525) ⟨by decide, by decide, (show _ = some 1 from by decide +kernel)⟩ ⟨Nat.le_of_ble_eq_true rfl, Nat.le_of_ble_eq_true rfl⟩ ix2 3 rfl rfl (hix2.trans (by rw [fx])) rfl (Nat.le_of_ble_eq_true rfl) dX3_readPart_2 ⟨(Nat.le_of_ble_eq_true rfl), (Nat.le_of_ble_eq_true rfl)⟩ (Nat.le_of_ble_eq_true rfl) (Nat.le_of_ble_eq_true rfl)
set_option maxHeartbeats 4000000 in
set_option maxRecDepth 100000 in
theorem ct_readPart2 (l : Launch) (D : va_G) (k : Nat → ClassId) (sb : Nat) (L : List Nat) (f : Nat → va_E) (x aW aG aR tr tg : Nat) (gW gG gR : Nat → Option Nat) (q : Nat) (rd w b n s P M T Mt : Nat) (g : Nat → Int32) (z y c : Int32) (hl : l.stackTraces = false) (hx : x ∈ L) (fx : f x = .inr (3, [.ref aW, .ref aG, .ref aR, .ref tr, .ref tg])) (haW : aW ∈ L) (faW : f aW = .inl (k 4, 4, .inr (.inr (.inr (.inr gW))))) (haG : aG ∈ L) (faG : f aG = .inl (k 2, 3, .inr (.inr (.inr (.inr gG))))) (haR : aR ∈ L) (faR : f aR = .inl (k 3, 3, .inr (.inr (.inr (.inr gR))))) (hq9 : q < 3) (eq : gR q = some rd) (hrd : rd ∈ L) (frd : f rd = .inr (1, [.ref w, .int (nI s), .int (nI P), .int (nI M), .int (nI T), .int (nI Mt)])) (hw : w ∈ L) (fw : f w = .inr (2, [.ref b])) (hb : b ∈ L) (fb : f b = .inl (k 0, n, .inl g)) (hn : n ≤ 256) (hP : P ≤ n) (hz : ¬ vRow z) : vCtX l yX3_readPart cX3_readPart 7 (some .int) 10 152 1 6 D vCl (vTy k) sb [.ref (x), .int (nI (q)), .int (z), .int (y), .int (c)] (va_pl L f) "java/lang/IndexOutOfBoundsException" := by
  refine vOfX (by decide +kernel) (Nat.le_of_ble_eq_true rfl) (fun p9 e9 s9 m9 below9 meth9 c9 X hE hnt => ?_)
  refine vAloadN X dX3_readPart_0 0 rfl ?_
  refine vIloadN X dX3_readPart_1 1 rfl ?_
  obtain ⟨ix2, hix2⟩ := vp_ix (f := f) hx
  refine vCallVd X [] (cb_readerAt l D k sb L f x aW aG aR tr tg (gW) (gG) (gR) q rd hx fx haW faW haG faG haR faR (by omega) eq) (vGV q_522 q_524 q_6 q_24 q_525) ⟨by decide, by decide, (show _ = some 1 from by decide +kernel)⟩ ⟨Nat.le_of_ble_eq_true rfl, Nat.le_of_ble_eq_true rfl⟩ ix2 3 rfl rfl (hix2.trans (by rw [fx])) rfl (Nat.le_of_ble_eq_true rfl) dX3_readPart_2 ⟨Nat.le_of_ble_eq_true rfl, Nat.le_of_ble_eq_true rfl⟩ ?_
  refine vAstore X [(5, .ref (rd)), (0, .ref (x)), (1, .int (nI (q))), (2, .int (z)), (3, .int (y)), (4, .int (c))] dX3_readPart_5 (by decide) rfl ?_
  refine vAloadN X dX3_readPart_7 1 rfl ?_
  refine vIloadN X dX3_readPart_8 3 rfl ?_
  obtain ⟨ix9, hix9⟩ := vp_ix (f := f) hx
  exact vCallVT X hE hnt [] (ct_rowAt l D k sb L f x aW aG aR tr tg (gW) (gG) (gR) z hl hx fx haW faW haG faG haR faR hz) (vGV q_341 q_343 q_3 q_24 q_344) ⟨by decide, by decide, (show _ = some 1 from by decide +kernel)⟩ ⟨Nat.le_of_ble_eq_true rfl, Nat.le_of_ble_eq_true rfl⟩ ix9 3 rfl rfl (hix9.trans (by rw [fx])) rfl (Nat.le_of_ble_eq_true rfl) dX3_readPart_9 ⟨(Nat.le_of_ble_eq_true rfl), (Nat.le_of_ble_eq_true rfl)⟩ (Nat.le_of_ble_eq_true rfl) (Nat.le_of_ble_eq_true rfl)
set_option maxHeartbeats 4000000 in
set_option maxRecDepth 100000 in
theorem ct_readPart3 (l : Launch) (D : va_G) (k : Nat → ClassId) (sb : Nat) (L : List Nat) (f : Nat → va_E) (x aW aG aR tr tg : Nat) (gW gG gR : Nat → Option Nat) (q : Nat) (rd w b n s P M T Mt : Nat) (g : Nat → Int32) (r : Nat) (h2 b2 n2 : Nat) (g2 : Nat → Int32) (y c : Int32) (hl : l.stackTraces = false) (hx : x ∈ L) (fx : f x = .inr (3, [.ref aW, .ref aG, .ref aR, .ref tr, .ref tg])) (haW : aW ∈ L) (faW : f aW = .inl (k 4, 4, .inr (.inr (.inr (.inr gW))))) (haG : aG ∈ L) (faG : f aG = .inl (k 2, 3, .inr (.inr (.inr (.inr gG))))) (haR : aR ∈ L) (faR : f aR = .inl (k 3, 3, .inr (.inr (.inr (.inr gR))))) (hq9 : q < 3) (eq : gR q = some rd) (hrd : rd ∈ L) (frd : f rd = .inr (1, [.ref w, .int (nI s), .int (nI P), .int (nI M), .int (nI T), .int (nI Mt)])) (hw : w ∈ L) (fw : f w = .inr (2, [.ref b])) (hb : b ∈ L) (fb : f b = .inl (k 0, n, .inl g)) (hn : n ≤ 256) (hP : P ≤ n) (hr9 : r < 4) (eh2 : gW r = some h2) (hh2 : h2 ∈ L) (fh2 : f h2 = .inr (2, [.ref b2])) (hb2 : b2 ∈ L) (fb2 : f b2 = .inl (k 0, n2, .inl g2)) (hn2 : n2 ≤ 256) (hpart : ¬ vPt n2 y c) : vCtX l yX3_readPart cX3_readPart 7 (some .int) 10 152 1 6 D vCl (vTy k) sb [.ref (x), .int (nI (q)), .int (nI (r)), .int (y), .int (c)] (va_pl L f) "java/lang/IndexOutOfBoundsException" := by
  refine vOfX (by decide +kernel) (Nat.le_of_ble_eq_true rfl) (fun p9 e9 s9 m9 below9 meth9 c9 X hE hnt => ?_)
  refine vAloadN X dX3_readPart_0 0 rfl ?_
  refine vIloadN X dX3_readPart_1 1 rfl ?_
  obtain ⟨ix2, hix2⟩ := vp_ix (f := f) hx
  refine vCallVd X [] (cb_readerAt l D k sb L f x aW aG aR tr tg (gW) (gG) (gR) q rd hx fx haW faW haG faG haR faR (by omega) eq) (vGV q_522 q_524 q_6 q_24 q_525) ⟨by decide, by decide, (show _ = some 1 from by decide +kernel)⟩ ⟨Nat.le_of_ble_eq_true rfl, Nat.le_of_ble_eq_true rfl⟩ ix2 3 rfl rfl (hix2.trans (by rw [fx])) rfl (Nat.le_of_ble_eq_true rfl) dX3_readPart_2 ⟨Nat.le_of_ble_eq_true rfl, Nat.le_of_ble_eq_true rfl⟩ ?_
  refine vAstore X [(5, .ref (rd)), (0, .ref (x)), (1, .int (nI (q))), (2, .int (nI (r))), (3, .int (y)), (4, .int (c))] dX3_readPart_5 (by decide) rfl ?_
  refine vAloadN X dX3_readPart_7 1 rfl ?_
  refine vIloadN X dX3_readPart_8 3 rfl ?_
  obtain ⟨ix9, hix9⟩ := vp_ix (f := f) hx
  refine vCallVd X [] (cb_rowAt l D k sb L f x aW aG aR tr tg (gW) (gG) (gR) r h2 hx fx haW faW haG faG haR faR (by omega) eh2) (vGV q_341 q_343 q_3 q_24 q_344) ⟨by decide, by decide, (show _ = some 1 from by decide +kernel)⟩ ⟨Nat.le_of_ble_eq_true rfl, Nat.le_of_ble_eq_true rfl⟩ ix9 3 rfl rfl (hix9.trans (by rw [fx])) rfl (Nat.le_of_ble_eq_true rfl) dX3_readPart_9 ⟨Nat.le_of_ble_eq_true rfl, Nat.le_of_ble_eq_true rfl⟩ ?_
  refine vAstore X [(6, .ref (h2)), (5, .ref (rd)), (0, .ref (x)), (1, .int (nI (q))), (2, .int (nI (r))), (3, .int (y)), (4, .int (c))] dX3_readPart_12 (by decide) rfl ?_
  refine vAload X dX3_readPart_14 0 rfl ?_
  refine vIloadN X dX3_readPart_16 5 rfl ?_
  refine vIload X dX3_readPart_17 6 rfl ?_
  exact vCallST X hE hnt [] (ct_needPlaces l D k sb L f h2 b2 (n2) (g2) (y) (c) hl hh2 fh2 hb2 fb2 (by omega) hpart) (vGS q_399 q_400 q_24 q_401) rfl ⟨by decide, by decide, (show _ = some 3 from by decide +kernel)⟩ ⟨Nat.le_of_ble_eq_true rfl, Nat.le_of_ble_eq_true rfl⟩ rfl (Nat.le_of_ble_eq_true rfl) dX3_readPart_19 ⟨(Nat.le_of_ble_eq_true rfl), (Nat.le_of_ble_eq_true rfl)⟩ (Nat.le_of_ble_eq_true rfl) (Nat.le_of_ble_eq_true rfl)
set_option maxHeartbeats 4000000 in
set_option maxRecDepth 100000 in
theorem ct_readPart4 (l : Launch) (D : va_G) (k : Nat → ClassId) (sb : Nat) (L : List Nat) (f : Nat → va_E) (x aW aG aR tr tg : Nat) (gW gG gR : Nat → Option Nat) (q : Nat) (rd w b n s P M T Mt : Nat) (g : Nat → Int32) (r : Nat) (h2 b2 n2 : Nat) (g2 : Nat → Int32) (a m : Nat) (hl : l.stackTraces = false) (hx : x ∈ L) (fx : f x = .inr (3, [.ref aW, .ref aG, .ref aR, .ref tr, .ref tg])) (haW : aW ∈ L) (faW : f aW = .inl (k 4, 4, .inr (.inr (.inr (.inr gW))))) (haG : aG ∈ L) (faG : f aG = .inl (k 2, 3, .inr (.inr (.inr (.inr gG))))) (haR : aR ∈ L) (faR : f aR = .inl (k 3, 3, .inr (.inr (.inr (.inr gR))))) (hq9 : q < 3) (eq : gR q = some rd) (hrd : rd ∈ L) (frd : f rd = .inr (1, [.ref w, .int (nI s), .int (nI P), .int (nI M), .int (nI T), .int (nI Mt)])) (hw : w ∈ L) (fw : f w = .inr (2, [.ref b])) (hb : b ∈ L) (fb : f b = .inl (k 0, n, .inl g)) (hn : n ≤ 256) (hP : P ≤ n) (hr9 : r < 4) (eh2 : gW r = some h2) (hh2 : h2 ∈ L) (fh2 : f h2 = .inr (2, [.ref b2])) (hb2 : b2 ∈ L) (fb2 : f b2 = .inl (k 0, n2, .inl g2)) (hn2 : n2 ≤ 256) (hs : s = 0) (hp : a + m ≤ n2) : vCtX l yX3_readPart cX3_readPart 7 (some .int) 10 152 1 6 D vCl (vTy k) sb [.ref (x), .int (nI (q)), .int (nI (r)), .int (nI (a)), .int (nI (m))] (va_pl L f) "java/lang/UnsupportedOperationException" := by
  refine vOfX (by decide +kernel) (Nat.le_of_ble_eq_true rfl) (fun p9 e9 s9 m9 below9 meth9 c9 X hE hnt => ?_)
  refine vAloadN X dX3_readPart_0 0 rfl ?_
  refine vIloadN X dX3_readPart_1 1 rfl ?_
  obtain ⟨ix2, hix2⟩ := vp_ix (f := f) hx
  refine vCallVd X [] (cb_readerAt l D k sb L f x aW aG aR tr tg (gW) (gG) (gR) q rd hx fx haW faW haG faG haR faR (by omega) eq) (vGV q_522 q_524 q_6 q_24 q_525) ⟨by decide, by decide, (show _ = some 1 from by decide +kernel)⟩ ⟨Nat.le_of_ble_eq_true rfl, Nat.le_of_ble_eq_true rfl⟩ ix2 3 rfl rfl (hix2.trans (by rw [fx])) rfl (Nat.le_of_ble_eq_true rfl) dX3_readPart_2 ⟨Nat.le_of_ble_eq_true rfl, Nat.le_of_ble_eq_true rfl⟩ ?_
  refine vAstore X [(5, .ref (rd)), (0, .ref (x)), (1, .int (nI (q))), (2, .int (nI (r))), (3, .int (nI (a))), (4, .int (nI (m)))] dX3_readPart_5 (by decide) rfl ?_
  refine vAloadN X dX3_readPart_7 1 rfl ?_
  refine vIloadN X dX3_readPart_8 3 rfl ?_
  obtain ⟨ix9, hix9⟩ := vp_ix (f := f) hx
  refine vCallVd X [] (cb_rowAt l D k sb L f x aW aG aR tr tg (gW) (gG) (gR) r h2 hx fx haW faW haG faG haR faR (by omega) eh2) (vGV q_341 q_343 q_3 q_24 q_344) ⟨by decide, by decide, (show _ = some 1 from by decide +kernel)⟩ ⟨Nat.le_of_ble_eq_true rfl, Nat.le_of_ble_eq_true rfl⟩ ix9 3 rfl rfl (hix9.trans (by rw [fx])) rfl (Nat.le_of_ble_eq_true rfl) dX3_readPart_9 ⟨Nat.le_of_ble_eq_true rfl, Nat.le_of_ble_eq_true rfl⟩ ?_
  refine vAstore X [(6, .ref (h2)), (5, .ref (rd)), (0, .ref (x)), (1, .int (nI (q))), (2, .int (nI (r))), (3, .int (nI (a))), (4, .int (nI (m)))] dX3_readPart_12 (by decide) rfl ?_
  refine vAload X dX3_readPart_14 0 rfl ?_
  refine vIloadN X dX3_readPart_16 5 rfl ?_
  refine vIload X dX3_readPart_17 6 rfl ?_
  refine vCallSd X [] (cb_needPlaces l D k sb L f h2 b2 (n2) (g2) (a) (m) hh2 fh2 hb2 fb2 (by omega) (by omega)) (vGS q_399 q_400 q_24 q_401) rfl ⟨by decide, by decide, (show _ = some 3 from by decide +kernel)⟩ ⟨Nat.le_of_ble_eq_true rfl, Nat.le_of_ble_eq_true rfl⟩ rfl (Nat.le_of_ble_eq_true rfl) dX3_readPart_19 ⟨Nat.le_of_ble_eq_true rfl, Nat.le_of_ble_eq_true rfl⟩ ?_
  refine vAload X dX3_readPart_22 1 rfl ?_
  exact vCallST X hE hnt [] (ct_needOpen l D k sb L f rd w b (n) (s) (P) (M) (T) (Mt) (g) hl hrd frd hw fw hb fb (by omega) (by omega) (by first | rfl | assumption)) (vGS q_542 q_543 q_24 q_544) rfl ⟨by decide, by decide, (show _ = some 1 from by decide +kernel)⟩ ⟨Nat.le_of_ble_eq_true rfl, Nat.le_of_ble_eq_true rfl⟩ rfl (Nat.le_of_ble_eq_true rfl) dX3_readPart_24 ⟨(Nat.le_of_ble_eq_true rfl), (Nat.le_of_ble_eq_true rfl)⟩ (Nat.le_of_ble_eq_true rfl) (Nat.le_of_ble_eq_true rfl)
set_option maxHeartbeats 4000000 in
set_option maxRecDepth 100000 in
theorem ct_readFull1 (l : Launch) (D : va_G) (k : Nat → ClassId) (sb : Nat) (L : List Nat) (f : Nat → va_E) (x aW aG aR tr tg : Nat) (gW gG gR : Nat → Option Nat) (v z y c : Int32) (hl : l.stackTraces = false) (hx : x ∈ L) (fx : f x = .inr (3, [.ref aW, .ref aG, .ref aR, .ref tr, .ref tg])) (haW : aW ∈ L) (faW : f aW = .inl (k 4, 4, .inr (.inr (.inr (.inr gW))))) (haG : aG ∈ L) (faG : f aG = .inl (k 2, 3, .inr (.inr (.inr (.inr gG))))) (haR : aR ∈ L) (faR : f aR = .inl (k 3, 3, .inr (.inr (.inr (.inr gR))))) (hv : ¬ vOther v) : vCtX l yX3_readFull cX3_readFull 7 (some .int) 10 152 1 6 D vCl (vTy k) sb [.ref (x), .int (v), .int (z), .int (y), .int (c)] (va_pl L f) "java/lang/IndexOutOfBoundsException" := by
  refine vOfX (by decide +kernel) (Nat.le_of_ble_eq_true rfl) (fun p9 e9 s9 m9 below9 meth9 c9 X hE hnt => ?_)
  refine vAloadN X dX3_readFull_0 0 rfl ?_
  refine vIloadN X dX3_readFull_1 1 rfl ?_
  obtain ⟨ix2, hix2⟩ := vp_ix (f := f) hx
  exact vCallVT X hE hnt [] (ct_readerAt l D k sb L f x aW aG aR tr tg (gW) (gG) (gR) v hl hx fx haW faW haG faG haR faR hv) (vGV q_522 q_524 q_6 q_24 q_525) ⟨by decide, by decide, (show _ = some 1 from by decide +kernel)⟩ ⟨Nat.le_of_ble_eq_true rfl, Nat.le_of_ble_eq_true rfl⟩ ix2 3 rfl rfl (hix2.trans (by rw [fx])) rfl (Nat.le_of_ble_eq_true rfl) dX3_readFull_2 ⟨(Nat.le_of_ble_eq_true rfl), (Nat.le_of_ble_eq_true rfl)⟩ (Nat.le_of_ble_eq_true rfl) (Nat.le_of_ble_eq_true rfl)
set_option maxHeartbeats 4000000 in
set_option maxRecDepth 100000 in
theorem ct_readFull2 (l : Launch) (D : va_G) (k : Nat → ClassId) (sb : Nat) (L : List Nat) (f : Nat → va_E) (x aW aG aR tr tg : Nat) (gW gG gR : Nat → Option Nat) (q : Nat) (rd w b n s P M T Mt : Nat) (g : Nat → Int32) (z y c : Int32) (hl : l.stackTraces = false) (hx : x ∈ L) (fx : f x = .inr (3, [.ref aW, .ref aG, .ref aR, .ref tr, .ref tg])) (haW : aW ∈ L) (faW : f aW = .inl (k 4, 4, .inr (.inr (.inr (.inr gW))))) (haG : aG ∈ L) (faG : f aG = .inl (k 2, 3, .inr (.inr (.inr (.inr gG))))) (haR : aR ∈ L) (faR : f aR = .inl (k 3, 3, .inr (.inr (.inr (.inr gR))))) (hq9 : q < 3) (eq : gR q = some rd) (hrd : rd ∈ L) (frd : f rd = .inr (1, [.ref w, .int (nI s), .int (nI P), .int (nI M), .int (nI T), .int (nI Mt)])) (hw : w ∈ L) (fw : f w = .inr (2, [.ref b])) (hb : b ∈ L) (fb : f b = .inl (k 0, n, .inl g)) (hn : n ≤ 256) (hP : P ≤ n) (hz : ¬ vRow z) : vCtX l yX3_readFull cX3_readFull 7 (some .int) 10 152 1 6 D vCl (vTy k) sb [.ref (x), .int (nI (q)), .int (z), .int (y), .int (c)] (va_pl L f) "java/lang/IndexOutOfBoundsException" := by
  refine vOfX (by decide +kernel) (Nat.le_of_ble_eq_true rfl) (fun p9 e9 s9 m9 below9 meth9 c9 X hE hnt => ?_)
  refine vAloadN X dX3_readFull_0 0 rfl ?_
  refine vIloadN X dX3_readFull_1 1 rfl ?_
  obtain ⟨ix2, hix2⟩ := vp_ix (f := f) hx
  refine vCallVd X [] (cb_readerAt l D k sb L f x aW aG aR tr tg (gW) (gG) (gR) q rd hx fx haW faW haG faG haR faR (by omega) eq) (vGV q_522 q_524 q_6 q_24 q_525) ⟨by decide, by decide, (show _ = some 1 from by decide +kernel)⟩ ⟨Nat.le_of_ble_eq_true rfl, Nat.le_of_ble_eq_true rfl⟩ ix2 3 rfl rfl (hix2.trans (by rw [fx])) rfl (Nat.le_of_ble_eq_true rfl) dX3_readFull_2 ⟨Nat.le_of_ble_eq_true rfl, Nat.le_of_ble_eq_true rfl⟩ ?_
  refine vAstore X [(5, .ref (rd)), (0, .ref (x)), (1, .int (nI (q))), (2, .int (z)), (3, .int (y)), (4, .int (c))] dX3_readFull_5 (by decide) rfl ?_
  refine vAloadN X dX3_readFull_7 1 rfl ?_
  refine vIloadN X dX3_readFull_8 3 rfl ?_
  obtain ⟨ix9, hix9⟩ := vp_ix (f := f) hx
  exact vCallVT X hE hnt [] (ct_rowAt l D k sb L f x aW aG aR tr tg (gW) (gG) (gR) z hl hx fx haW faW haG faG haR faR hz) (vGV q_341 q_343 q_3 q_24 q_344) ⟨by decide, by decide, (show _ = some 1 from by decide +kernel)⟩ ⟨Nat.le_of_ble_eq_true rfl, Nat.le_of_ble_eq_true rfl⟩ ix9 3 rfl rfl (hix9.trans (by rw [fx])) rfl (Nat.le_of_ble_eq_true rfl) dX3_readFull_9 ⟨(Nat.le_of_ble_eq_true rfl), (Nat.le_of_ble_eq_true rfl)⟩ (Nat.le_of_ble_eq_true rfl) (Nat.le_of_ble_eq_true rfl)
set_option maxHeartbeats 4000000 in
set_option maxRecDepth 100000 in
theorem ct_readFull3 (l : Launch) (D : va_G) (k : Nat → ClassId) (sb : Nat) (L : List Nat) (f : Nat → va_E) (x aW aG aR tr tg : Nat) (gW gG gR : Nat → Option Nat) (q : Nat) (rd w b n s P M T Mt : Nat) (g : Nat → Int32) (r : Nat) (h2 b2 n2 : Nat) (g2 : Nat → Int32) (y c : Int32) (hl : l.stackTraces = false) (hx : x ∈ L) (fx : f x = .inr (3, [.ref aW, .ref aG, .ref aR, .ref tr, .ref tg])) (haW : aW ∈ L) (faW : f aW = .inl (k 4, 4, .inr (.inr (.inr (.inr gW))))) (haG : aG ∈ L) (faG : f aG = .inl (k 2, 3, .inr (.inr (.inr (.inr gG))))) (haR : aR ∈ L) (faR : f aR = .inl (k 3, 3, .inr (.inr (.inr (.inr gR))))) (hq9 : q < 3) (eq : gR q = some rd) (hrd : rd ∈ L) (frd : f rd = .inr (1, [.ref w, .int (nI s), .int (nI P), .int (nI M), .int (nI T), .int (nI Mt)])) (hw : w ∈ L) (fw : f w = .inr (2, [.ref b])) (hb : b ∈ L) (fb : f b = .inl (k 0, n, .inl g)) (hn : n ≤ 256) (hP : P ≤ n) (hr9 : r < 4) (eh2 : gW r = some h2) (hh2 : h2 ∈ L) (fh2 : f h2 = .inr (2, [.ref b2])) (hb2 : b2 ∈ L) (fb2 : f b2 = .inl (k 0, n2, .inl g2)) (hn2 : n2 ≤ 256) (hpart : ¬ vPt n2 y c) : vCtX l yX3_readFull cX3_readFull 7 (some .int) 10 152 1 6 D vCl (vTy k) sb [.ref (x), .int (nI (q)), .int (nI (r)), .int (y), .int (c)] (va_pl L f) "java/lang/IndexOutOfBoundsException" := by
  refine vOfX (by decide +kernel) (Nat.le_of_ble_eq_true rfl) (fun p9 e9 s9 m9 below9 meth9 c9 X hE hnt => ?_)
  refine vAloadN X dX3_readFull_0 0 rfl ?_
  refine vIloadN X dX3_readFull_1 1 rfl ?_
  obtain ⟨ix2, hix2⟩ := vp_ix (f := f) hx
  refine vCallVd X [] (cb_readerAt l D k sb L f x aW aG aR tr tg (gW) (gG) (gR) q rd hx fx haW faW haG faG haR faR (by omega) eq) (vGV q_522 q_524 q_6 q_24 q_525) ⟨by decide, by decide, (show _ = some 1 from by decide +kernel)⟩ ⟨Nat.le_of_ble_eq_true rfl, Nat.le_of_ble_eq_true rfl⟩ ix2 3 rfl rfl (hix2.trans (by rw [fx])) rfl (Nat.le_of_ble_eq_true rfl) dX3_readFull_2 ⟨Nat.le_of_ble_eq_true rfl, Nat.le_of_ble_eq_true rfl⟩ ?_
  refine vAstore X [(5, .ref (rd)), (0, .ref (x)), (1, .int (nI (q))), (2, .int (nI (r))), (3, .int (y)), (4, .int (c))] dX3_readFull_5 (by decide) rfl ?_
  refine vAloadN X dX3_readFull_7 1 rfl ?_
  refine vIloadN X dX3_readFull_8 3 rfl ?_
  obtain ⟨ix9, hix9⟩ := vp_ix (f := f) hx
  refine vCallVd X [] (cb_rowAt l D k sb L f x aW aG aR tr tg (gW) (gG) (gR) r h2 hx fx haW faW haG faG haR faR (by omega) eh2) (vGV q_341 q_343 q_3 q_24 q_344) ⟨by decide, by decide, (show _ = some 1 from by decide +kernel)⟩ ⟨Nat.le_of_ble_eq_true rfl, Nat.le_of_ble_eq_true rfl⟩ ix9 3 rfl rfl (hix9.trans (by rw [fx])) rfl (Nat.le_of_ble_eq_true rfl) dX3_readFull_9 ⟨Nat.le_of_ble_eq_true rfl, Nat.le_of_ble_eq_true rfl⟩ ?_
  refine vAstore X [(6, .ref (h2)), (5, .ref (rd)), (0, .ref (x)), (1, .int (nI (q))), (2, .int (nI (r))), (3, .int (y)), (4, .int (c))] dX3_readFull_12 (by decide) rfl ?_
  refine vAload X dX3_readFull_14 0 rfl ?_
  refine vIloadN X dX3_readFull_16 5 rfl ?_
  refine vIload X dX3_readFull_17 6 rfl ?_
  exact vCallST X hE hnt [] (ct_needPlaces l D k sb L f h2 b2 (n2) (g2) (y) (c) hl hh2 fh2 hb2 fb2 (by omega) hpart) (vGS q_399 q_400 q_24 q_401) rfl ⟨by decide, by decide, (show _ = some 3 from by decide +kernel)⟩ ⟨Nat.le_of_ble_eq_true rfl, Nat.le_of_ble_eq_true rfl⟩ rfl (Nat.le_of_ble_eq_true rfl) dX3_readFull_19 ⟨(Nat.le_of_ble_eq_true rfl), (Nat.le_of_ble_eq_true rfl)⟩ (Nat.le_of_ble_eq_true rfl) (Nat.le_of_ble_eq_true rfl)
set_option maxHeartbeats 4000000 in
set_option maxRecDepth 100000 in
theorem ct_readFull4 (l : Launch) (D : va_G) (k : Nat → ClassId) (sb : Nat) (L : List Nat) (f : Nat → va_E) (x aW aG aR tr tg : Nat) (gW gG gR : Nat → Option Nat) (q : Nat) (rd w b n s P M T Mt : Nat) (g : Nat → Int32) (r : Nat) (h2 b2 n2 : Nat) (g2 : Nat → Int32) (a m : Nat) (hl : l.stackTraces = false) (hx : x ∈ L) (fx : f x = .inr (3, [.ref aW, .ref aG, .ref aR, .ref tr, .ref tg])) (haW : aW ∈ L) (faW : f aW = .inl (k 4, 4, .inr (.inr (.inr (.inr gW))))) (haG : aG ∈ L) (faG : f aG = .inl (k 2, 3, .inr (.inr (.inr (.inr gG))))) (haR : aR ∈ L) (faR : f aR = .inl (k 3, 3, .inr (.inr (.inr (.inr gR))))) (hq9 : q < 3) (eq : gR q = some rd) (hrd : rd ∈ L) (frd : f rd = .inr (1, [.ref w, .int (nI s), .int (nI P), .int (nI M), .int (nI T), .int (nI Mt)])) (hw : w ∈ L) (fw : f w = .inr (2, [.ref b])) (hb : b ∈ L) (fb : f b = .inl (k 0, n, .inl g)) (hn : n ≤ 256) (hP : P ≤ n) (hr9 : r < 4) (eh2 : gW r = some h2) (hh2 : h2 ∈ L) (fh2 : f h2 = .inr (2, [.ref b2])) (hb2 : b2 ∈ L) (fb2 : f b2 = .inl (k 0, n2, .inl g2)) (hn2 : n2 ≤ 256) (hs : s = 0) (hp : a + m ≤ n2) : vCtX l yX3_readFull cX3_readFull 7 (some .int) 10 152 1 6 D vCl (vTy k) sb [.ref (x), .int (nI (q)), .int (nI (r)), .int (nI (a)), .int (nI (m))] (va_pl L f) "java/lang/UnsupportedOperationException" := by
  refine vOfX (by decide +kernel) (Nat.le_of_ble_eq_true rfl) (fun p9 e9 s9 m9 below9 meth9 c9 X hE hnt => ?_)
  refine vAloadN X dX3_readFull_0 0 rfl ?_
  refine vIloadN X dX3_readFull_1 1 rfl ?_
  obtain ⟨ix2, hix2⟩ := vp_ix (f := f) hx
  refine vCallVd X [] (cb_readerAt l D k sb L f x aW aG aR tr tg (gW) (gG) (gR) q rd hx fx haW faW haG faG haR faR (by omega) eq) (vGV q_522 q_524 q_6 q_24 q_525) ⟨by decide, by decide, (show _ = some 1 from by decide +kernel)⟩ ⟨Nat.le_of_ble_eq_true rfl, Nat.le_of_ble_eq_true rfl⟩ ix2 3 rfl rfl (hix2.trans (by rw [fx])) rfl (Nat.le_of_ble_eq_true rfl) dX3_readFull_2 ⟨Nat.le_of_ble_eq_true rfl, Nat.le_of_ble_eq_true rfl⟩ ?_
  refine vAstore X [(5, .ref (rd)), (0, .ref (x)), (1, .int (nI (q))), (2, .int (nI (r))), (3, .int (nI (a))), (4, .int (nI (m)))] dX3_readFull_5 (by decide) rfl ?_
  refine vAloadN X dX3_readFull_7 1 rfl ?_
  refine vIloadN X dX3_readFull_8 3 rfl ?_
  obtain ⟨ix9, hix9⟩ := vp_ix (f := f) hx
  refine vCallVd X [] (cb_rowAt l D k sb L f x aW aG aR tr tg (gW) (gG) (gR) r h2 hx fx haW faW haG faG haR faR (by omega) eh2) (vGV q_341 q_343 q_3 q_24 q_344) ⟨by decide, by decide, (show _ = some 1 from by decide +kernel)⟩ ⟨Nat.le_of_ble_eq_true rfl, Nat.le_of_ble_eq_true rfl⟩ ix9 3 rfl rfl (hix9.trans (by rw [fx])) rfl (Nat.le_of_ble_eq_true rfl) dX3_readFull_9 ⟨Nat.le_of_ble_eq_true rfl, Nat.le_of_ble_eq_true rfl⟩ ?_
  refine vAstore X [(6, .ref (h2)), (5, .ref (rd)), (0, .ref (x)), (1, .int (nI (q))), (2, .int (nI (r))), (3, .int (nI (a))), (4, .int (nI (m)))] dX3_readFull_12 (by decide) rfl ?_
  refine vAload X dX3_readFull_14 0 rfl ?_
  refine vIloadN X dX3_readFull_16 5 rfl ?_
  refine vIload X dX3_readFull_17 6 rfl ?_
  refine vCallSd X [] (cb_needPlaces l D k sb L f h2 b2 (n2) (g2) (a) (m) hh2 fh2 hb2 fb2 (by omega) (by omega)) (vGS q_399 q_400 q_24 q_401) rfl ⟨by decide, by decide, (show _ = some 3 from by decide +kernel)⟩ ⟨Nat.le_of_ble_eq_true rfl, Nat.le_of_ble_eq_true rfl⟩ rfl (Nat.le_of_ble_eq_true rfl) dX3_readFull_19 ⟨Nat.le_of_ble_eq_true rfl, Nat.le_of_ble_eq_true rfl⟩ ?_
  refine vAload X dX3_readFull_22 1 rfl ?_
  exact vCallST X hE hnt [] (ct_needOpen l D k sb L f rd w b (n) (s) (P) (M) (T) (Mt) (g) hl hrd frd hw fw hb fb (by omega) (by omega) (by first | rfl | assumption)) (vGS q_542 q_543 q_24 q_544) rfl ⟨by decide, by decide, (show _ = some 1 from by decide +kernel)⟩ ⟨Nat.le_of_ble_eq_true rfl, Nat.le_of_ble_eq_true rfl⟩ rfl (Nat.le_of_ble_eq_true rfl) dX3_readFull_24 ⟨(Nat.le_of_ble_eq_true rfl), (Nat.le_of_ble_eq_true rfl)⟩ (Nat.le_of_ble_eq_true rfl) (Nat.le_of_ble_eq_true rfl)
set_option maxHeartbeats 4000000 in
set_option maxRecDepth 100000 in
theorem cb_readPart0 (l : Launch) (D : va_G) (k : Nat → ClassId) (sb : Nat) (L : List Nat) (f : Nat → va_E) (x aW aG aR tr tg : Nat) (gW gG gR : Nat → Option Nat) (q : Nat) (rd w b n s P M T Mt : Nat) (g : Nat → Int32) (r : Nat) (h2 b2 n2 : Nat) (g2 : Nat → Int32) (a m : Nat) (hx : x ∈ L) (fx : f x = .inr (3, [.ref aW, .ref aG, .ref aR, .ref tr, .ref tg])) (haW : aW ∈ L) (faW : f aW = .inl (k 4, 4, .inr (.inr (.inr (.inr gW))))) (haG : aG ∈ L) (faG : f aG = .inl (k 2, 3, .inr (.inr (.inr (.inr gG))))) (haR : aR ∈ L) (faR : f aR = .inl (k 3, 3, .inr (.inr (.inr (.inr gR))))) (hq9 : q < 3) (eq : gR q = some rd) (hrd : rd ∈ L) (frd : f rd = .inr (1, [.ref w, .int (nI s), .int (nI P), .int (nI M), .int (nI T), .int (nI Mt)])) (hw : w ∈ L) (fw : f w = .inr (2, [.ref b])) (hb : b ∈ L) (fb : f b = .inl (k 0, n, .inl g)) (hn : n ≤ 256) (hP : P ≤ n) (hr9 : r < 4) (eh2 : gW r = some h2) (hh2 : h2 ∈ L) (fh2 : f h2 = .inr (2, [.ref b2])) (hb2 : b2 ∈ L) (fb2 : f b2 = .inl (k 0, n2, .inl g2)) (hn2 : n2 ≤ 256) (hs : s = 1) (hp : a + m ≤ n2) (he : P = n) : vCt l yX3_readPart cX3_readPart 7 (some .int) 10 152 0 0 D vCl (vTy k) sb [.ref (x), .int (nI (q)), .int (nI (r)), .int (nI (a)), .int (nI (m))] (va_pl L f) (vDet (some (.int ((-1 : Int32)))) (va_pl L f)) := by
  refine vOf (by decide +kernel) (Nat.le_of_ble_eq_true rfl) (fun p9 e9 s9 m9 below9 meth9 c9 X hret hmn => ?_)
  refine vAloadN X dX3_readPart_0 0 rfl ?_
  refine vIloadN X dX3_readPart_1 1 rfl ?_
  obtain ⟨ix2, hix2⟩ := vp_ix (f := f) hx
  refine vCallVd X [] (cb_readerAt l D k sb L f x aW aG aR tr tg (gW) (gG) (gR) q rd hx fx haW faW haG faG haR faR (by omega) eq) (vGV q_522 q_524 q_6 q_24 q_525) ⟨by decide, by decide, (show _ = some 1 from by decide +kernel)⟩ ⟨Nat.le_of_ble_eq_true rfl, Nat.le_of_ble_eq_true rfl⟩ ix2 3 rfl rfl (hix2.trans (by rw [fx])) rfl (Nat.le_of_ble_eq_true rfl) dX3_readPart_2 ⟨Nat.le_of_ble_eq_true rfl, Nat.le_of_ble_eq_true rfl⟩ ?_
  refine vAstore X [(5, .ref (rd)), (0, .ref (x)), (1, .int (nI (q))), (2, .int (nI (r))), (3, .int (nI (a))), (4, .int (nI (m)))] dX3_readPart_5 (by decide) rfl ?_
  refine vAloadN X dX3_readPart_7 1 rfl ?_
  refine vIloadN X dX3_readPart_8 3 rfl ?_
  obtain ⟨ix9, hix9⟩ := vp_ix (f := f) hx
  refine vCallVd X [] (cb_rowAt l D k sb L f x aW aG aR tr tg (gW) (gG) (gR) r h2 hx fx haW faW haG faG haR faR (by omega) eh2) (vGV q_341 q_343 q_3 q_24 q_344) ⟨by decide, by decide, (show _ = some 1 from by decide +kernel)⟩ ⟨Nat.le_of_ble_eq_true rfl, Nat.le_of_ble_eq_true rfl⟩ ix9 3 rfl rfl (hix9.trans (by rw [fx])) rfl (Nat.le_of_ble_eq_true rfl) dX3_readPart_9 ⟨Nat.le_of_ble_eq_true rfl, Nat.le_of_ble_eq_true rfl⟩ ?_
  refine vAstore X [(6, .ref (h2)), (5, .ref (rd)), (0, .ref (x)), (1, .int (nI (q))), (2, .int (nI (r))), (3, .int (nI (a))), (4, .int (nI (m)))] dX3_readPart_12 (by decide) rfl ?_
  refine vAload X dX3_readPart_14 0 rfl ?_
  refine vIloadN X dX3_readPart_16 5 rfl ?_
  refine vIload X dX3_readPart_17 6 rfl ?_
  refine vCallSd X [] (cb_needPlaces l D k sb L f h2 b2 (n2) (g2) (a) (m) hh2 fh2 hb2 fb2 (by omega) (by omega)) (vGS q_399 q_400 q_24 q_401) rfl ⟨by decide, by decide, (show _ = some 3 from by decide +kernel)⟩ ⟨Nat.le_of_ble_eq_true rfl, Nat.le_of_ble_eq_true rfl⟩ rfl (Nat.le_of_ble_eq_true rfl) dX3_readPart_19 ⟨Nat.le_of_ble_eq_true rfl, Nat.le_of_ble_eq_true rfl⟩ ?_
  refine vAload X dX3_readPart_22 1 rfl ?_
  refine vCallSd X [] (cb_needOpen l D k sb L f rd w b (n) (s) (P) (M) (T) (Mt) (g)  hrd frd hw fw hb fb (by omega) (by omega) (by first | rfl | assumption)) (vGS q_542 q_543 q_24 q_544) rfl ⟨by decide, by decide, (show _ = some 1 from by decide +kernel)⟩ ⟨Nat.le_of_ble_eq_true rfl, Nat.le_of_ble_eq_true rfl⟩ rfl (Nat.le_of_ble_eq_true rfl) dX3_readPart_24 ⟨Nat.le_of_ble_eq_true rfl, Nat.le_of_ble_eq_true rfl⟩ ?_
  refine vAload X dX3_readPart_27 1 rfl ?_
  obtain ⟨ix29, hix29⟩ := vp_ix (f := f) hrd
  refine vCallVd X [] (cq_remaining l D k sb L f rd w b (n) (s) (P) (M) (T) (Mt) (g)  hrd frd hw fw hb fb (by omega) (by omega) ) (vGV q_161 q_162 q_163 q_28 q_164) ⟨by decide, by decide, (show _ = some 0 from by decide +kernel)⟩ ⟨Nat.le_of_ble_eq_true rfl, Nat.le_of_ble_eq_true rfl⟩ ix29 1 rfl rfl (hix29.trans (by rw [frd])) rfl (Nat.le_of_ble_eq_true rfl) dX3_readPart_29 ⟨Nat.le_of_ble_eq_true rfl, Nat.le_of_ble_eq_true rfl⟩ ?_
  refine vIfN_neF X 37 dX3_readPart_32 (by decide) (by omega) (by omega) ?_
  refine vIconst X dX3_readPart_35 (v := (-1 : Int32)) (by decide) ?_
  exact vRetI X hret dX3_readPart_36 ⟨rfl, rfl⟩
set_option maxHeartbeats 4000000 in
set_option maxRecDepth 100000 in
theorem cb_readPartD (l : Launch) (D : va_G) (k : Nat → ClassId) (sb : Nat) (L : List Nat) (f : Nat → va_E) (x aW aG aR tr tg : Nat) (gW gG gR : Nat → Option Nat) (q : Nat) (rd w b n s P M T Mt : Nat) (g : Nat → Int32) (r : Nat) (h2 b2 n2 : Nat) (g2 : Nat → Int32) (a m d : Nat) (hx : x ∈ L) (fx : f x = .inr (3, [.ref aW, .ref aG, .ref aR, .ref tr, .ref tg])) (haW : aW ∈ L) (faW : f aW = .inl (k 4, 4, .inr (.inr (.inr (.inr gW))))) (haG : aG ∈ L) (faG : f aG = .inl (k 2, 3, .inr (.inr (.inr (.inr gG))))) (haR : aR ∈ L) (faR : f aR = .inl (k 3, 3, .inr (.inr (.inr (.inr gR))))) (hq9 : q < 3) (eq : gR q = some rd) (hrd : rd ∈ L) (frd : f rd = .inr (1, [.ref w, .int (nI s), .int (nI P), .int (nI M), .int (nI T), .int (nI Mt)])) (hw : w ∈ L) (fw : f w = .inr (2, [.ref b])) (hb : b ∈ L) (fb : f b = .inl (k 0, n, .inl g)) (hn : n ≤ 256) (hP : P ≤ n) (hr9 : r < 4) (eh2 : gW r = some h2) (hh2 : h2 ∈ L) (fh2 : f h2 = .inr (2, [.ref b2])) (hb2 : b2 ∈ L) (fb2 : f b2 = .inl (k 0, n2, .inl g2)) (hn2 : n2 ≤ 256) (hs : s = 1) (hbb : b ≠ b2) (he : P < n) (hp : a + m ≤ n2) (hd : d = min m (n - P)) (hgf : ∀ j, lb (g j) = g j) : vCt l yX3_readPart cX3_readPart 7 (some .int) 10 152 0 0 D vCl (vTy k) sb [.ref (x), .int (nI (q)), .int (nI (r)), .int (nI (a)), .int (nI (m))] (va_pl L f) (vDet (some (.int (nI (d)))) (va_pl L (va_up (va_up f b2 (.inl (k 0, n2, .inl (va_cpy g g2 (P) (a) (d))))) rd (.inr (1, [.ref (w), .int (nI (s)), .int (nI ((P) + (d))), .int (nI (M)), .int (nI ((T) + (d))), .int (nI (Mt))]))))) := by
  refine vOf (by decide +kernel) (Nat.le_of_ble_eq_true rfl) (fun p9 e9 s9 m9 below9 meth9 c9 X hret hmn => ?_)
  refine vAloadN X dX3_readPart_0 0 rfl ?_
  refine vIloadN X dX3_readPart_1 1 rfl ?_
  obtain ⟨ix2, hix2⟩ := vp_ix (f := f) hx
  refine vCallVd X [] (cb_readerAt l D k sb L f x aW aG aR tr tg (gW) (gG) (gR) q rd hx fx haW faW haG faG haR faR (by omega) eq) (vGV q_522 q_524 q_6 q_24 q_525) ⟨by decide, by decide, (show _ = some 1 from by decide +kernel)⟩ ⟨Nat.le_of_ble_eq_true rfl, Nat.le_of_ble_eq_true rfl⟩ ix2 3 rfl rfl (hix2.trans (by rw [fx])) rfl (Nat.le_of_ble_eq_true rfl) dX3_readPart_2 ⟨Nat.le_of_ble_eq_true rfl, Nat.le_of_ble_eq_true rfl⟩ ?_
  refine vAstore X [(5, .ref (rd)), (0, .ref (x)), (1, .int (nI (q))), (2, .int (nI (r))), (3, .int (nI (a))), (4, .int (nI (m)))] dX3_readPart_5 (by decide) rfl ?_
  refine vAloadN X dX3_readPart_7 1 rfl ?_
  refine vIloadN X dX3_readPart_8 3 rfl ?_
  obtain ⟨ix9, hix9⟩ := vp_ix (f := f) hx
  refine vCallVd X [] (cb_rowAt l D k sb L f x aW aG aR tr tg (gW) (gG) (gR) r h2 hx fx haW faW haG faG haR faR (by omega) eh2) (vGV q_341 q_343 q_3 q_24 q_344) ⟨by decide, by decide, (show _ = some 1 from by decide +kernel)⟩ ⟨Nat.le_of_ble_eq_true rfl, Nat.le_of_ble_eq_true rfl⟩ ix9 3 rfl rfl (hix9.trans (by rw [fx])) rfl (Nat.le_of_ble_eq_true rfl) dX3_readPart_9 ⟨Nat.le_of_ble_eq_true rfl, Nat.le_of_ble_eq_true rfl⟩ ?_
  refine vAstore X [(6, .ref (h2)), (5, .ref (rd)), (0, .ref (x)), (1, .int (nI (q))), (2, .int (nI (r))), (3, .int (nI (a))), (4, .int (nI (m)))] dX3_readPart_12 (by decide) rfl ?_
  refine vAload X dX3_readPart_14 0 rfl ?_
  refine vIloadN X dX3_readPart_16 5 rfl ?_
  refine vIload X dX3_readPart_17 6 rfl ?_
  refine vCallSd X [] (cb_needPlaces l D k sb L f h2 b2 (n2) (g2) (a) (m) hh2 fh2 hb2 fb2 (by omega) (by omega)) (vGS q_399 q_400 q_24 q_401) rfl ⟨by decide, by decide, (show _ = some 3 from by decide +kernel)⟩ ⟨Nat.le_of_ble_eq_true rfl, Nat.le_of_ble_eq_true rfl⟩ rfl (Nat.le_of_ble_eq_true rfl) dX3_readPart_19 ⟨Nat.le_of_ble_eq_true rfl, Nat.le_of_ble_eq_true rfl⟩ ?_
  refine vAload X dX3_readPart_22 1 rfl ?_
  refine vCallSd X [] (cb_needOpen l D k sb L f rd w b (n) (s) (P) (M) (T) (Mt) (g)  hrd frd hw fw hb fb (by omega) (by omega) (by first | rfl | assumption)) (vGS q_542 q_543 q_24 q_544) rfl ⟨by decide, by decide, (show _ = some 1 from by decide +kernel)⟩ ⟨Nat.le_of_ble_eq_true rfl, Nat.le_of_ble_eq_true rfl⟩ rfl (Nat.le_of_ble_eq_true rfl) dX3_readPart_24 ⟨Nat.le_of_ble_eq_true rfl, Nat.le_of_ble_eq_true rfl⟩ ?_
  refine vAload X dX3_readPart_27 1 rfl ?_
  obtain ⟨ix29, hix29⟩ := vp_ix (f := f) hrd
  refine vCallVd X [] (cq_remaining l D k sb L f rd w b (n) (s) (P) (M) (T) (Mt) (g)  hrd frd hw fw hb fb (by omega) (by omega) ) (vGV q_161 q_162 q_163 q_28 q_164) ⟨by decide, by decide, (show _ = some 0 from by decide +kernel)⟩ ⟨Nat.le_of_ble_eq_true rfl, Nat.le_of_ble_eq_true rfl⟩ ix29 1 rfl rfl (hix29.trans (by rw [frd])) rfl (Nat.le_of_ble_eq_true rfl) dX3_readPart_29 ⟨Nat.le_of_ble_eq_true rfl, Nat.le_of_ble_eq_true rfl⟩ ?_
  refine vIfN_neT X 37 dX3_readPart_32 (by decide) (by omega) (by omega) ?_
  refine vAload X dX3_readPart_37 1 rfl ?_
  refine vAload X dX3_readPart_39 1 rfl ?_
  refine vAload X dX3_readPart_41 0 rfl ?_
  refine vIloadN X dX3_readPart_43 5 rfl ?_
  refine vIload X dX3_readPart_44 6 rfl ?_
  obtain ⟨ix46, hix46⟩ := vp_ix (f := f) hrd
  refine vCallVd X [.ref (rd)] (cq_moveIntoD l D k sb L f rd w b (n) (s) (P) (M) (T) (Mt) (g) h2 b2 (n2) (g2) (a) (m) (d) hrd frd hw fw hb fb (by omega) (by omega) hh2 fh2 hb2 fb2 (by omega) hbb (by omega) (by omega) (by omega) hgf) (vGV q_568 q_569 q_570 q_28 q_571) ⟨by decide, by decide, (show _ = some 3 from by decide +kernel)⟩ ⟨Nat.le_of_ble_eq_true rfl, Nat.le_of_ble_eq_true rfl⟩ ix46 1 rfl rfl (hix46.trans (by rw [frd])) rfl (Nat.le_of_ble_eq_true rfl) dX3_readPart_46 ⟨Nat.le_of_ble_eq_true rfl, Nat.le_of_ble_eq_true rfl⟩ ?_
  obtain ⟨ix49, hix49⟩ := vp_ix (f := va_up (va_up f b2 (.inl (k 0, n2, .inl (va_cpy g g2 (P) (a) (d))))) rd (.inr (1, [.ref (w), .int (nI (s)), .int (nI ((P) + (d))), .int (nI (M)), .int (nI (T)), .int (nI (Mt))]))) hrd
  refine vCallVd X [] (cq_tell l D k sb L (va_up (va_up f b2 (.inl (k 0, n2, .inl (va_cpy g g2 (P) (a) (d))))) rd (.inr (1, [.ref (w), .int (nI (s)), .int (nI ((P) + (d))), .int (nI (M)), .int (nI (T)), .int (nI (Mt))]))) rd w b (n) (s) ((P) + (d)) (M) (T) (Mt) (g) d hrd (va_up_eq _ _ _) hw ((va_up_nq _ (ne_of fw frd (by simp))).trans ((va_up_nq _ (ne_of fw fb2 (by simp))).trans fw)) hb ((va_up_nq _ (ne_of fb frd (by simp))).trans ((va_up_nq _ hbb).trans fb)) (by omega) (by omega) ) (vGV q_250 q_251 q_252 q_28 q_253) ⟨by decide, by decide, (show _ = some 1 from by decide +kernel)⟩ ⟨Nat.le_of_ble_eq_true rfl, Nat.le_of_ble_eq_true rfl⟩ ix49 1 rfl rfl (hix49.trans (by rw [(va_up_eq _ _ _)])) rfl (Nat.le_of_ble_eq_true rfl) dX3_readPart_49 ⟨Nat.le_of_ble_eq_true rfl, Nat.le_of_ble_eq_true rfl⟩ ?_
  refine vWs (ws' := va_pl L (va_up (va_up f b2 (.inl (k 0, n2, .inl (va_cpy g g2 (P) (a) (d))))) rd (.inr (1, [.ref (w), .int (nI (s)), .int (nI ((P) + (d))), .int (nI (M)), .int (nI ((T) + (d))), .int (nI (Mt))])))) (congrArg (fun φ9 => va_pl L (φ9)) (va_up_up _ _ _ _)) ?_
  exact vRetI X hret dX3_readPart_52 ⟨rfl, rfl⟩
set_option maxHeartbeats 4000000 in
set_option maxRecDepth 100000 in
theorem cb_readPartS (l : Launch) (D : va_G) (k : Nat → ClassId) (sb : Nat) (L : List Nat) (f : Nat → va_E) (x aW aG aR tr tg : Nat) (gW gG gR : Nat → Option Nat) (q : Nat) (rd w b n s P M T Mt : Nat) (g : Nat → Int32) (r : Nat) (a m d : Nat) (hx : x ∈ L) (fx : f x = .inr (3, [.ref aW, .ref aG, .ref aR, .ref tr, .ref tg])) (haW : aW ∈ L) (faW : f aW = .inl (k 4, 4, .inr (.inr (.inr (.inr gW))))) (haG : aG ∈ L) (faG : f aG = .inl (k 2, 3, .inr (.inr (.inr (.inr gG))))) (haR : aR ∈ L) (faR : f aR = .inl (k 3, 3, .inr (.inr (.inr (.inr gR))))) (hq9 : q < 3) (eq : gR q = some rd) (hrd : rd ∈ L) (frd : f rd = .inr (1, [.ref w, .int (nI s), .int (nI P), .int (nI M), .int (nI T), .int (nI Mt)])) (hw : w ∈ L) (fw : f w = .inr (2, [.ref b])) (hb : b ∈ L) (fb : f b = .inl (k 0, n, .inl g)) (hn : n ≤ 256) (hP : P ≤ n) (hr9 : r < 4) (eh2 : gW r = some w) (hs : s = 1) (he : P < n) (hp : a + m ≤ n) (hd : d = min m (n - P)) (hgf : ∀ j, lb (g j) = g j) : vCt l yX3_readPart cX3_readPart 7 (some .int) 10 152 0 0 D vCl (vTy k) sb [.ref (x), .int (nI (q)), .int (nI (r)), .int (nI (a)), .int (nI (m))] (va_pl L f) (vDet (some (.int (nI (d)))) (va_pl L (va_up (va_up f b (.inl (k 0, n, .inl (va_cpy g g (P) (a) (d))))) rd (.inr (1, [.ref (w), .int (nI (s)), .int (nI ((P) + (d))), .int (nI (M)), .int (nI ((T) + (d))), .int (nI (Mt))]))))) := by
  refine vOf (by decide +kernel) (Nat.le_of_ble_eq_true rfl) (fun p9 e9 s9 m9 below9 meth9 c9 X hret hmn => ?_)
  refine vAloadN X dX3_readPart_0 0 rfl ?_
  refine vIloadN X dX3_readPart_1 1 rfl ?_
  obtain ⟨ix2, hix2⟩ := vp_ix (f := f) hx
  refine vCallVd X [] (cb_readerAt l D k sb L f x aW aG aR tr tg (gW) (gG) (gR) q rd hx fx haW faW haG faG haR faR (by omega) eq) (vGV q_522 q_524 q_6 q_24 q_525) ⟨by decide, by decide, (show _ = some 1 from by decide +kernel)⟩ ⟨Nat.le_of_ble_eq_true rfl, Nat.le_of_ble_eq_true rfl⟩ ix2 3 rfl rfl (hix2.trans (by rw [fx])) rfl (Nat.le_of_ble_eq_true rfl) dX3_readPart_2 ⟨Nat.le_of_ble_eq_true rfl, Nat.le_of_ble_eq_true rfl⟩ ?_
  refine vAstore X [(5, .ref (rd)), (0, .ref (x)), (1, .int (nI (q))), (2, .int (nI (r))), (3, .int (nI (a))), (4, .int (nI (m)))] dX3_readPart_5 (by decide) rfl ?_
  refine vAloadN X dX3_readPart_7 1 rfl ?_
  refine vIloadN X dX3_readPart_8 3 rfl ?_
  obtain ⟨ix9, hix9⟩ := vp_ix (f := f) hx
  refine vCallVd X [] (cb_rowAt l D k sb L f x aW aG aR tr tg (gW) (gG) (gR) r w hx fx haW faW haG faG haR faR (by omega) eh2) (vGV q_341 q_343 q_3 q_24 q_344) ⟨by decide, by decide, (show _ = some 1 from by decide +kernel)⟩ ⟨Nat.le_of_ble_eq_true rfl, Nat.le_of_ble_eq_true rfl⟩ ix9 3 rfl rfl (hix9.trans (by rw [fx])) rfl (Nat.le_of_ble_eq_true rfl) dX3_readPart_9 ⟨Nat.le_of_ble_eq_true rfl, Nat.le_of_ble_eq_true rfl⟩ ?_
  refine vAstore X [(6, .ref (w)), (5, .ref (rd)), (0, .ref (x)), (1, .int (nI (q))), (2, .int (nI (r))), (3, .int (nI (a))), (4, .int (nI (m)))] dX3_readPart_12 (by decide) rfl ?_
  refine vAload X dX3_readPart_14 0 rfl ?_
  refine vIloadN X dX3_readPart_16 5 rfl ?_
  refine vIload X dX3_readPart_17 6 rfl ?_
  refine vCallSd X [] (cb_needPlaces l D k sb L f w b (n) (g) (a) (m) hw fw hb fb (by omega) (by omega)) (vGS q_399 q_400 q_24 q_401) rfl ⟨by decide, by decide, (show _ = some 3 from by decide +kernel)⟩ ⟨Nat.le_of_ble_eq_true rfl, Nat.le_of_ble_eq_true rfl⟩ rfl (Nat.le_of_ble_eq_true rfl) dX3_readPart_19 ⟨Nat.le_of_ble_eq_true rfl, Nat.le_of_ble_eq_true rfl⟩ ?_
  refine vAload X dX3_readPart_22 1 rfl ?_
  refine vCallSd X [] (cb_needOpen l D k sb L f rd w b (n) (s) (P) (M) (T) (Mt) (g)  hrd frd hw fw hb fb (by omega) (by omega) (by first | rfl | assumption)) (vGS q_542 q_543 q_24 q_544) rfl ⟨by decide, by decide, (show _ = some 1 from by decide +kernel)⟩ ⟨Nat.le_of_ble_eq_true rfl, Nat.le_of_ble_eq_true rfl⟩ rfl (Nat.le_of_ble_eq_true rfl) dX3_readPart_24 ⟨Nat.le_of_ble_eq_true rfl, Nat.le_of_ble_eq_true rfl⟩ ?_
  refine vAload X dX3_readPart_27 1 rfl ?_
  obtain ⟨ix29, hix29⟩ := vp_ix (f := f) hrd
  refine vCallVd X [] (cq_remaining l D k sb L f rd w b (n) (s) (P) (M) (T) (Mt) (g)  hrd frd hw fw hb fb (by omega) (by omega) ) (vGV q_161 q_162 q_163 q_28 q_164) ⟨by decide, by decide, (show _ = some 0 from by decide +kernel)⟩ ⟨Nat.le_of_ble_eq_true rfl, Nat.le_of_ble_eq_true rfl⟩ ix29 1 rfl rfl (hix29.trans (by rw [frd])) rfl (Nat.le_of_ble_eq_true rfl) dX3_readPart_29 ⟨Nat.le_of_ble_eq_true rfl, Nat.le_of_ble_eq_true rfl⟩ ?_
  refine vIfN_neT X 37 dX3_readPart_32 (by decide) (by omega) (by omega) ?_
  refine vAload X dX3_readPart_37 1 rfl ?_
  refine vAload X dX3_readPart_39 1 rfl ?_
  refine vAload X dX3_readPart_41 0 rfl ?_
  refine vIloadN X dX3_readPart_43 5 rfl ?_
  refine vIload X dX3_readPart_44 6 rfl ?_
  obtain ⟨ix46, hix46⟩ := vp_ix (f := f) hrd
  refine vCallVd X [.ref (rd)] (cq_moveIntoS l D k sb L f rd w b (n) (s) (P) (M) (T) (Mt) (g) (a) (m) (d) hrd frd hw fw hb fb (by omega) (by omega) (by omega) (by omega) (by omega) hgf) (vGV q_568 q_569 q_570 q_28 q_571) ⟨by decide, by decide, (show _ = some 3 from by decide +kernel)⟩ ⟨Nat.le_of_ble_eq_true rfl, Nat.le_of_ble_eq_true rfl⟩ ix46 1 rfl rfl (hix46.trans (by rw [frd])) rfl (Nat.le_of_ble_eq_true rfl) dX3_readPart_46 ⟨Nat.le_of_ble_eq_true rfl, Nat.le_of_ble_eq_true rfl⟩ ?_
  obtain ⟨ix49, hix49⟩ := vp_ix (f := va_up (va_up f b (.inl (k 0, n, .inl (va_cpy g g (P) (a) (d))))) rd (.inr (1, [.ref (w), .int (nI (s)), .int (nI ((P) + (d))), .int (nI (M)), .int (nI (T)), .int (nI (Mt))]))) hrd
  refine vCallVd X [] (cq_tell l D k sb L (va_up (va_up f b (.inl (k 0, n, .inl (va_cpy g g (P) (a) (d))))) rd (.inr (1, [.ref (w), .int (nI (s)), .int (nI ((P) + (d))), .int (nI (M)), .int (nI (T)), .int (nI (Mt))]))) rd w b (n) (s) ((P) + (d)) (M) (T) (Mt) (va_cpy g g (P) (a) (d)) d hrd (va_up_eq _ _ _) hw ((va_up_nq _ (ne_of fw frd (by simp))).trans ((va_up_nq _ (ne_of fw fb (by simp))).trans fw)) hb ((va_up_nq _ (ne_of fb frd (by simp))).trans (va_up_eq _ _ _)) (by omega) (by omega) ) (vGV q_250 q_251 q_252 q_28 q_253) ⟨by decide, by decide, (show _ = some 1 from by decide +kernel)⟩ ⟨Nat.le_of_ble_eq_true rfl, Nat.le_of_ble_eq_true rfl⟩ ix49 1 rfl rfl (hix49.trans (by rw [(va_up_eq _ _ _)])) rfl (Nat.le_of_ble_eq_true rfl) dX3_readPart_49 ⟨Nat.le_of_ble_eq_true rfl, Nat.le_of_ble_eq_true rfl⟩ ?_
  refine vWs (ws' := va_pl L (va_up (va_up f b (.inl (k 0, n, .inl (va_cpy g g (P) (a) (d))))) rd (.inr (1, [.ref (w), .int (nI (s)), .int (nI ((P) + (d))), .int (nI (M)), .int (nI ((T) + (d))), .int (nI (Mt))])))) (congrArg (fun φ9 => va_pl L (φ9)) (va_up_up _ _ _ _)) ?_
  exact vRetI X hret dX3_readPart_52 ⟨rfl, rfl⟩
set_option maxHeartbeats 4000000 in
set_option maxRecDepth 100000 in
theorem ct_readFull5 (l : Launch) (D : va_G) (k : Nat → ClassId) (sb : Nat) (L : List Nat) (f : Nat → va_E) (x aW aG aR tr tg : Nat) (gW gG gR : Nat → Option Nat) (q : Nat) (rd w b n s P M T Mt : Nat) (g : Nat → Int32) (r : Nat) (a m : Nat) (hl : l.stackTraces = false) (hx : x ∈ L) (fx : f x = .inr (3, [.ref aW, .ref aG, .ref aR, .ref tr, .ref tg])) (haW : aW ∈ L) (faW : f aW = .inl (k 4, 4, .inr (.inr (.inr (.inr gW))))) (haG : aG ∈ L) (faG : f aG = .inl (k 2, 3, .inr (.inr (.inr (.inr gG))))) (haR : aR ∈ L) (faR : f aR = .inl (k 3, 3, .inr (.inr (.inr (.inr gR))))) (hq9 : q < 3) (eq : gR q = some rd) (hrd : rd ∈ L) (frd : f rd = .inr (1, [.ref w, .int (nI s), .int (nI P), .int (nI M), .int (nI T), .int (nI Mt)])) (hw : w ∈ L) (fw : f w = .inr (2, [.ref b])) (hb : b ∈ L) (fb : f b = .inl (k 0, n, .inl g)) (hn : n ≤ 256) (hP : P ≤ n) (hr9 : r < 4) (eh2 : gW r = some w) (hs : s = 1) (hp : a + m ≤ n) : vCtX l yX3_readFull cX3_readFull 7 (some .int) 10 152 1 6 D vCl (vTy k) sb [.ref (x), .int (nI (q)), .int (nI (r)), .int (nI (a)), .int (nI (m))] (va_pl L f) "java/lang/IllegalArgumentException" := by
  refine vOfX (by decide +kernel) (Nat.le_of_ble_eq_true rfl) (fun p9 e9 s9 m9 below9 meth9 c9 X hE hnt => ?_)
  refine vAloadN X dX3_readFull_0 0 rfl ?_
  refine vIloadN X dX3_readFull_1 1 rfl ?_
  obtain ⟨ix2, hix2⟩ := vp_ix (f := f) hx
  refine vCallVd X [] (cb_readerAt l D k sb L f x aW aG aR tr tg (gW) (gG) (gR) q rd hx fx haW faW haG faG haR faR (by omega) eq) (vGV q_522 q_524 q_6 q_24 q_525) ⟨by decide, by decide, (show _ = some 1 from by decide +kernel)⟩ ⟨Nat.le_of_ble_eq_true rfl, Nat.le_of_ble_eq_true rfl⟩ ix2 3 rfl rfl (hix2.trans (by rw [fx])) rfl (Nat.le_of_ble_eq_true rfl) dX3_readFull_2 ⟨Nat.le_of_ble_eq_true rfl, Nat.le_of_ble_eq_true rfl⟩ ?_
  refine vAstore X [(5, .ref (rd)), (0, .ref (x)), (1, .int (nI (q))), (2, .int (nI (r))), (3, .int (nI (a))), (4, .int (nI (m)))] dX3_readFull_5 (by decide) rfl ?_
  refine vAloadN X dX3_readFull_7 1 rfl ?_
  refine vIloadN X dX3_readFull_8 3 rfl ?_
  obtain ⟨ix9, hix9⟩ := vp_ix (f := f) hx
  refine vCallVd X [] (cb_rowAt l D k sb L f x aW aG aR tr tg (gW) (gG) (gR) r w hx fx haW faW haG faG haR faR (by omega) eh2) (vGV q_341 q_343 q_3 q_24 q_344) ⟨by decide, by decide, (show _ = some 1 from by decide +kernel)⟩ ⟨Nat.le_of_ble_eq_true rfl, Nat.le_of_ble_eq_true rfl⟩ ix9 3 rfl rfl (hix9.trans (by rw [fx])) rfl (Nat.le_of_ble_eq_true rfl) dX3_readFull_9 ⟨Nat.le_of_ble_eq_true rfl, Nat.le_of_ble_eq_true rfl⟩ ?_
  refine vAstore X [(6, .ref (w)), (5, .ref (rd)), (0, .ref (x)), (1, .int (nI (q))), (2, .int (nI (r))), (3, .int (nI (a))), (4, .int (nI (m)))] dX3_readFull_12 (by decide) rfl ?_
  refine vAload X dX3_readFull_14 0 rfl ?_
  refine vIloadN X dX3_readFull_16 5 rfl ?_
  refine vIload X dX3_readFull_17 6 rfl ?_
  refine vCallSd X [] (cb_needPlaces l D k sb L f w b (n) (g) (a) (m) hw fw hb fb (by omega) (by omega)) (vGS q_399 q_400 q_24 q_401) rfl ⟨by decide, by decide, (show _ = some 3 from by decide +kernel)⟩ ⟨Nat.le_of_ble_eq_true rfl, Nat.le_of_ble_eq_true rfl⟩ rfl (Nat.le_of_ble_eq_true rfl) dX3_readFull_19 ⟨Nat.le_of_ble_eq_true rfl, Nat.le_of_ble_eq_true rfl⟩ ?_
  refine vAload X dX3_readFull_22 1 rfl ?_
  refine vCallSd X [] (cb_needOpen l D k sb L f rd w b (n) (s) (P) (M) (T) (Mt) (g)  hrd frd hw fw hb fb (by omega) (by omega) (by first | rfl | assumption)) (vGS q_542 q_543 q_24 q_544) rfl ⟨by decide, by decide, (show _ = some 1 from by decide +kernel)⟩ ⟨Nat.le_of_ble_eq_true rfl, Nat.le_of_ble_eq_true rfl⟩ rfl (Nat.le_of_ble_eq_true rfl) dX3_readFull_24 ⟨Nat.le_of_ble_eq_true rfl, Nat.le_of_ble_eq_true rfl⟩ ?_
  refine vAload X dX3_readFull_27 1 rfl ?_
  refine vAload X dX3_readFull_29 0 rfl ?_
  obtain ⟨ix31, hix31⟩ := vp_ix (f := f) hrd
  refine vCallVd X [] (cq_isOverT l D k sb L f rd w b (n) (s) (P) (M) (T) (Mt) (g) w hrd frd hw fw hb fb (by omega) (by omega) rfl) (vGV q_580 q_581 q_582 q_28 q_583) ⟨by decide, by decide, (show _ = some 1 from by decide +kernel)⟩ ⟨Nat.le_of_ble_eq_true rfl, Nat.le_of_ble_eq_true rfl⟩ ix31 1 rfl rfl (hix31.trans (by rw [frd])) rfl (Nat.le_of_ble_eq_true rfl) dX3_readFull_31 ⟨Nat.le_of_ble_eq_true rfl, Nat.le_of_ble_eq_true rfl⟩ ?_
  refine vIfN_eqF X 47 dX3_readFull_34 (by decide) (by omega) (by omega) ?_
  exact vThrowS X hE hl hnt (by decide +kernel) q_362 q_36 t_584 xg1_48 xg2_48 xg3_48 dX3_readFull_37 dX3_readFull_40 dX3_readFull_41 dX3_readFull_43 dX3_readFull_46 (Nat.le_of_ble_eq_true rfl) (Nat.le_of_ble_eq_true rfl) (Nat.le_of_ble_eq_true rfl) (Nat.le_of_ble_eq_true rfl) (Nat.le_of_ble_eq_true rfl) (Nat.le_of_ble_eq_true rfl)
set_option maxHeartbeats 4000000 in
set_option maxRecDepth 100000 in
theorem cb_readFull (l : Launch) (D : va_G) (k : Nat → ClassId) (sb : Nat) (L : List Nat) (f : Nat → va_E) (x aW aG aR tr tg : Nat) (gW gG gR : Nat → Option Nat) (q : Nat) (rd w b n s P M T Mt : Nat) (g : Nat → Int32) (r : Nat) (h2 b2 n2 : Nat) (g2 : Nat → Int32) (a m d : Nat) (hx : x ∈ L) (fx : f x = .inr (3, [.ref aW, .ref aG, .ref aR, .ref tr, .ref tg])) (haW : aW ∈ L) (faW : f aW = .inl (k 4, 4, .inr (.inr (.inr (.inr gW))))) (haG : aG ∈ L) (faG : f aG = .inl (k 2, 3, .inr (.inr (.inr (.inr gG))))) (haR : aR ∈ L) (faR : f aR = .inl (k 3, 3, .inr (.inr (.inr (.inr gR))))) (hq9 : q < 3) (eq : gR q = some rd) (hrd : rd ∈ L) (frd : f rd = .inr (1, [.ref w, .int (nI s), .int (nI P), .int (nI M), .int (nI T), .int (nI Mt)])) (hw : w ∈ L) (fw : f w = .inr (2, [.ref b])) (hb : b ∈ L) (fb : f b = .inl (k 0, n, .inl g)) (hn : n ≤ 256) (hP : P ≤ n) (hr9 : r < 4) (eh2 : gW r = some h2) (hh2 : h2 ∈ L) (fh2 : f h2 = .inr (2, [.ref b2])) (hb2 : b2 ∈ L) (fb2 : f b2 = .inl (k 0, n2, .inl g2)) (hn2 : n2 ≤ 256) (hs : s = 1) (he : ¬ w = h2) (hbb : b ≠ b2) (hp : a + m ≤ n2) (hd : d = min m (n - P)) (hgf : ∀ j, lb (g j) = g j) : vCt l yX3_readFull cX3_readFull 7 (some .int) 10 152 0 0 D vCl (vTy k) sb [.ref (x), .int (nI (q)), .int (nI (r)), .int (nI (a)), .int (nI (m))] (va_pl L f) (vDet (some (.int (nI (d)))) (va_pl L (va_up (va_up f b2 (.inl (k 0, n2, .inl (va_cpy g g2 (P) (a) (d))))) rd (.inr (1, [.ref (w), .int (nI (s)), .int (nI ((P) + (d))), .int (nI (M)), .int (nI ((T) + (d))), .int (nI (Mt))]))))) := by
  refine vOf (by decide +kernel) (Nat.le_of_ble_eq_true rfl) (fun p9 e9 s9 m9 below9 meth9 c9 X hret hmn => ?_)
  refine vAloadN X dX3_readFull_0 0 rfl ?_
  refine vIloadN X dX3_readFull_1 1 rfl ?_
  obtain ⟨ix2, hix2⟩ := vp_ix (f := f) hx
  refine vCallVd X [] (cb_readerAt l D k sb L f x aW aG aR tr tg (gW) (gG) (gR) q rd hx fx haW faW haG faG haR faR (by omega) eq) (vGV q_522 q_524 q_6 q_24 q_525) ⟨by decide, by decide, (show _ = some 1 from by decide +kernel)⟩ ⟨Nat.le_of_ble_eq_true rfl, Nat.le_of_ble_eq_true rfl⟩ ix2 3 rfl rfl (hix2.trans (by rw [fx])) rfl (Nat.le_of_ble_eq_true rfl) dX3_readFull_2 ⟨Nat.le_of_ble_eq_true rfl, Nat.le_of_ble_eq_true rfl⟩ ?_
  refine vAstore X [(5, .ref (rd)), (0, .ref (x)), (1, .int (nI (q))), (2, .int (nI (r))), (3, .int (nI (a))), (4, .int (nI (m)))] dX3_readFull_5 (by decide) rfl ?_
  refine vAloadN X dX3_readFull_7 1 rfl ?_
  refine vIloadN X dX3_readFull_8 3 rfl ?_
  obtain ⟨ix9, hix9⟩ := vp_ix (f := f) hx
  refine vCallVd X [] (cb_rowAt l D k sb L f x aW aG aR tr tg (gW) (gG) (gR) r h2 hx fx haW faW haG faG haR faR (by omega) eh2) (vGV q_341 q_343 q_3 q_24 q_344) ⟨by decide, by decide, (show _ = some 1 from by decide +kernel)⟩ ⟨Nat.le_of_ble_eq_true rfl, Nat.le_of_ble_eq_true rfl⟩ ix9 3 rfl rfl (hix9.trans (by rw [fx])) rfl (Nat.le_of_ble_eq_true rfl) dX3_readFull_9 ⟨Nat.le_of_ble_eq_true rfl, Nat.le_of_ble_eq_true rfl⟩ ?_
  refine vAstore X [(6, .ref (h2)), (5, .ref (rd)), (0, .ref (x)), (1, .int (nI (q))), (2, .int (nI (r))), (3, .int (nI (a))), (4, .int (nI (m)))] dX3_readFull_12 (by decide) rfl ?_
  refine vAload X dX3_readFull_14 0 rfl ?_
  refine vIloadN X dX3_readFull_16 5 rfl ?_
  refine vIload X dX3_readFull_17 6 rfl ?_
  refine vCallSd X [] (cb_needPlaces l D k sb L f h2 b2 (n2) (g2) (a) (m) hh2 fh2 hb2 fb2 (by omega) (by omega)) (vGS q_399 q_400 q_24 q_401) rfl ⟨by decide, by decide, (show _ = some 3 from by decide +kernel)⟩ ⟨Nat.le_of_ble_eq_true rfl, Nat.le_of_ble_eq_true rfl⟩ rfl (Nat.le_of_ble_eq_true rfl) dX3_readFull_19 ⟨Nat.le_of_ble_eq_true rfl, Nat.le_of_ble_eq_true rfl⟩ ?_
  refine vAload X dX3_readFull_22 1 rfl ?_
  refine vCallSd X [] (cb_needOpen l D k sb L f rd w b (n) (s) (P) (M) (T) (Mt) (g)  hrd frd hw fw hb fb (by omega) (by omega) (by first | rfl | assumption)) (vGS q_542 q_543 q_24 q_544) rfl ⟨by decide, by decide, (show _ = some 1 from by decide +kernel)⟩ ⟨Nat.le_of_ble_eq_true rfl, Nat.le_of_ble_eq_true rfl⟩ rfl (Nat.le_of_ble_eq_true rfl) dX3_readFull_24 ⟨Nat.le_of_ble_eq_true rfl, Nat.le_of_ble_eq_true rfl⟩ ?_
  refine vAload X dX3_readFull_27 1 rfl ?_
  refine vAload X dX3_readFull_29 0 rfl ?_
  obtain ⟨ix31, hix31⟩ := vp_ix (f := f) hrd
  refine vCallVd X [] (cq_isOverF l D k sb L f rd w b (n) (s) (P) (M) (T) (Mt) (g) h2 hrd frd hw fw hb fb (by omega) (by omega) he) (vGV q_580 q_581 q_582 q_28 q_583) ⟨by decide, by decide, (show _ = some 1 from by decide +kernel)⟩ ⟨Nat.le_of_ble_eq_true rfl, Nat.le_of_ble_eq_true rfl⟩ ix31 1 rfl rfl (hix31.trans (by rw [frd])) rfl (Nat.le_of_ble_eq_true rfl) dX3_readFull_31 ⟨Nat.le_of_ble_eq_true rfl, Nat.le_of_ble_eq_true rfl⟩ ?_
  refine vIfN_eqT X 47 dX3_readFull_34 (by decide) (by omega) (by omega) ?_
  refine vAload X dX3_readFull_47 1 rfl ?_
  refine vAload X dX3_readFull_49 1 rfl ?_
  refine vAload X dX3_readFull_51 0 rfl ?_
  refine vIloadN X dX3_readFull_53 5 rfl ?_
  refine vIload X dX3_readFull_54 6 rfl ?_
  obtain ⟨ix56, hix56⟩ := vp_ix (f := f) hrd
  refine vCallVd X [.ref (rd)] (cq_moveIntoD l D k sb L f rd w b (n) (s) (P) (M) (T) (Mt) (g) h2 b2 (n2) (g2) (a) (m) (d) hrd frd hw fw hb fb (by omega) (by omega) hh2 fh2 hb2 fb2 (by omega) hbb (by omega) (by omega) (by omega) hgf) (vGV q_568 q_569 q_570 q_28 q_571) ⟨by decide, by decide, (show _ = some 3 from by decide +kernel)⟩ ⟨Nat.le_of_ble_eq_true rfl, Nat.le_of_ble_eq_true rfl⟩ ix56 1 rfl rfl (hix56.trans (by rw [frd])) rfl (Nat.le_of_ble_eq_true rfl) dX3_readFull_56 ⟨Nat.le_of_ble_eq_true rfl, Nat.le_of_ble_eq_true rfl⟩ ?_
  obtain ⟨ix59, hix59⟩ := vp_ix (f := va_up (va_up f b2 (.inl (k 0, n2, .inl (va_cpy g g2 (P) (a) (d))))) rd (.inr (1, [.ref (w), .int (nI (s)), .int (nI ((P) + (d))), .int (nI (M)), .int (nI (T)), .int (nI (Mt))]))) hrd
  refine vCallVd X [] (cq_tell l D k sb L (va_up (va_up f b2 (.inl (k 0, n2, .inl (va_cpy g g2 (P) (a) (d))))) rd (.inr (1, [.ref (w), .int (nI (s)), .int (nI ((P) + (d))), .int (nI (M)), .int (nI (T)), .int (nI (Mt))]))) rd w b (n) (s) ((P) + (d)) (M) (T) (Mt) (g) d hrd (va_up_eq _ _ _) hw ((va_up_nq _ (ne_of fw frd (by simp))).trans ((va_up_nq _ (ne_of fw fb2 (by simp))).trans fw)) hb ((va_up_nq _ (ne_of fb frd (by simp))).trans ((va_up_nq _ hbb).trans fb)) (by omega) (by omega) ) (vGV q_250 q_251 q_252 q_28 q_253) ⟨by decide, by decide, (show _ = some 1 from by decide +kernel)⟩ ⟨Nat.le_of_ble_eq_true rfl, Nat.le_of_ble_eq_true rfl⟩ ix59 1 rfl rfl (hix59.trans (by rw [(va_up_eq _ _ _)])) rfl (Nat.le_of_ble_eq_true rfl) dX3_readFull_59 ⟨Nat.le_of_ble_eq_true rfl, Nat.le_of_ble_eq_true rfl⟩ ?_
  refine vWs (ws' := va_pl L (va_up (va_up f b2 (.inl (k 0, n2, .inl (va_cpy g g2 (P) (a) (d))))) rd (.inr (1, [.ref (w), .int (nI (s)), .int (nI ((P) + (d))), .int (nI (M)), .int (nI ((T) + (d))), .int (nI (Mt))])))) (congrArg (fun φ9 => va_pl L (φ9)) (va_up_up _ _ _ _)) ?_
  exact vRetI X hret dX3_readFull_62 ⟨rfl, rfl⟩
set_option maxHeartbeats 4000000 in
set_option maxRecDepth 100000 in
theorem ct_readSome1 (l : Launch) (D : va_G) (k : Nat → ClassId) (sb : Nat) (L : List Nat) (f : Nat → va_E) (x aW aG aR tr tg : Nat) (gW gG gR : Nat → Option Nat) (v z y : Int32) (hl : l.stackTraces = false) (hx : x ∈ L) (fx : f x = .inr (3, [.ref aW, .ref aG, .ref aR, .ref tr, .ref tg])) (haW : aW ∈ L) (faW : f aW = .inl (k 4, 4, .inr (.inr (.inr (.inr gW))))) (haG : aG ∈ L) (faG : f aG = .inl (k 2, 3, .inr (.inr (.inr (.inr gG))))) (haR : aR ∈ L) (faR : f aR = .inl (k 3, 3, .inr (.inr (.inr (.inr gR))))) (hv : ¬ vOther v) : vCtX l yX3_readSome cX3_readSome 5 (some .int) 9 151 1 6 D vCl (vTy k) sb [.ref (x), .int (v), .int (z), .int (y)] (va_pl L f) "java/lang/IndexOutOfBoundsException" := by
  refine vOfX (by decide +kernel) (Nat.le_of_ble_eq_true rfl) (fun p9 e9 s9 m9 below9 meth9 c9 X hE hnt => ?_)
  refine vAloadN X dX3_readSome_0 0 rfl ?_
  refine vIloadN X dX3_readSome_1 1 rfl ?_
  obtain ⟨ix2, hix2⟩ := vp_ix (f := f) hx
  exact vCallVT X hE hnt [] (ct_readerAt l D k sb L f x aW aG aR tr tg (gW) (gG) (gR) v hl hx fx haW faW haG faG haR faR hv) (vGV q_522 q_524 q_6 q_24 q_525) ⟨by decide, by decide, (show _ = some 1 from by decide +kernel)⟩ ⟨Nat.le_of_ble_eq_true rfl, Nat.le_of_ble_eq_true rfl⟩ ix2 3 rfl rfl (hix2.trans (by rw [fx])) rfl (Nat.le_of_ble_eq_true rfl) dX3_readSome_2 ⟨(Nat.le_of_ble_eq_true rfl), (Nat.le_of_ble_eq_true rfl)⟩ (Nat.le_of_ble_eq_true rfl) (Nat.le_of_ble_eq_true rfl)
set_option maxHeartbeats 4000000 in
set_option maxRecDepth 100000 in
theorem ct_readSome2 (l : Launch) (D : va_G) (k : Nat → ClassId) (sb : Nat) (L : List Nat) (f : Nat → va_E) (x aW aG aR tr tg : Nat) (gW gG gR : Nat → Option Nat) (q : Nat) (rd w b n s P M T Mt : Nat) (g : Nat → Int32) (z y : Int32) (hl : l.stackTraces = false) (hx : x ∈ L) (fx : f x = .inr (3, [.ref aW, .ref aG, .ref aR, .ref tr, .ref tg])) (haW : aW ∈ L) (faW : f aW = .inl (k 4, 4, .inr (.inr (.inr (.inr gW))))) (haG : aG ∈ L) (faG : f aG = .inl (k 2, 3, .inr (.inr (.inr (.inr gG))))) (haR : aR ∈ L) (faR : f aR = .inl (k 3, 3, .inr (.inr (.inr (.inr gR))))) (hq9 : q < 3) (eq : gR q = some rd) (hrd : rd ∈ L) (frd : f rd = .inr (1, [.ref w, .int (nI s), .int (nI P), .int (nI M), .int (nI T), .int (nI Mt)])) (hw : w ∈ L) (fw : f w = .inr (2, [.ref b])) (hb : b ∈ L) (fb : f b = .inl (k 0, n, .inl g)) (hn : n ≤ 256) (hP : P ≤ n) (hz : ¬ vRow z) : vCtX l yX3_readSome cX3_readSome 5 (some .int) 9 151 1 6 D vCl (vTy k) sb [.ref (x), .int (nI (q)), .int (z), .int (y)] (va_pl L f) "java/lang/IndexOutOfBoundsException" := by
  refine vOfX (by decide +kernel) (Nat.le_of_ble_eq_true rfl) (fun p9 e9 s9 m9 below9 meth9 c9 X hE hnt => ?_)
  refine vAloadN X dX3_readSome_0 0 rfl ?_
  refine vIloadN X dX3_readSome_1 1 rfl ?_
  obtain ⟨ix2, hix2⟩ := vp_ix (f := f) hx
  refine vCallVd X [] (cb_readerAt l D k sb L f x aW aG aR tr tg (gW) (gG) (gR) q rd hx fx haW faW haG faG haR faR (by omega) eq) (vGV q_522 q_524 q_6 q_24 q_525) ⟨by decide, by decide, (show _ = some 1 from by decide +kernel)⟩ ⟨Nat.le_of_ble_eq_true rfl, Nat.le_of_ble_eq_true rfl⟩ ix2 3 rfl rfl (hix2.trans (by rw [fx])) rfl (Nat.le_of_ble_eq_true rfl) dX3_readSome_2 ⟨Nat.le_of_ble_eq_true rfl, Nat.le_of_ble_eq_true rfl⟩ ?_
  refine vAstore X [(4, .ref (rd)), (0, .ref (x)), (1, .int (nI (q))), (2, .int (z)), (3, .int (y))] dX3_readSome_5 (by decide) rfl ?_
  refine vAloadN X dX3_readSome_7 1 rfl ?_
  refine vIloadN X dX3_readSome_8 3 rfl ?_
  obtain ⟨ix9, hix9⟩ := vp_ix (f := f) hx
  exact vCallVT X hE hnt [] (ct_needRow l D k sb L f x aW aG aR tr tg (gW) (gG) (gR) z hl hx fx haW faW haG faG haR faR hz) (vGV q_345 q_347 q_4 q_24 q_348) ⟨by decide, by decide, (show _ = some 1 from by decide +kernel)⟩ ⟨Nat.le_of_ble_eq_true rfl, Nat.le_of_ble_eq_true rfl⟩ ix9 3 rfl rfl (hix9.trans (by rw [fx])) rfl (Nat.le_of_ble_eq_true rfl) dX3_readSome_9 ⟨(Nat.le_of_ble_eq_true rfl), (Nat.le_of_ble_eq_true rfl)⟩ (Nat.le_of_ble_eq_true rfl) (Nat.le_of_ble_eq_true rfl)
set_option maxHeartbeats 4000000 in
set_option maxRecDepth 100000 in
theorem ct_readSome3 (l : Launch) (D : va_G) (k : Nat → ClassId) (sb : Nat) (L : List Nat) (f : Nat → va_E) (x aW aG aR tr tg : Nat) (gW gG gR : Nat → Option Nat) (q : Nat) (rd w b n s P M T Mt : Nat) (g : Nat → Int32) (r : Nat) (y : Int32) (hl : l.stackTraces = false) (hx : x ∈ L) (fx : f x = .inr (3, [.ref aW, .ref aG, .ref aR, .ref tr, .ref tg])) (haW : aW ∈ L) (faW : f aW = .inl (k 4, 4, .inr (.inr (.inr (.inr gW))))) (haG : aG ∈ L) (faG : f aG = .inl (k 2, 3, .inr (.inr (.inr (.inr gG))))) (haR : aR ∈ L) (faR : f aR = .inl (k 3, 3, .inr (.inr (.inr (.inr gR))))) (hq9 : q < 3) (eq : gR q = some rd) (hrd : rd ∈ L) (frd : f rd = .inr (1, [.ref w, .int (nI s), .int (nI P), .int (nI M), .int (nI T), .int (nI Mt)])) (hw : w ∈ L) (fw : f w = .inr (2, [.ref b])) (hb : b ∈ L) (fb : f b = .inl (k 0, n, .inl g)) (hn : n ≤ 256) (hP : P ≤ n) (hr9 : r < 4) (hy : y < nI 0) : vCtX l yX3_readSome cX3_readSome 5 (some .int) 9 151 1 6 D vCl (vTy k) sb [.ref (x), .int (nI (q)), .int (nI (r)), .int (y)] (va_pl L f) "java/lang/IllegalArgumentException" := by
  have hyl : y.toInt64 < lN 0 := by
    refine Int64.lt_iff_toInt_lt.mpr ?_
    have h9 := Int32.lt_iff_toInt_lt.mp hy
    rw [Int32.toInt_toInt64]
    exact h9
  refine vOfX (by decide +kernel) (Nat.le_of_ble_eq_true rfl) (fun p9 e9 s9 m9 below9 meth9 c9 X hE hnt => ?_)
  refine vAloadN X dX3_readSome_0 0 rfl ?_
  refine vIloadN X dX3_readSome_1 1 rfl ?_
  obtain ⟨ix2, hix2⟩ := vp_ix (f := f) hx
  refine vCallVd X [] (cb_readerAt l D k sb L f x aW aG aR tr tg (gW) (gG) (gR) q rd hx fx haW faW haG faG haR faR (by omega) eq) (vGV q_522 q_524 q_6 q_24 q_525) ⟨by decide, by decide, (show _ = some 1 from by decide +kernel)⟩ ⟨Nat.le_of_ble_eq_true rfl, Nat.le_of_ble_eq_true rfl⟩ ix2 3 rfl rfl (hix2.trans (by rw [fx])) rfl (Nat.le_of_ble_eq_true rfl) dX3_readSome_2 ⟨Nat.le_of_ble_eq_true rfl, Nat.le_of_ble_eq_true rfl⟩ ?_
  refine vAstore X [(4, .ref (rd)), (0, .ref (x)), (1, .int (nI (q))), (2, .int (nI (r))), (3, .int (y))] dX3_readSome_5 (by decide) rfl ?_
  refine vAloadN X dX3_readSome_7 1 rfl ?_
  refine vIloadN X dX3_readSome_8 3 rfl ?_
  obtain ⟨ix9, hix9⟩ := vp_ix (f := f) hx
  refine vCallVd X [] (cb_needRow l D k sb L f x aW aG aR tr tg (gW) (gG) (gR) r hx fx haW faW haG faG haR faR (by omega)) (vGV q_345 q_347 q_4 q_24 q_348) ⟨by decide, by decide, (show _ = some 1 from by decide +kernel)⟩ ⟨Nat.le_of_ble_eq_true rfl, Nat.le_of_ble_eq_true rfl⟩ ix9 3 rfl rfl (hix9.trans (by rw [fx])) rfl (Nat.le_of_ble_eq_true rfl) dX3_readSome_9 ⟨Nat.le_of_ble_eq_true rfl, Nat.le_of_ble_eq_true rfl⟩ ?_
  refine vIloadN X dX3_readSome_12 4 rfl ?_
  refine vI2l X dX3_readSome_13 (v := (y).toInt64) rfl ?_
  exact vCallST X hE hnt [] (ct_needWanted l D k sb L f ((y).toInt64) hl hyl) (vGS q_592 q_593 q_24 q_594) rfl ⟨by decide, by decide, (show _ = some 1 from by decide +kernel)⟩ ⟨Nat.le_of_ble_eq_true rfl, Nat.le_of_ble_eq_true rfl⟩ rfl (Nat.le_of_ble_eq_true rfl) dX3_readSome_14 ⟨(Nat.le_of_ble_eq_true rfl), (Nat.le_of_ble_eq_true rfl)⟩ (Nat.le_of_ble_eq_true rfl) (Nat.le_of_ble_eq_true rfl)
set_option maxHeartbeats 4000000 in
set_option maxRecDepth 100000 in
theorem ct_readSome4 (l : Launch) (D : va_G) (k : Nat → ClassId) (sb : Nat) (L : List Nat) (f : Nat → va_E) (x aW aG aR tr tg : Nat) (gW gG gR : Nat → Option Nat) (q : Nat) (rd w b n s P M T Mt : Nat) (g : Nat → Int32) (r : Nat) (m : Nat) (hl : l.stackTraces = false) (hx : x ∈ L) (fx : f x = .inr (3, [.ref aW, .ref aG, .ref aR, .ref tr, .ref tg])) (haW : aW ∈ L) (faW : f aW = .inl (k 4, 4, .inr (.inr (.inr (.inr gW))))) (haG : aG ∈ L) (faG : f aG = .inl (k 2, 3, .inr (.inr (.inr (.inr gG))))) (haR : aR ∈ L) (faR : f aR = .inl (k 3, 3, .inr (.inr (.inr (.inr gR))))) (hq9 : q < 3) (eq : gR q = some rd) (hrd : rd ∈ L) (frd : f rd = .inr (1, [.ref w, .int (nI s), .int (nI P), .int (nI M), .int (nI T), .int (nI Mt)])) (hw : w ∈ L) (fw : f w = .inr (2, [.ref b])) (hb : b ∈ L) (fb : f b = .inl (k 0, n, .inl g)) (hn : n ≤ 256) (hP : P ≤ n) (hr9 : r < 4) (hs : s = 0) (hm : m < 2 ^ 31) : vCtX l yX3_readSome cX3_readSome 5 (some .int) 9 151 1 6 D vCl (vTy k) sb [.ref (x), .int (nI (q)), .int (nI (r)), .int (nI (m))] (va_pl L f) "java/lang/UnsupportedOperationException" := by
  refine vOfX (by decide +kernel) (Nat.le_of_ble_eq_true rfl) (fun p9 e9 s9 m9 below9 meth9 c9 X hE hnt => ?_)
  refine vAloadN X dX3_readSome_0 0 rfl ?_
  refine vIloadN X dX3_readSome_1 1 rfl ?_
  obtain ⟨ix2, hix2⟩ := vp_ix (f := f) hx
  refine vCallVd X [] (cb_readerAt l D k sb L f x aW aG aR tr tg (gW) (gG) (gR) q rd hx fx haW faW haG faG haR faR (by omega) eq) (vGV q_522 q_524 q_6 q_24 q_525) ⟨by decide, by decide, (show _ = some 1 from by decide +kernel)⟩ ⟨Nat.le_of_ble_eq_true rfl, Nat.le_of_ble_eq_true rfl⟩ ix2 3 rfl rfl (hix2.trans (by rw [fx])) rfl (Nat.le_of_ble_eq_true rfl) dX3_readSome_2 ⟨Nat.le_of_ble_eq_true rfl, Nat.le_of_ble_eq_true rfl⟩ ?_
  refine vAstore X [(4, .ref (rd)), (0, .ref (x)), (1, .int (nI (q))), (2, .int (nI (r))), (3, .int (nI (m)))] dX3_readSome_5 (by decide) rfl ?_
  refine vAloadN X dX3_readSome_7 1 rfl ?_
  refine vIloadN X dX3_readSome_8 3 rfl ?_
  obtain ⟨ix9, hix9⟩ := vp_ix (f := f) hx
  refine vCallVd X [] (cb_needRow l D k sb L f x aW aG aR tr tg (gW) (gG) (gR) r hx fx haW faW haG faG haR faR (by omega)) (vGV q_345 q_347 q_4 q_24 q_348) ⟨by decide, by decide, (show _ = some 1 from by decide +kernel)⟩ ⟨Nat.le_of_ble_eq_true rfl, Nat.le_of_ble_eq_true rfl⟩ ix9 3 rfl rfl (hix9.trans (by rw [fx])) rfl (Nat.le_of_ble_eq_true rfl) dX3_readSome_9 ⟨Nat.le_of_ble_eq_true rfl, Nat.le_of_ble_eq_true rfl⟩ ?_
  refine vIloadN X dX3_readSome_12 4 rfl ?_
  refine vI2l X dX3_readSome_13 (v := lN (m)) (nI_l (by omega)) ?_
  refine vCallSd X [] (cb_needWanted l D k sb L f (m) (by omega)) (vGS q_592 q_593 q_24 q_594) rfl ⟨by decide, by decide, (show _ = some 1 from by decide +kernel)⟩ ⟨Nat.le_of_ble_eq_true rfl, Nat.le_of_ble_eq_true rfl⟩ rfl (Nat.le_of_ble_eq_true rfl) dX3_readSome_14 ⟨Nat.le_of_ble_eq_true rfl, Nat.le_of_ble_eq_true rfl⟩ ?_
  refine vAload X dX3_readSome_17 0 rfl ?_
  exact vCallST X hE hnt [] (ct_needOpen l D k sb L f rd w b (n) (s) (P) (M) (T) (Mt) (g) hl hrd frd hw fw hb fb (by omega) (by omega) (by first | rfl | assumption)) (vGS q_542 q_543 q_24 q_544) rfl ⟨by decide, by decide, (show _ = some 1 from by decide +kernel)⟩ ⟨Nat.le_of_ble_eq_true rfl, Nat.le_of_ble_eq_true rfl⟩ rfl (Nat.le_of_ble_eq_true rfl) dX3_readSome_19 ⟨(Nat.le_of_ble_eq_true rfl), (Nat.le_of_ble_eq_true rfl)⟩ (Nat.le_of_ble_eq_true rfl) (Nat.le_of_ble_eq_true rfl)
set_option maxHeartbeats 4000000 in
set_option maxRecDepth 100000 in
theorem cb_readSome (l : Launch) (D : va_G) (k : Nat → ClassId) (sb : Nat) (L : List Nat) (f : Nat → va_E) (x aW aG aR tr tg : Nat) (gW gG gR : Nat → Option Nat) (q : Nat) (rd w b n s P M T Mt : Nat) (g : Nat → Int32) (r : Nat) (m d : Nat) (hx : x ∈ L) (fx : f x = .inr (3, [.ref aW, .ref aG, .ref aR, .ref tr, .ref tg])) (haW : aW ∈ L) (faW : f aW = .inl (k 4, 4, .inr (.inr (.inr (.inr gW))))) (haG : aG ∈ L) (faG : f aG = .inl (k 2, 3, .inr (.inr (.inr (.inr gG))))) (haR : aR ∈ L) (faR : f aR = .inl (k 3, 3, .inr (.inr (.inr (.inr gR))))) (hq9 : q < 3) (eq : gR q = some rd) (hrd : rd ∈ L) (frd : f rd = .inr (1, [.ref w, .int (nI s), .int (nI P), .int (nI M), .int (nI T), .int (nI Mt)])) (hw : w ∈ L) (fw : f w = .inr (2, [.ref b])) (hb : b ∈ L) (fb : f b = .inl (k 0, n, .inl g)) (hn : n ≤ 256) (hP : P ≤ n) (hr9 : r < 4) (hs : s = 1) (hm : m < 2 ^ 31) (hd : d = min m (n - P)) (hgf : ∀ j, lb (g j) = g j) : vCt l yX3_readSome cX3_readSome 5 (some .int) 9 151 2 257 D vCl (vTy k) sb [.ref (x), .int (nI (q)), .int (nI (r)), .int (nI (m))] (va_pl L f) (fun v ws' => ∃ (q qb : Nat) (L' : List Nat) (f' : Nat → va_E), q ∉ L ∧ qb ∉ L ∧ (∀ a, a ∈ L → a ∈ L' ∧ (a ≠ aW → a ≠ rd → f' a = f a)) ∧ f' aW = .inl (k 4, 4, .inr (.inr (.inr (.inr (va_up gW r (some q)))))) ∧ f' rd = .inr (1, [.ref w, .int (nI s), .int (nI (P + d)), .int (nI M), .int (nI (T + d)), .int (nI Mt)]) ∧ q ∈ L' ∧ f' q = .inr (2, [.ref qb]) ∧ qb ∈ L' ∧ f' qb = .inl (k 0, d, .inl (va_cpy g (fun _ => 0) P 0 d)) ∧ v = some (.int (nI d)) ∧ ws' = va_pl L' f') := by
  refine vOf (by decide +kernel) (Nat.le_of_ble_eq_true rfl) (fun p9 e9 s9 m9 below9 meth9 c9 X hret hmn => ?_)
  refine vAloadN X dX3_readSome_0 0 rfl ?_
  refine vIloadN X dX3_readSome_1 1 rfl ?_
  obtain ⟨ix2, hix2⟩ := vp_ix (f := f) hx
  refine vCallVd X [] (cb_readerAt l D k sb L f x aW aG aR tr tg (gW) (gG) (gR) q rd hx fx haW faW haG faG haR faR (by omega) eq) (vGV q_522 q_524 q_6 q_24 q_525) ⟨by decide, by decide, (show _ = some 1 from by decide +kernel)⟩ ⟨Nat.le_of_ble_eq_true rfl, Nat.le_of_ble_eq_true rfl⟩ ix2 3 rfl rfl (hix2.trans (by rw [fx])) rfl (Nat.le_of_ble_eq_true rfl) dX3_readSome_2 ⟨Nat.le_of_ble_eq_true rfl, Nat.le_of_ble_eq_true rfl⟩ ?_
  refine vAstore X [(4, .ref (rd)), (0, .ref (x)), (1, .int (nI (q))), (2, .int (nI (r))), (3, .int (nI (m)))] dX3_readSome_5 (by decide) rfl ?_
  refine vAloadN X dX3_readSome_7 1 rfl ?_
  refine vIloadN X dX3_readSome_8 3 rfl ?_
  obtain ⟨ix9, hix9⟩ := vp_ix (f := f) hx
  refine vCallVd X [] (cb_needRow l D k sb L f x aW aG aR tr tg (gW) (gG) (gR) r hx fx haW faW haG faG haR faR (by omega)) (vGV q_345 q_347 q_4 q_24 q_348) ⟨by decide, by decide, (show _ = some 1 from by decide +kernel)⟩ ⟨Nat.le_of_ble_eq_true rfl, Nat.le_of_ble_eq_true rfl⟩ ix9 3 rfl rfl (hix9.trans (by rw [fx])) rfl (Nat.le_of_ble_eq_true rfl) dX3_readSome_9 ⟨Nat.le_of_ble_eq_true rfl, Nat.le_of_ble_eq_true rfl⟩ ?_
  refine vIloadN X dX3_readSome_12 4 rfl ?_
  refine vI2l X dX3_readSome_13 (v := lN (m)) (nI_l (by omega)) ?_
  refine vCallSd X [] (cb_needWanted l D k sb L f (m) (by omega)) (vGS q_592 q_593 q_24 q_594) rfl ⟨by decide, by decide, (show _ = some 1 from by decide +kernel)⟩ ⟨Nat.le_of_ble_eq_true rfl, Nat.le_of_ble_eq_true rfl⟩ rfl (Nat.le_of_ble_eq_true rfl) dX3_readSome_14 ⟨Nat.le_of_ble_eq_true rfl, Nat.le_of_ble_eq_true rfl⟩ ?_
  refine vAload X dX3_readSome_17 0 rfl ?_
  refine vCallSd X [] (cb_needOpen l D k sb L f rd w b (n) (s) (P) (M) (T) (Mt) (g)  hrd frd hw fw hb fb (by omega) (by omega) (by first | rfl | assumption)) (vGS q_542 q_543 q_24 q_544) rfl ⟨by decide, by decide, (show _ = some 1 from by decide +kernel)⟩ ⟨Nat.le_of_ble_eq_true rfl, Nat.le_of_ble_eq_true rfl⟩ rfl (Nat.le_of_ble_eq_true rfl) dX3_readSome_19 ⟨Nat.le_of_ble_eq_true rfl, Nat.le_of_ble_eq_true rfl⟩ ?_
  refine vAloadN X dX3_readSome_22 1 rfl ?_
  refine vpGet X (C := RX3) (T := TX3) (N := 5) (ci := 3) (vcons inB) rfl hx fx 0 (by decide) (List.mem_cons_of_mem _ q_109) (fun _ h => h) rfl dX3_readSome_23 ?_
  refine vIloadN X dX3_readSome_26 3 rfl ?_
  refine vAload X dX3_readSome_27 0 rfl ?_
  refine vIloadN X dX3_readSome_29 4 rfl ?_
  obtain ⟨ix30, hix30⟩ := vp_ix (f := f) hrd
  refine vCallV X [.int (nI (r)), .ref (aW)] (cq_nextRow l D k sb L f rd w b (n) (s) (P) (M) (T) (Mt) (g) (m) (d) hrd frd hw fw hb fb (by omega) (by omega) (by omega) (by omega) hgf) (vGV q_596 q_597 q_598 q_28 q_599) ⟨by decide, by decide, (show _ = some 1 from by decide +kernel)⟩ ⟨Nat.le_of_ble_eq_true rfl, Nat.le_of_ble_eq_true rfl⟩ ix30 1 rfl rfl (hix30.trans (by rw [frd])) rfl (Nat.le_of_ble_eq_true rfl) dX3_readSome_30 ⟨Nat.le_of_ble_eq_true rfl, Nat.le_of_ble_eq_true rfl⟩ (fun v9 w9 hp9 => ?_)
  obtain ⟨q30, qb30, L30, f30, hq30, hqb30, hx30, vr30, mq30, vq30, mqb30, vqb30, rfl, rfl⟩ := hp9
  refine vWiden 2 257 (by omega) (by omega) ?_
  refine vpAastore X (r := (RX2, TX2, 1)) (g' := va_up gW (r) (some q30)) (((hx30) _ haW).1) ((((hx30) _ haW).2 (ne_of faW frd (by simp))).trans faW) 4 rfl mq30 vq30 rfl rfl (by omega) (by omega) rfl dX3_readSome_33 ?_
  refine vAload X dX3_readSome_34 0 rfl ?_
  refine vAloadN X dX3_readSome_36 1 rfl ?_
  refine vpGet X (C := RX3) (T := TX3) (N := 5) (ci := 3) (vcons inB) rfl (((hx30) _ hx).1) ((va_up_nq _ (ne_of ((((hx30) _ hx).2 (ne_of fx frd (by simp))).trans fx) ((((hx30) _ haW).2 (ne_of faW frd (by simp))).trans faW) (by simp))).trans ((((hx30) _ hx).2 (ne_of fx frd (by simp))).trans fx)) 0 (by decide) (List.mem_cons_of_mem _ q_109) (fun _ h => h) rfl dX3_readSome_37 ?_
  refine vIloadN X dX3_readSome_40 3 rfl ?_
  refine vpAaload X (r := q30) (((hx30) _ haW).1) (va_up_eq _ _ _) 4 rfl rfl (by omega) (by omega) (va_up_eq _ _ _) dX3_readSome_41 ?_
  obtain ⟨ix42, hix42⟩ := vp_ix (f := va_up f30 aW (.inl (k 4, 4, .inr (.inr (.inr (.inr (va_up gW (r) (some q30)))))))) mq30
  refine vCallVd X [.ref (rd)] (cr_count l D k sb L30 (va_up f30 aW (.inl (k 4, 4, .inr (.inr (.inr (.inr (va_up gW (r) (some q30)))))))) q30 qb30 (d) (va_cpy g (fun _ => 0) (P) 0 (d))  mq30 ((va_up_nq _ (fun z9 => hq30 (by rw [z9]; exact haW))).trans vq30) mqb30 ((va_up_nq _ (fun z9 => hqb30 (by rw [z9]; exact haW))).trans vqb30) (by omega) ) (vGV q_131 q_132 q_133 q_25 q_134) ⟨by decide, by decide, (show _ = some 0 from by decide +kernel)⟩ ⟨Nat.le_of_ble_eq_true rfl, Nat.le_of_ble_eq_true rfl⟩ ix42 2 rfl rfl (hix42.trans (by rw [((va_up_nq _ (fun z9 => hq30 (by rw [z9]; exact haW))).trans vq30)])) rfl (Nat.le_of_ble_eq_true rfl) dX3_readSome_42 ⟨Nat.le_of_ble_eq_true rfl, Nat.le_of_ble_eq_true rfl⟩ ?_
  obtain ⟨ix45, hix45⟩ := vp_ix (f := va_up f30 aW (.inl (k 4, 4, .inr (.inr (.inr (.inr (va_up gW (r) (some q30)))))))) (((hx30) _ hrd).1)
  refine vCallVd X [] (cq_tell l D k sb L30 (va_up f30 aW (.inl (k 4, 4, .inr (.inr (.inr (.inr (va_up gW (r) (some q30)))))))) rd w b (n) (s) (P + d) (M) (T) (Mt) (g) d (((hx30) _ hrd).1) ((va_up_nq _ (ne_of vr30 ((((hx30) _ haW).2 (ne_of faW frd (by simp))).trans faW) (by simp))).trans vr30) (((hx30) _ hw).1) ((va_up_nq _ (ne_of ((((hx30) _ hw).2 (ne_of fw frd (by simp))).trans fw) ((((hx30) _ haW).2 (ne_of faW frd (by simp))).trans faW) (by simp))).trans ((((hx30) _ hw).2 (ne_of fw frd (by simp))).trans fw)) (((hx30) _ hb).1) ((va_up_nq _ (ne_of ((((hx30) _ hb).2 (ne_of fb frd (by simp))).trans fb) ((((hx30) _ haW).2 (ne_of faW frd (by simp))).trans faW) (by simp))).trans ((((hx30) _ hb).2 (ne_of fb frd (by simp))).trans fb)) (by omega) (by omega) ) (vGV q_250 q_251 q_252 q_28 q_253) ⟨by decide, by decide, (show _ = some 1 from by decide +kernel)⟩ ⟨Nat.le_of_ble_eq_true rfl, Nat.le_of_ble_eq_true rfl⟩ ix45 1 rfl rfl (hix45.trans (by rw [((va_up_nq _ (ne_of vr30 ((((hx30) _ haW).2 (ne_of faW frd (by simp))).trans faW) (by simp))).trans vr30)])) rfl (Nat.le_of_ble_eq_true rfl) dX3_readSome_45 ⟨Nat.le_of_ble_eq_true rfl, Nat.le_of_ble_eq_true rfl⟩ ?_
  exact vRetI X hret dX3_readSome_48 ⟨q30, qb30, _, _, hq30, hqb30, (fun a9 ha9 => ⟨(((hx30) _ ha9).1), fun ne9 ne8 => ((va_up_nq _ ne8).trans ((va_up_nq _ ne9).trans ((((hx30) _ ha9).2 ne8).trans rfl)))⟩), ((va_up_nq _ (ne_of ((((hx30) _ haW).2 (ne_of faW frd (by simp))).trans faW) vr30 (by simp))).trans (va_up_eq _ _ _)), (va_up_eq _ _ _), mq30, ((va_up_nq _ (fun z9 => hq30 (by rw [z9]; exact hrd))).trans ((va_up_nq _ (fun z9 => hq30 (by rw [z9]; exact haW))).trans vq30)), mqb30, ((va_up_nq _ (fun z9 => hqb30 (by rw [z9]; exact hrd))).trans ((va_up_nq _ (fun z9 => hqb30 (by rw [z9]; exact haW))).trans vqb30)), rfl, rfl⟩
set_option maxHeartbeats 4000000 in
set_option maxRecDepth 100000 in
theorem cb_readNumber (l : Launch) (D : va_G) (k : Nat → ClassId) (sb : Nat) (L : List Nat) (f : Nat → va_E) (x aW aG aR tr tg : Nat) (gW gG gR : Nat → Option Nat) (q : Nat) (rd w b n s P M T Mt : Nat) (g : Nat → Int32) (hx : x ∈ L) (fx : f x = .inr (3, [.ref aW, .ref aG, .ref aR, .ref tr, .ref tg])) (haW : aW ∈ L) (faW : f aW = .inl (k 4, 4, .inr (.inr (.inr (.inr gW))))) (haG : aG ∈ L) (faG : f aG = .inl (k 2, 3, .inr (.inr (.inr (.inr gG))))) (haR : aR ∈ L) (faR : f aR = .inl (k 3, 3, .inr (.inr (.inr (.inr gR))))) (hq9 : q < 3) (eq : gR q = some rd) (hrd : rd ∈ L) (frd : f rd = .inr (1, [.ref w, .int (nI s), .int (nI P), .int (nI M), .int (nI T), .int (nI Mt)])) (hw : w ∈ L) (fw : f w = .inr (2, [.ref b])) (hb : b ∈ L) (fb : f b = .inl (k 0, n, .inl g)) (hn : n ≤ 256) (hP : P ≤ n) (hs : s = 1) (he : P + 4 ≤ n) : vCt l yX3_readNumber cX3_readNumber 5 (some .int) 9 131 0 0 D vCl (vTy k) sb [.ref (x), .int (nI (q))] (va_pl L f) (vDet (some (.int (rdN (fun j => g (P + j)) 4))) (va_pl L (va_up f rd (.inr (1, [.ref w, .int (nI s), .int (nI (P + 1 + 1 + 1 + 1)), .int (nI M), .int (nI (T + 4)), .int (nI Mt)]))))) := by
  refine vOf (by decide +kernel) (Nat.le_of_ble_eq_true rfl) (fun p9 e9 s9 m9 below9 meth9 c9 X hret hmn => ?_)
  refine vAloadN X dX3_readNumber_0 0 rfl ?_
  refine vIloadN X dX3_readNumber_1 1 rfl ?_
  obtain ⟨ix2, hix2⟩ := vp_ix (f := f) hx
  refine vCallVd X [] (cb_readerAt l D k sb L f x aW aG aR tr tg (gW) (gG) (gR) q rd hx fx haW faW haG faG haR faR (by omega) eq) (vGV q_522 q_524 q_6 q_24 q_525) ⟨by decide, by decide, (show _ = some 1 from by decide +kernel)⟩ ⟨Nat.le_of_ble_eq_true rfl, Nat.le_of_ble_eq_true rfl⟩ ix2 3 rfl rfl (hix2.trans (by rw [fx])) rfl (Nat.le_of_ble_eq_true rfl) dX3_readNumber_2 ⟨Nat.le_of_ble_eq_true rfl, Nat.le_of_ble_eq_true rfl⟩ ?_
  refine vAstoreN X [(2, .ref (rd)), (0, .ref (x)), (1, .int (nI (q)))] dX3_readNumber_5 (by decide) rfl ?_
  refine vAloadN X dX3_readNumber_6 0 rfl ?_
  refine vCallSd X [] (cb_needOpen l D k sb L f rd w b (n) (s) (P) (M) (T) (Mt) (g)  hrd frd hw fw hb fb (by omega) (by omega) (by first | rfl | assumption)) (vGS q_542 q_543 q_24 q_544) rfl ⟨by decide, by decide, (show _ = some 1 from by decide +kernel)⟩ ⟨Nat.le_of_ble_eq_true rfl, Nat.le_of_ble_eq_true rfl⟩ rfl (Nat.le_of_ble_eq_true rfl) dX3_readNumber_7 ⟨Nat.le_of_ble_eq_true rfl, Nat.le_of_ble_eq_true rfl⟩ ?_
  refine vAloadN X dX3_readNumber_10 0 rfl ?_
  obtain ⟨ix11, hix11⟩ := vp_ix (f := f) hrd
  refine vCallVd X [] (cq_remaining l D k sb L f rd w b (n) (s) (P) (M) (T) (Mt) (g)  hrd frd hw fw hb fb (by omega) (by omega) ) (vGV q_161 q_162 q_163 q_28 q_164) ⟨by decide, by decide, (show _ = some 0 from by decide +kernel)⟩ ⟨Nat.le_of_ble_eq_true rfl, Nat.le_of_ble_eq_true rfl⟩ ix11 1 rfl rfl (hix11.trans (by rw [frd])) rfl (Nat.le_of_ble_eq_true rfl) dX3_readNumber_11 ⟨Nat.le_of_ble_eq_true rfl, Nat.le_of_ble_eq_true rfl⟩ ?_
  refine vIconst X dX3_readNumber_14 (v := nI (4)) (by decide) ?_
  refine vIcmpN_geT X 28 dX3_readNumber_15 (by decide) (by omega) (by omega) (by omega) ?_
  refine vIconst X dX3_readNumber_28 (v := nI (0)) (by decide) ?_
  refine vIstoreN X [(3, .int (nI (0))), (2, .ref (rd)), (0, .ref (x)), (1, .int (nI (q)))] dX3_readNumber_29 (by decide) rfl ?_
  refine vIconst X dX3_readNumber_30 (v := nI (0)) (by decide) ?_
  refine vIstore X [(4, .int (nI (0))), (3, .int (nI (0))), (2, .ref (rd)), (0, .ref (x)), (1, .int (nI (q)))] dX3_readNumber_31 (by decide) rfl ?_
  refine vIload X dX3_readNumber_33 0 rfl ?_
  refine vIconst X dX3_readNumber_35 (v := nI (4)) (by decide) ?_
  refine vIcmpN_geF X 55 dX3_readNumber_36 (by decide) (by omega) (by omega) (by omega) ?_
  refine vIloadN X dX3_readNumber_39 1 rfl ?_
  refine vBipush X dX3_readNumber_40 (v := nI (8)) (by decide) ?_
  refine vIshl X dX3_readNumber_42 (v := (nI (0)) <<< ((nI (8)) &&& 31)) rfl ?_
  refine vAloadN X dX3_readNumber_43 2 rfl ?_
  obtain ⟨ix44, hix44⟩ := vp_ix (f := f) hrd
  refine vCallVd X [.int ((nI (0)) <<< ((nI (8)) &&& 31))] (cq_next l D k sb L f rd w b (n) (s) (P) (M) (T) (Mt) (g)  hrd frd hw fw hb fb (by omega) (by omega) (by omega)) (vGV q_202 q_203 q_204 q_28 q_205) ⟨by decide, by decide, (show _ = some 0 from by decide +kernel)⟩ ⟨Nat.le_of_ble_eq_true rfl, Nat.le_of_ble_eq_true rfl⟩ ix44 1 rfl rfl (hix44.trans (by rw [frd])) rfl (Nat.le_of_ble_eq_true rfl) dX3_readNumber_44 ⟨Nat.le_of_ble_eq_true rfl, Nat.le_of_ble_eq_true rfl⟩ ?_
  refine vIor X dX3_readNumber_47 (v := ((nI (0)) <<< ((nI (8)) &&& 31)) ||| ((g (P)) &&& (nI 255))) rfl ?_
  refine vIstoreN X [(3, .int (((nI (0)) <<< ((nI (8)) &&& 31)) ||| ((g (P)) &&& (nI 255)))), (4, .int (nI (0))), (2, .ref (rd)), (0, .ref (x)), (1, .int (nI (q)))] dX3_readNumber_48 (by decide) rfl ?_
  refine vIinc X [(4, .int (nI (0 + 1))), (3, .int (((nI (0)) <<< ((nI (8)) &&& 31)) ||| ((g (P)) &&& (nI 255)))), (2, .ref (rd)), (0, .ref (x)), (1, .int (nI (q)))] dX3_readNumber_49 1 rfl (nI_inc _) (by decide) rfl ?_
  refine vGoto X 33 dX3_readNumber_52 (by decide) ?_
  refine vIload X dX3_readNumber_33 0 rfl ?_
  refine vIconst X dX3_readNumber_35 (v := nI (4)) (by decide) ?_
  refine vIcmpN_geF X 55 dX3_readNumber_36 (by decide) (by omega) (by omega) (by omega) ?_
  refine vIloadN X dX3_readNumber_39 1 rfl ?_
  refine vBipush X dX3_readNumber_40 (v := nI (8)) (by decide) ?_
  refine vIshl X dX3_readNumber_42 (v := (((nI (0)) <<< ((nI (8)) &&& 31)) ||| ((g (P)) &&& (nI 255))) <<< ((nI (8)) &&& 31)) rfl ?_
  refine vAloadN X dX3_readNumber_43 2 rfl ?_
  obtain ⟨ix44, hix44⟩ := vp_ix (f := va_up f rd (.inr (1, [.ref (w), .int (nI (s)), .int (nI ((P) + 1)), .int (nI (M)), .int (nI (T)), .int (nI (Mt))]))) hrd
  refine vCallVd X [.int ((((nI (0)) <<< ((nI (8)) &&& 31)) ||| ((g (P)) &&& (nI 255))) <<< ((nI (8)) &&& 31))] (cq_next l D k sb L (va_up f rd (.inr (1, [.ref (w), .int (nI (s)), .int (nI ((P) + 1)), .int (nI (M)), .int (nI (T)), .int (nI (Mt))]))) rd w b (n) (s) ((P) + 1) (M) (T) (Mt) (g)  hrd (va_up_eq _ _ _) hw ((va_up_nq _ (ne_of fw frd (by simp))).trans fw) hb ((va_up_nq _ (ne_of fb frd (by simp))).trans fb) (by omega) (by omega) (by omega)) (vGV q_202 q_203 q_204 q_28 q_205) ⟨by decide, by decide, (show _ = some 0 from by decide +kernel)⟩ ⟨Nat.le_of_ble_eq_true rfl, Nat.le_of_ble_eq_true rfl⟩ ix44 1 rfl rfl (hix44.trans (by rw [(va_up_eq _ _ _)])) rfl (Nat.le_of_ble_eq_true rfl) dX3_readNumber_44 ⟨Nat.le_of_ble_eq_true rfl, Nat.le_of_ble_eq_true rfl⟩ ?_
  refine vWs (ws' := va_pl L (va_up f rd (.inr (1, [.ref (w), .int (nI (s)), .int (nI (((P) + 1) + 1)), .int (nI (M)), .int (nI (T)), .int (nI (Mt))])))) (congrArg (fun φ9 => va_pl L (φ9)) (va_up_up _ _ _ _)) ?_
  refine vIor X dX3_readNumber_47 (v := ((((nI (0)) <<< ((nI (8)) &&& 31)) ||| ((g (P)) &&& (nI 255))) <<< ((nI (8)) &&& 31)) ||| ((g ((P) + 1)) &&& (nI 255))) rfl ?_
  refine vIstoreN X [(3, .int (((((nI (0)) <<< ((nI (8)) &&& 31)) ||| ((g (P)) &&& (nI 255))) <<< ((nI (8)) &&& 31)) ||| ((g ((P) + 1)) &&& (nI 255)))), (4, .int (nI (0 + 1))), (2, .ref (rd)), (0, .ref (x)), (1, .int (nI (q)))] dX3_readNumber_48 (by decide) rfl ?_
  refine vIinc X [(4, .int (nI (0 + 1 + 1))), (3, .int (((((nI (0)) <<< ((nI (8)) &&& 31)) ||| ((g (P)) &&& (nI 255))) <<< ((nI (8)) &&& 31)) ||| ((g ((P) + 1)) &&& (nI 255)))), (2, .ref (rd)), (0, .ref (x)), (1, .int (nI (q)))] dX3_readNumber_49 1 rfl (nI_inc _) (by decide) rfl ?_
  refine vGoto X 33 dX3_readNumber_52 (by decide) ?_
  refine vIload X dX3_readNumber_33 0 rfl ?_
  refine vIconst X dX3_readNumber_35 (v := nI (4)) (by decide) ?_
  refine vIcmpN_geF X 55 dX3_readNumber_36 (by decide) (by omega) (by omega) (by omega) ?_
  refine vIloadN X dX3_readNumber_39 1 rfl ?_
  refine vBipush X dX3_readNumber_40 (v := nI (8)) (by decide) ?_
  refine vIshl X dX3_readNumber_42 (v := (((((nI (0)) <<< ((nI (8)) &&& 31)) ||| ((g (P)) &&& (nI 255))) <<< ((nI (8)) &&& 31)) ||| ((g ((P) + 1)) &&& (nI 255))) <<< ((nI (8)) &&& 31)) rfl ?_
  refine vAloadN X dX3_readNumber_43 2 rfl ?_
  obtain ⟨ix44, hix44⟩ := vp_ix (f := va_up f rd (.inr (1, [.ref (w), .int (nI (s)), .int (nI (((P) + 1) + 1)), .int (nI (M)), .int (nI (T)), .int (nI (Mt))]))) hrd
  refine vCallVd X [.int ((((((nI (0)) <<< ((nI (8)) &&& 31)) ||| ((g (P)) &&& (nI 255))) <<< ((nI (8)) &&& 31)) ||| ((g ((P) + 1)) &&& (nI 255))) <<< ((nI (8)) &&& 31))] (cq_next l D k sb L (va_up f rd (.inr (1, [.ref (w), .int (nI (s)), .int (nI (((P) + 1) + 1)), .int (nI (M)), .int (nI (T)), .int (nI (Mt))]))) rd w b (n) (s) (((P) + 1) + 1) (M) (T) (Mt) (g)  hrd (va_up_eq _ _ _) hw ((va_up_nq _ (ne_of fw frd (by simp))).trans fw) hb ((va_up_nq _ (ne_of fb frd (by simp))).trans fb) (by omega) (by omega) (by omega)) (vGV q_202 q_203 q_204 q_28 q_205) ⟨by decide, by decide, (show _ = some 0 from by decide +kernel)⟩ ⟨Nat.le_of_ble_eq_true rfl, Nat.le_of_ble_eq_true rfl⟩ ix44 1 rfl rfl (hix44.trans (by rw [(va_up_eq _ _ _)])) rfl (Nat.le_of_ble_eq_true rfl) dX3_readNumber_44 ⟨Nat.le_of_ble_eq_true rfl, Nat.le_of_ble_eq_true rfl⟩ ?_
  refine vWs (ws' := va_pl L (va_up f rd (.inr (1, [.ref (w), .int (nI (s)), .int (nI ((((P) + 1) + 1) + 1)), .int (nI (M)), .int (nI (T)), .int (nI (Mt))])))) (congrArg (fun φ9 => va_pl L (φ9)) (va_up_up _ _ _ _)) ?_
  refine vIor X dX3_readNumber_47 (v := ((((((nI (0)) <<< ((nI (8)) &&& 31)) ||| ((g (P)) &&& (nI 255))) <<< ((nI (8)) &&& 31)) ||| ((g ((P) + 1)) &&& (nI 255))) <<< ((nI (8)) &&& 31)) ||| ((g (((P) + 1) + 1)) &&& (nI 255))) rfl ?_
  refine vIstoreN X [(3, .int (((((((nI (0)) <<< ((nI (8)) &&& 31)) ||| ((g (P)) &&& (nI 255))) <<< ((nI (8)) &&& 31)) ||| ((g ((P) + 1)) &&& (nI 255))) <<< ((nI (8)) &&& 31)) ||| ((g (((P) + 1) + 1)) &&& (nI 255)))), (4, .int (nI (0 + 1 + 1))), (2, .ref (rd)), (0, .ref (x)), (1, .int (nI (q)))] dX3_readNumber_48 (by decide) rfl ?_
  refine vIinc X [(4, .int (nI (0 + 1 + 1 + 1))), (3, .int (((((((nI (0)) <<< ((nI (8)) &&& 31)) ||| ((g (P)) &&& (nI 255))) <<< ((nI (8)) &&& 31)) ||| ((g ((P) + 1)) &&& (nI 255))) <<< ((nI (8)) &&& 31)) ||| ((g (((P) + 1) + 1)) &&& (nI 255)))), (2, .ref (rd)), (0, .ref (x)), (1, .int (nI (q)))] dX3_readNumber_49 1 rfl (nI_inc _) (by decide) rfl ?_
  refine vGoto X 33 dX3_readNumber_52 (by decide) ?_
  refine vIload X dX3_readNumber_33 0 rfl ?_
  refine vIconst X dX3_readNumber_35 (v := nI (4)) (by decide) ?_
  refine vIcmpN_geF X 55 dX3_readNumber_36 (by decide) (by omega) (by omega) (by omega) ?_
  refine vIloadN X dX3_readNumber_39 1 rfl ?_
  refine vBipush X dX3_readNumber_40 (v := nI (8)) (by decide) ?_
  refine vIshl X dX3_readNumber_42 (v := (((((((nI (0)) <<< ((nI (8)) &&& 31)) ||| ((g (P)) &&& (nI 255))) <<< ((nI (8)) &&& 31)) ||| ((g ((P) + 1)) &&& (nI 255))) <<< ((nI (8)) &&& 31)) ||| ((g (((P) + 1) + 1)) &&& (nI 255))) <<< ((nI (8)) &&& 31)) rfl ?_
  refine vAloadN X dX3_readNumber_43 2 rfl ?_
  obtain ⟨ix44, hix44⟩ := vp_ix (f := va_up f rd (.inr (1, [.ref (w), .int (nI (s)), .int (nI ((((P) + 1) + 1) + 1)), .int (nI (M)), .int (nI (T)), .int (nI (Mt))]))) hrd
  refine vCallVd X [.int ((((((((nI (0)) <<< ((nI (8)) &&& 31)) ||| ((g (P)) &&& (nI 255))) <<< ((nI (8)) &&& 31)) ||| ((g ((P) + 1)) &&& (nI 255))) <<< ((nI (8)) &&& 31)) ||| ((g (((P) + 1) + 1)) &&& (nI 255))) <<< ((nI (8)) &&& 31))] (cq_next l D k sb L (va_up f rd (.inr (1, [.ref (w), .int (nI (s)), .int (nI ((((P) + 1) + 1) + 1)), .int (nI (M)), .int (nI (T)), .int (nI (Mt))]))) rd w b (n) (s) ((((P) + 1) + 1) + 1) (M) (T) (Mt) (g)  hrd (va_up_eq _ _ _) hw ((va_up_nq _ (ne_of fw frd (by simp))).trans fw) hb ((va_up_nq _ (ne_of fb frd (by simp))).trans fb) (by omega) (by omega) (by omega)) (vGV q_202 q_203 q_204 q_28 q_205) ⟨by decide, by decide, (show _ = some 0 from by decide +kernel)⟩ ⟨Nat.le_of_ble_eq_true rfl, Nat.le_of_ble_eq_true rfl⟩ ix44 1 rfl rfl (hix44.trans (by rw [(va_up_eq _ _ _)])) rfl (Nat.le_of_ble_eq_true rfl) dX3_readNumber_44 ⟨Nat.le_of_ble_eq_true rfl, Nat.le_of_ble_eq_true rfl⟩ ?_
  refine vWs (ws' := va_pl L (va_up f rd (.inr (1, [.ref (w), .int (nI (s)), .int (nI (((((P) + 1) + 1) + 1) + 1)), .int (nI (M)), .int (nI (T)), .int (nI (Mt))])))) (congrArg (fun φ9 => va_pl L (φ9)) (va_up_up _ _ _ _)) ?_
  refine vIor X dX3_readNumber_47 (v := ((((((((nI (0)) <<< ((nI (8)) &&& 31)) ||| ((g (P)) &&& (nI 255))) <<< ((nI (8)) &&& 31)) ||| ((g ((P) + 1)) &&& (nI 255))) <<< ((nI (8)) &&& 31)) ||| ((g (((P) + 1) + 1)) &&& (nI 255))) <<< ((nI (8)) &&& 31)) ||| ((g ((((P) + 1) + 1) + 1)) &&& (nI 255))) rfl ?_
  refine vIstoreN X [(3, .int (((((((((nI (0)) <<< ((nI (8)) &&& 31)) ||| ((g (P)) &&& (nI 255))) <<< ((nI (8)) &&& 31)) ||| ((g ((P) + 1)) &&& (nI 255))) <<< ((nI (8)) &&& 31)) ||| ((g (((P) + 1) + 1)) &&& (nI 255))) <<< ((nI (8)) &&& 31)) ||| ((g ((((P) + 1) + 1) + 1)) &&& (nI 255)))), (4, .int (nI (0 + 1 + 1 + 1))), (2, .ref (rd)), (0, .ref (x)), (1, .int (nI (q)))] dX3_readNumber_48 (by decide) rfl ?_
  refine vIinc X [(4, .int (nI (0 + 1 + 1 + 1 + 1))), (3, .int (((((((((nI (0)) <<< ((nI (8)) &&& 31)) ||| ((g (P)) &&& (nI 255))) <<< ((nI (8)) &&& 31)) ||| ((g ((P) + 1)) &&& (nI 255))) <<< ((nI (8)) &&& 31)) ||| ((g (((P) + 1) + 1)) &&& (nI 255))) <<< ((nI (8)) &&& 31)) ||| ((g ((((P) + 1) + 1) + 1)) &&& (nI 255)))), (2, .ref (rd)), (0, .ref (x)), (1, .int (nI (q)))] dX3_readNumber_49 1 rfl (nI_inc _) (by decide) rfl ?_
  refine vGoto X 33 dX3_readNumber_52 (by decide) ?_
  refine vIload X dX3_readNumber_33 0 rfl ?_
  refine vIconst X dX3_readNumber_35 (v := nI (4)) (by decide) ?_
  refine vIcmpN_geT X 55 dX3_readNumber_36 (by decide) (by omega) (by omega) (by omega) ?_
  refine vAloadN X dX3_readNumber_55 2 rfl ?_
  refine vIconst X dX3_readNumber_56 (v := nI (4)) (by decide) ?_
  obtain ⟨ix57, hix57⟩ := vp_ix (f := va_up f rd (.inr (1, [.ref (w), .int (nI (s)), .int (nI (((((P) + 1) + 1) + 1) + 1)), .int (nI (M)), .int (nI (T)), .int (nI (Mt))]))) hrd
  refine vCallVd X [] (cq_tell l D k sb L (va_up f rd (.inr (1, [.ref (w), .int (nI (s)), .int (nI (((((P) + 1) + 1) + 1) + 1)), .int (nI (M)), .int (nI (T)), .int (nI (Mt))]))) rd w b (n) (s) (((((P) + 1) + 1) + 1) + 1) (M) (T) (Mt) (g) 4 hrd (va_up_eq _ _ _) hw ((va_up_nq _ (ne_of fw frd (by simp))).trans fw) hb ((va_up_nq _ (ne_of fb frd (by simp))).trans fb) (by omega) (by omega) ) (vGV q_250 q_251 q_252 q_28 q_253) ⟨by decide, by decide, (show _ = some 1 from by decide +kernel)⟩ ⟨Nat.le_of_ble_eq_true rfl, Nat.le_of_ble_eq_true rfl⟩ ix57 1 rfl rfl (hix57.trans (by rw [(va_up_eq _ _ _)])) rfl (Nat.le_of_ble_eq_true rfl) dX3_readNumber_57 ⟨Nat.le_of_ble_eq_true rfl, Nat.le_of_ble_eq_true rfl⟩ ?_
  refine vWs (ws' := va_pl L (va_up f rd (.inr (1, [.ref (w), .int (nI (s)), .int (nI (((((P) + 1) + 1) + 1) + 1)), .int (nI (M)), .int (nI ((T) + (4))), .int (nI (Mt))])))) (congrArg (fun φ9 => va_pl L (φ9)) (va_up_up _ _ _ _)) ?_
  refine vPop X dX3_readNumber_60 rfl ?_
  refine vIloadN X dX3_readNumber_61 1 rfl ?_
  exact vRetI X hret dX3_readNumber_62 ⟨by simp [rdN, Nat.add_assoc], rfl⟩
set_option maxHeartbeats 4000000 in
set_option maxRecDepth 100000 in
theorem ct_readNumber1 (l : Launch) (D : va_G) (k : Nat → ClassId) (sb : Nat) (L : List Nat) (f : Nat → va_E) (x aW aG aR tr tg : Nat) (gW gG gR : Nat → Option Nat) (v : Int32) (hl : l.stackTraces = false) (hx : x ∈ L) (fx : f x = .inr (3, [.ref aW, .ref aG, .ref aR, .ref tr, .ref tg])) (haW : aW ∈ L) (faW : f aW = .inl (k 4, 4, .inr (.inr (.inr (.inr gW))))) (haG : aG ∈ L) (faG : f aG = .inl (k 2, 3, .inr (.inr (.inr (.inr gG))))) (haR : aR ∈ L) (faR : f aR = .inl (k 3, 3, .inr (.inr (.inr (.inr gR))))) (hv : ¬ vOther v) : vCtX l yX3_readNumber cX3_readNumber 5 (some .int) 9 131 1 6 D vCl (vTy k) sb [.ref (x), .int (v)] (va_pl L f) "java/lang/IndexOutOfBoundsException" := by
  refine vOfX (by decide +kernel) (Nat.le_of_ble_eq_true rfl) (fun p9 e9 s9 m9 below9 meth9 c9 X hE hnt => ?_)
  refine vAloadN X dX3_readNumber_0 0 rfl ?_
  refine vIloadN X dX3_readNumber_1 1 rfl ?_
  obtain ⟨ix2, hix2⟩ := vp_ix (f := f) hx
  exact vCallVT X hE hnt [] (ct_readerAt l D k sb L f x aW aG aR tr tg (gW) (gG) (gR) v hl hx fx haW faW haG faG haR faR hv) (vGV q_522 q_524 q_6 q_24 q_525) ⟨by decide, by decide, (show _ = some 1 from by decide +kernel)⟩ ⟨Nat.le_of_ble_eq_true rfl, Nat.le_of_ble_eq_true rfl⟩ ix2 3 rfl rfl (hix2.trans (by rw [fx])) rfl (Nat.le_of_ble_eq_true rfl) dX3_readNumber_2 ⟨(Nat.le_of_ble_eq_true rfl), (Nat.le_of_ble_eq_true rfl)⟩ (Nat.le_of_ble_eq_true rfl) (Nat.le_of_ble_eq_true rfl)
set_option maxHeartbeats 4000000 in
set_option maxRecDepth 100000 in
theorem ct_readNumber2 (l : Launch) (D : va_G) (k : Nat → ClassId) (sb : Nat) (L : List Nat) (f : Nat → va_E) (x aW aG aR tr tg : Nat) (gW gG gR : Nat → Option Nat) (q : Nat) (rd w b n s P M T Mt : Nat) (g : Nat → Int32) (hl : l.stackTraces = false) (hx : x ∈ L) (fx : f x = .inr (3, [.ref aW, .ref aG, .ref aR, .ref tr, .ref tg])) (haW : aW ∈ L) (faW : f aW = .inl (k 4, 4, .inr (.inr (.inr (.inr gW))))) (haG : aG ∈ L) (faG : f aG = .inl (k 2, 3, .inr (.inr (.inr (.inr gG))))) (haR : aR ∈ L) (faR : f aR = .inl (k 3, 3, .inr (.inr (.inr (.inr gR))))) (hq9 : q < 3) (eq : gR q = some rd) (hrd : rd ∈ L) (frd : f rd = .inr (1, [.ref w, .int (nI s), .int (nI P), .int (nI M), .int (nI T), .int (nI Mt)])) (hw : w ∈ L) (fw : f w = .inr (2, [.ref b])) (hb : b ∈ L) (fb : f b = .inl (k 0, n, .inl g)) (hn : n ≤ 256) (hP : P ≤ n) (hs : s = 0) : vCtX l yX3_readNumber cX3_readNumber 5 (some .int) 9 131 1 6 D vCl (vTy k) sb [.ref (x), .int (nI (q))] (va_pl L f) "java/lang/UnsupportedOperationException" := by
  refine vOfX (by decide +kernel) (Nat.le_of_ble_eq_true rfl) (fun p9 e9 s9 m9 below9 meth9 c9 X hE hnt => ?_)
  refine vAloadN X dX3_readNumber_0 0 rfl ?_
  refine vIloadN X dX3_readNumber_1 1 rfl ?_
  obtain ⟨ix2, hix2⟩ := vp_ix (f := f) hx
  refine vCallVd X [] (cb_readerAt l D k sb L f x aW aG aR tr tg (gW) (gG) (gR) q rd hx fx haW faW haG faG haR faR (by omega) eq) (vGV q_522 q_524 q_6 q_24 q_525) ⟨by decide, by decide, (show _ = some 1 from by decide +kernel)⟩ ⟨Nat.le_of_ble_eq_true rfl, Nat.le_of_ble_eq_true rfl⟩ ix2 3 rfl rfl (hix2.trans (by rw [fx])) rfl (Nat.le_of_ble_eq_true rfl) dX3_readNumber_2 ⟨Nat.le_of_ble_eq_true rfl, Nat.le_of_ble_eq_true rfl⟩ ?_
  refine vAstoreN X [(2, .ref (rd)), (0, .ref (x)), (1, .int (nI (q)))] dX3_readNumber_5 (by decide) rfl ?_
  refine vAloadN X dX3_readNumber_6 0 rfl ?_
  exact vCallST X hE hnt [] (ct_needOpen l D k sb L f rd w b (n) (s) (P) (M) (T) (Mt) (g) hl hrd frd hw fw hb fb (by omega) (by omega) (by first | rfl | assumption)) (vGS q_542 q_543 q_24 q_544) rfl ⟨by decide, by decide, (show _ = some 1 from by decide +kernel)⟩ ⟨Nat.le_of_ble_eq_true rfl, Nat.le_of_ble_eq_true rfl⟩ rfl (Nat.le_of_ble_eq_true rfl) dX3_readNumber_7 ⟨(Nat.le_of_ble_eq_true rfl), (Nat.le_of_ble_eq_true rfl)⟩ (Nat.le_of_ble_eq_true rfl) (Nat.le_of_ble_eq_true rfl)
