set_option maxHeartbeats 4000000 in
theorem cl_leftShare (l : Launch) (D : va_G) (k : Nat → ClassId) (sb : Nat) (L : List Nat) (f : Nat → va_E) (Z : Nat → Prop) (x : Nat) (B : Nat → Nat → Int32) (Ln Rm : Nat → Nat) (Rd : Nat → Option Nat) (Pl Mk : Nat → Nat) (G : Nat → Nat → Int32) (Sz : Nat → Nat) (hl : l.stackTraces = false) (h : cInv k L f Z x B Ln Rm Rd Pl Mk G Sz) (hZ : ∀ a, Z a → a ∈ L) (p0 : Int32) : ∃ (kk : Nat) (v : UInt32) (B' : Nat → Nat → Int32) (Ln' Rm' : Nat → Nat) (Rd' : Nat → Option Nat) (Pl' Mk' : Nat → Nat) (G' : Nat → Nat → Int32) (Sz' : Nat → Nat), kk ≤ 3 ∧ ((kk = 0 ∧ vCt l yX3_leftShare cX3_leftShare 4 (some .float) 9 131 0 0 D vCl (vTy k) sb [.ref x, .int p0] (va_pl L f) (kPost k L f Z x (.float v) B' Ln' Rm' Rd' Pl' Mk' G' Sz')) ∨ (0 < kk ∧ vCtX l yX3_leftShare cX3_leftShare 4 (some .float) 9 131 1 6 D vCl (vTy k) sb [.ref x, .int p0] (va_pl L f) (["java/lang/IndexOutOfBoundsException", "java/lang/UnsupportedOperationException", "java/lang/ArithmeticException"].getD (kk - 1) "") ∧ cInv k L f Z x B' Ln' Rm' Rd' Pl' Mk' G' Sz')) ∧ (∀ (o : Nat → Nat) (Kp : Nat → Int32) (th : Int32), ∃ Kp' : Nat → Int32, ∀ pl : va_W, vCt l yX4_leftShare cX4_leftShare 2 (some .float) 1 21 0 0 D vCl (vTy k) sb [.ref (o 0), .int p0] (mW k o pl B Ln Rm Rd Pl Mk G Sz Kp th) (vDet (some (.float v)) (mW k o pl B' Ln' Rm' Rd' Pl' Mk' G' Sz' Kp' (nI kk)))) ∧ (kk = 0 → vf_n64 (FP.f2d v)) := by
  have h0 := h
  obtain ⟨aW, aG, aR, tr, tg, gW, gG, gR, A, AB, U, UR, UB, R, C, GU, hI⟩ := h
  obtain ⟨⟨hx, fx, haW, faW, haG, faG, haR, faR⟩, hRo, hL, hJ, hG, hU, hQ, hQ1, hT, hV, hM⟩ := id hI
  have hRm : ∀ r, r < 4 → Rm r < 8 := fun r hr => (hRo r hr).1
  have hRd : ∀ g, g < 3 → ∀ b, Rd g = some b → b < 8 := fun g hg b e => (hL b (Or.inr ⟨g, hg, e⟩)).1
  by_cases hvq : vOther p0
  · obtain ⟨q, hqq, rfl⟩ := vOther_of hvq
    obtain ⟨q1q, q2q, q3q, q4q⟩ := hQ q hqq
    rcases hoq : Rd q with _ | aq
    · obtain ⟨wq, bq, nq, Pq, Mq, Tq, Mtq, gq, frq, qcq, hPq⟩ := q4q hoq
      exact ⟨2, FP.fconst0, B, Ln, Rm, Rd, Pl, Mk, G, Sz, by decide, Or.inr ⟨by decide, (ct_leftShare2 l D k sb L f x aW aG aR tr tg gW gG gR q (R q) wq bq nq 0 Pq Mq Tq Mtq gq hl hx.1 fx haW.1 faW haG.1 faG haR.1 faR hqq q1q q2q.1 frq qcq.1.1 qcq.2.1 qcq.2.2.1.1 qcq.2.2.2.1 qcq.2.2.2.2.1 hPq rfl), h0⟩, fun o Kp th => ⟨Kp, fun pl => (mm_leftShare2 l D k o pl sb B Ln Rm Rd Pl Mk G Sz Kp th q hqq hoq)⟩, fun e9 => absurd e9 (by decide)⟩
    · obtain ⟨frq, hPq, hMq⟩ := q3q aq hoq
      have laq : mLive Rm Rd aq := Or.inr ⟨q, hqq, hoq⟩
      obtain ⟨haq, qaq, caq⟩ := hL aq laq
      by_cases e : ¬ Ln aq = 0
      · skip
        have hfp := fp_share (a := Ln aq - Pl q) (b := Ln aq) (by omega) (hM.1 aq) (by omega)
        refine ⟨0, FP.fdiv (FP.i2f (nI (Ln aq - Pl q))) (FP.i2f (nI (Ln aq))), B, Ln, Rm, Rd, Pl, Mk, G, Sz, by decide, Or.inl ⟨rfl, vCt.weak ((cb_leftShare l D k sb L f x aW aG aR tr tg gW gG gR q (R q) (A aq) (AB aq) (Ln aq) 1 (Pl q) (Mk q) (Pl q) (Mk q) (C aq) hx.1 fx haW.1 faW haG.1 faG haR.1 faR hqq q1q q2q.1 frq qaq.1.1 qaq.2.1 qaq.2.2.1.1 qaq.2.2.2.1 qaq.2.2.2.2.1 hPq rfl (by omega) hfp.1)) (fun v9 w9 hp9 => ?_)⟩, fun o Kp th => ⟨_, fun pl => (mm_leftShare0 l D k o pl sb B Ln Rm Rd Pl Mk G Sz Kp th q aq hqq hoq haq (hM.1 aq) hPq (by omega) hfp.1)⟩, fun _ => hfp.2⟩
        obtain ⟨rfl, rfl⟩ := hp9
        exact ⟨_, _, rfl, rfl, kKp.rf, _, _, _, _, _, _, _, _, _, _, _, _, _, _, _, _, hI⟩
      · skip
        exact ⟨3, FP.fconst0, B, Ln, Rm, Rd, Pl, Mk, G, Sz, by decide, Or.inr ⟨by decide, (ct_leftShare3 l D k sb L f x aW aG aR tr tg gW gG gR q (R q) (A aq) (AB aq) (Ln aq) 1 (Pl q) (Mk q) (Pl q) (Mk q) (C aq) hl hx.1 fx haW.1 faW haG.1 faG haR.1 faR hqq q1q q2q.1 frq qaq.1.1 qaq.2.1 qaq.2.2.1.1 qaq.2.2.2.1 qaq.2.2.2.2.1 hPq rfl (Classical.not_not.mp e)), h0⟩, fun o Kp th => ⟨Kp, fun pl => (mm_leftShare3 l D k o pl sb B Ln Rm Rd Pl Mk G Sz Kp th q aq hqq hoq haq (Classical.not_not.mp e))⟩, fun e9 => absurd e9 (by decide)⟩
  · skip
    exact ⟨1, FP.fconst0, B, Ln, Rm, Rd, Pl, Mk, G, Sz, by decide, Or.inr ⟨by decide, (ct_leftShare1 l D k sb L f x aW aG aR tr tg gW gG gR p0 hl hx.1 fx haW.1 faW haG.1 faG haR.1 faR hvq), h0⟩, fun o Kp th => ⟨Kp, fun pl => (mm_leftShare1 l D k o pl sb B Ln Rm Rd Pl Mk G Sz Kp th p0 hvq)⟩, fun e9 => absurd e9 (by decide)⟩
set_option maxHeartbeats 4000000 in
theorem cl_meanSize (l : Launch) (D : va_G) (k : Nat → ClassId) (sb : Nat) (L : List Nat) (f : Nat → va_E) (Z : Nat → Prop) (x : Nat) (B : Nat → Nat → Int32) (Ln Rm : Nat → Nat) (Rd : Nat → Option Nat) (Pl Mk : Nat → Nat) (G : Nat → Nat → Int32) (Sz : Nat → Nat) (hl : l.stackTraces = false) (h : cInv k L f Z x B Ln Rm Rd Pl Mk G Sz) (hZ : ∀ a, Z a → a ∈ L)  : ∃ (kk : Nat) (v : UInt64) (B' : Nat → Nat → Int32) (Ln' Rm' : Nat → Nat) (Rd' : Nat → Option Nat) (Pl' Mk' : Nat → Nat) (G' : Nat → Nat → Int32) (Sz' : Nat → Nat), kk ≤ 1 ∧ ((kk = 0 ∧ vCt l yX3_meanSize cX3_meanSize 4 (some .double) 8 110 0 0 D vCl (vTy k) sb [.ref x] (va_pl L f) (kPost k L f Z x (.double v) B' Ln' Rm' Rd' Pl' Mk' G' Sz')) ∨ (0 < kk ∧ vCtX l yX3_meanSize cX3_meanSize 4 (some .double) 8 110 1 6 D vCl (vTy k) sb [.ref x] (va_pl L f) (["java/lang/ArithmeticException"].getD (kk - 1) "") ∧ cInv k L f Z x B' Ln' Rm' Rd' Pl' Mk' G' Sz')) ∧ (∀ (o : Nat → Nat) (Kp : Nat → Int32) (th : Int32), ∃ Kp' : Nat → Int32, ∀ pl : va_W, vCt l yX4_meanSize cX4_meanSize 4 (some .double) 1 21 0 0 D vCl (vTy k) sb [.ref (o 0)] (mW k o pl B Ln Rm Rd Pl Mk G Sz Kp th) (vDet (some (.double v)) (mW k o pl B' Ln' Rm' Rd' Pl' Mk' G' Sz' Kp' (nI kk)))) ∧ (kk = 0 → vf_n64 v) := by
  have h0 := h
  obtain ⟨aW, aG, aR, tr, tg, gW, gG, gR, A, AB, U, UR, UB, R, C, GU, hI⟩ := h
  obtain ⟨⟨hx, fx, haW, faW, haG, faG, haR, faR⟩, hRo, hL, hJ, hG, hU, hQ, hQ1, hT, hV, hM⟩ := id hI
  have hRm : ∀ r, r < 4 → Rm r < 8 := fun r hr => (hRo r hr).1
  have hRd : ∀ g, g < 3 → ∀ b, Rd g = some b → b < 8 := fun g hg b e => (hL b (Or.inr ⟨g, hg, e⟩)).1
  have hGa : ∀ j, j < 3 → ∃ (u ur ub : Nat) (gu : Nat → Int32), gG j = some u ∧ u ∈ L ∧ f u = .inr (0, [.ref ur, .int (nI (Sz j))]) ∧ ur ∈ L ∧ f ur = .inr (2, [.ref ub]) ∧ ub ∈ L ∧ f ub = .inl (k 0, 256, .inl gu) ∧ Sz j ≤ 256 ∧ (∀ i, i < Sz j → gu i = G j i) := fun j hj => by
    obtain ⟨g1, g2, g3, g4⟩ := hG j hj
    exact ⟨U j, UR j, UB j, GU j, g1, g2.1.1, g2.2.1, g2.2.2.1.1.1, g2.2.2.1.2.1, g2.2.2.1.2.2.1.1, g2.2.2.1.2.2.2.1, g2.2.2.2, g3⟩
  have hSz : ∀ g, g < 3 → Sz g ≤ 256 := fun g hg => (hG g hg).2.1.2.2.2
  by_cases e : ¬ cnS Sz 3 = 0
  · skip
    have hfp := fp_mean (a := smS Sz 3) (b := cnS Sz 3) (smS_le hSz 3 (by omega)) (cnS_le Sz 3) (by omega)
    refine ⟨0, FP.ddiv (FP.i2d (nI (smS Sz 3))) (FP.i2d (nI (cnS Sz 3))), B, Ln, Rm, Rd, Pl, Mk, G, Sz, by decide, Or.inl ⟨rfl, vCt.weak ((cb_meanSize l D k sb L f x aW aG aR tr tg gW gG gR Sz G hx.1 fx haW.1 faW haG.1 faG haR.1 faR hGa (by omega) hfp)) (fun v9 w9 hp9 => ?_)⟩, fun o Kp th => ⟨_, fun pl => (mm_meanSize0 l D k o pl sb B Ln Rm Rd Pl Mk G Sz Kp th hSz (by omega) hfp)⟩, fun _ => hfp⟩
    obtain ⟨rfl, rfl⟩ := hp9
    exact ⟨_, _, rfl, rfl, kKp.rf, _, _, _, _, _, _, _, _, _, _, _, _, _, _, _, _, hI⟩
  · skip
    exact ⟨1, FP.dconst0, B, Ln, Rm, Rd, Pl, Mk, G, Sz, by decide, Or.inr ⟨by decide, (ct_meanSize l D k sb L f x aW aG aR tr tg gW gG gR Sz G hl hx.1 fx haW.1 faW haG.1 faG haR.1 faR hGa (Classical.not_not.mp e)), h0⟩, fun o Kp th => ⟨Kp, fun pl => (mm_meanSize1 l D k o pl sb B Ln Rm Rd Pl Mk G Sz Kp th hSz (Classical.not_not.mp e))⟩, fun e9 => absurd e9 (by decide)⟩
set_option maxHeartbeats 4000000 in
theorem cl_checksum (l : Launch) (D : va_G) (k : Nat → ClassId) (sb : Nat) (L : List Nat) (f : Nat → va_E) (Z : Nat → Prop) (x : Nat) (B : Nat → Nat → Int32) (Ln Rm : Nat → Nat) (Rd : Nat → Option Nat) (Pl Mk : Nat → Nat) (G : Nat → Nat → Int32) (Sz : Nat → Nat) (hl : l.stackTraces = false) (h : cInv k L f Z x B Ln Rm Rd Pl Mk G Sz) (hZ : ∀ a, Z a → a ∈ L)  : ∃ (kk : Nat) (v : Int64) (B' : Nat → Nat → Int32) (Ln' Rm' : Nat → Nat) (Rd' : Nat → Option Nat) (Pl' Mk' : Nat → Nat) (G' : Nat → Nat → Int32) (Sz' : Nat → Nat), kk ≤ 0 ∧ ((kk = 0 ∧ vCt l yX3_checksum cX3_checksum 4 (some .long) 4 90 0 0 D vCl (vTy k) sb [.ref x] (va_pl L f) (kPost k L f Z x (.long v) B' Ln' Rm' Rd' Pl' Mk' G' Sz')) ∨ (0 < kk ∧ False ∧ cInv k L f Z x B' Ln' Rm' Rd' Pl' Mk' G' Sz')) ∧ ∀ (o : Nat → Nat) (Kp : Nat → Int32) (th : Int32), ∃ Kp' : Nat → Int32, ∀ pl : va_W, vCt l yX4_checksum cX4_checksum 5 (some .long) 1 21 0 0 D vCl (vTy k) sb [.ref (o 0)] (mW k o pl B Ln Rm Rd Pl Mk G Sz Kp th) (vDet (some (.long v)) (mW k o pl B' Ln' Rm' Rd' Pl' Mk' G' Sz' Kp' (nI kk))) := by
  have h0 := h
  obtain ⟨aW, aG, aR, tr, tg, gW, gG, gR, A, AB, U, UR, UB, R, C, GU, hI⟩ := h
  obtain ⟨⟨hx, fx, haW, faW, haG, faG, haR, faR⟩, hRo, hL, hJ, hG, hU, hQ, hQ1, hT, hV, hM⟩ := id hI
  have hRm : ∀ r, r < 4 → Rm r < 8 := fun r hr => (hRo r hr).1
  have hRd : ∀ g, g < 3 → ∀ b, Rd g = some b → b < 8 := fun g hg b e => (hL b (Or.inr ⟨g, hg, e⟩)).1
  have hGa : ∀ j, j < 3 → ∃ (u ur ub : Nat) (gu : Nat → Int32), gG j = some u ∧ u ∈ L ∧ f u = .inr (0, [.ref ur, .int (nI (Sz j))]) ∧ ur ∈ L ∧ f ur = .inr (2, [.ref ub]) ∧ ub ∈ L ∧ f ub = .inl (k 0, 256, .inl gu) ∧ Sz j ≤ 256 ∧ (∀ i, i < Sz j → gu i = G j i) := fun j hj => by
    obtain ⟨g1, g2, g3, g4⟩ := hG j hj
    exact ⟨U j, UR j, UB j, GU j, g1, g2.1.1, g2.2.1, g2.2.2.1.1.1, g2.2.2.1.2.1, g2.2.2.1.2.2.1.1, g2.2.2.1.2.2.2.1, g2.2.2.2, g3⟩
  have hSz : ∀ g, g < 3 → Sz g ≤ 256 := fun g hg => (hG g hg).2.1.2.2.2
  have hRw : ∀ j, j < 4 → ∃ (h b : Nat) (g : Nat → Int32), gW j = some h ∧ h ∈ L ∧ f h = .inr (2, [.ref b]) ∧ b ∈ L ∧ f b = .inl (k 0, Ln (Rm j), .inl g) ∧ Ln (Rm j) ≤ 256 ∧ (∀ i, i < Ln (Rm j) → g i = B (Rm j) i) := fun j hj => by
    obtain ⟨-, q, c⟩ := hL (Rm j) (Or.inl ⟨j, hj, rfl⟩)
    exact ⟨A (Rm j), AB (Rm j), C (Rm j), (hRo j hj).2, q.1.1, q.2.1, q.2.2.1.1, q.2.2.2.1, q.2.2.2.2.1, c⟩
  have hRe : ∀ q, q < 3 → ∃ (rd w b n s P M T Mt : Nat) (g : Nat → Int32), gR q = some rd ∧ rd ∈ L ∧ f rd = .inr (1, [.ref w, .int (nI s), .int (nI P), .int (nI M), .int (nI T), .int (nI Mt)]) ∧ w ∈ L ∧ f w = .inr (2, [.ref b]) ∧ b ∈ L ∧ f b = .inl (k 0, n, .inl g) ∧ n ≤ 256 ∧ P ≤ n ∧ ((Rd q = none ∧ s = 0) ∨ (∃ a, Rd q = some a ∧ s = 1 ∧ n = Ln a ∧ P = Pl q ∧ T = P)) := fun q hq => by
    obtain ⟨q1, q2, q3, q4⟩ := hQ q hq
    rcases ho : Rd q with _ | a
    · obtain ⟨w, b, n, P, M, T, Mt, g, e, hr, hp⟩ := q4 ho
      exact ⟨R q, w, b, n, 0, P, M, T, Mt, g, q1, q2.1, e, hr.1.1, hr.2.1, hr.2.2.1.1, hr.2.2.2.1, hr.2.2.2.2.1, hp, Or.inl ⟨rfl, rfl⟩⟩
    · obtain ⟨e, hp, hm⟩ := q3 a ho
      obtain ⟨-, hr, -⟩ := hL a (Or.inr ⟨q, hq, ho⟩)
      exact ⟨R q, A a, AB a, Ln a, 1, Pl q, Mk q, Pl q, Mk q, C a, q1, q2.1, e, hr.1.1, hr.2.1, hr.2.2.1.1, hr.2.2.2.1, hr.2.2.2.2.1, hp, Or.inr ⟨a, rfl, rfl, rfl, rfl, rfl⟩⟩
  have hPl : ∀ g, g < 3 → ∀ b, Rd g = some b → Pl g ≤ Ln b := fun g hg b e => ((hQ g hg).2.2.1 b e).2.1
  have hMk : ∀ g, g < 3 → ∀ b, Rd g = some b → Mk g ≤ Ln b := fun g hg b e => ((hQ g hg).2.2.1 b e).2.2
  refine ⟨0, ckD Ln Rd Pl (ckG G Sz (ckR B Ln Rm 4) 3) 3, B, Ln, Rm, Rd, Pl, Mk, G, Sz, by decide, Or.inl ⟨rfl, vCt.weak ((cb_checksum l D k sb L f x aW aG aR tr tg gW gG gR B Ln Rm Rd Pl G Sz hx.1 fx haW.1 faW haG.1 faG haR.1 faR hRw hGa hRe)) (fun v9 w9 hp9 => ?_)⟩, fun o Kp th => ⟨_, fun pl => (mm_checksum l D k o pl sb B Ln Rm Rd Pl Mk G Sz Kp th hRm hSz hM.1 hRd hPl)⟩⟩
  obtain ⟨rfl, rfl⟩ := hp9
  exact ⟨_, _, rfl, rfl, kKp.rf, _, _, _, _, _, _, _, _, _, _, _, _, _, _, _, _, hI⟩
set_option maxHeartbeats 4000000 in
theorem cl_isTrue (l : Launch) (D : va_G) (k : Nat → ClassId) (sb : Nat) (L : List Nat) (f : Nat → va_E) (Z : Nat → Prop) (x : Nat) (B : Nat → Nat → Int32) (Ln Rm : Nat → Nat) (Rd : Nat → Option Nat) (Pl Mk : Nat → Nat) (G : Nat → Nat → Int32) (Sz : Nat → Nat) (hl : l.stackTraces = false) (h : cInv k L f Z x B Ln Rm Rd Pl Mk G Sz) (hZ : ∀ a, Z a → a ∈ L)  : ∃ (kk : Nat) (v : Int32) (B' : Nat → Nat → Int32) (Ln' Rm' : Nat → Nat) (Rd' : Nat → Option Nat) (Pl' Mk' : Nat → Nat) (G' : Nat → Nat → Int32) (Sz' : Nat → Nat), kk ≤ 0 ∧ ((kk = 0 ∧ vCt l yX3_isTrue cX3_isTrue 2 (some .boolean) 7 175 6 771 D vCl (vTy k) sb [.ref x] (va_pl L f) (kPost k L f Z x (.int v) B' Ln' Rm' Rd' Pl' Mk' G' Sz')) ∨ (0 < kk ∧ False ∧ cInv k L f Z x B' Ln' Rm' Rd' Pl' Mk' G' Sz')) ∧ ∀ (o : Nat → Nat) (Kp : Nat → Int32) (th : Int32), ∃ Kp' : Nat → Int32, ∀ pl : va_W, vCt l yX4_isTrue cX4_isTrue 3 (some .boolean) 1 21 0 0 D vCl (vTy k) sb [.ref (o 0)] (mW k o pl B Ln Rm Rd Pl Mk G Sz Kp th) (vDet (some (.int v)) (mW k o pl B' Ln' Rm' Rd' Pl' Mk' G' Sz' Kp' (nI kk))) := by
  have h0 := h
  obtain ⟨aW, aG, aR, tr, tg, gW, gG, gR, A, AB, U, UR, UB, R, C, GU, hI⟩ := h
  obtain ⟨⟨hx, fx, haW, faW, haG, faG, haR, faR⟩, hRo, hL, hJ, hG, hU, hQ, hQ1, hT, hV, hM⟩ := id hI
  have hRm : ∀ r, r < 4 → Rm r < 8 := fun r hr => (hRo r hr).1
  have hRd : ∀ g, g < 3 → ∀ b, Rd g = some b → b < 8 := fun g hg b e => (hL b (Or.inr ⟨g, hg, e⟩)).1
  have hGa : ∀ j, j < 3 → ∃ (u ur ub : Nat) (gu : Nat → Int32), gG j = some u ∧ u ∈ L ∧ f u = .inr (0, [.ref ur, .int (nI (Sz j))]) ∧ ur ∈ L ∧ f ur = .inr (2, [.ref ub]) ∧ ub ∈ L ∧ f ub = .inl (k 0, 256, .inl gu) ∧ Sz j ≤ 256 ∧ (∀ i, i < Sz j → gu i = G j i) := fun j hj => by
    obtain ⟨g1, g2, g3, g4⟩ := hG j hj
    exact ⟨U j, UR j, UB j, GU j, g1, g2.1.1, g2.2.1, g2.2.2.1.1.1, g2.2.2.1.2.1, g2.2.2.1.2.2.1.1, g2.2.2.1.2.2.2.1, g2.2.2.2, g3⟩
  have hSz : ∀ g, g < 3 → Sz g ≤ 256 := fun g hg => (hG g hg).2.1.2.2.2
  have hRw : ∀ j, j < 4 → ∃ (h b : Nat) (g : Nat → Int32), gW j = some h ∧ h ∈ L ∧ f h = .inr (2, [.ref b]) ∧ b ∈ L ∧ f b = .inl (k 0, Ln (Rm j), .inl g) ∧ Ln (Rm j) ≤ 256 ∧ (∀ i, i < Ln (Rm j) → g i = B (Rm j) i) := fun j hj => by
    obtain ⟨-, q, c⟩ := hL (Rm j) (Or.inl ⟨j, hj, rfl⟩)
    exact ⟨A (Rm j), AB (Rm j), C (Rm j), (hRo j hj).2, q.1.1, q.2.1, q.2.2.1.1, q.2.2.2.1, q.2.2.2.2.1, c⟩
  have hRe : ∀ q, q < 3 → ∃ (rd w b n s P M T Mt : Nat) (g : Nat → Int32), gR q = some rd ∧ rd ∈ L ∧ f rd = .inr (1, [.ref w, .int (nI s), .int (nI P), .int (nI M), .int (nI T), .int (nI Mt)]) ∧ w ∈ L ∧ f w = .inr (2, [.ref b]) ∧ b ∈ L ∧ f b = .inl (k 0, n, .inl g) ∧ n ≤ 256 ∧ P ≤ n ∧ ((Rd q = none ∧ s = 0) ∨ (∃ a, Rd q = some a ∧ s = 1 ∧ n = Ln a ∧ P = Pl q ∧ T = P)) := fun q hq => by
    obtain ⟨q1, q2, q3, q4⟩ := hQ q hq
    rcases ho : Rd q with _ | a
    · obtain ⟨w, b, n, P, M, T, Mt, g, e, hr, hp⟩ := q4 ho
      exact ⟨R q, w, b, n, 0, P, M, T, Mt, g, q1, q2.1, e, hr.1.1, hr.2.1, hr.2.2.1.1, hr.2.2.2.1, hr.2.2.2.2.1, hp, Or.inl ⟨rfl, rfl⟩⟩
    · obtain ⟨e, hp, hm⟩ := q3 a ho
      obtain ⟨-, hr, -⟩ := hL a (Or.inr ⟨q, hq, ho⟩)
      exact ⟨R q, A a, AB a, Ln a, 1, Pl q, Mk q, Pl q, Mk q, C a, q1, q2.1, e, hr.1.1, hr.2.1, hr.2.2.1.1, hr.2.2.2.1, hr.2.2.2.2.1, hp, Or.inr ⟨a, rfl, rfl, rfl, rfl, rfl⟩⟩
  have hPl : ∀ g, g < 3 → ∀ b, Rd g = some b → Pl g ≤ Ln b := fun g hg b e => ((hQ g hg).2.2.1 b e).2.1
  have hMk : ∀ g, g < 3 → ∀ b, Rd g = some b → Mk g ≤ Ln b := fun g hg b e => ((hQ g hg).2.2.1 b e).2.2
  have hV0 := hV
  obtain ⟨w, b, n, s, P, M, T, Mt, g, itr, etr, hrt, hpt, hnt⟩ := hT
  obtain ⟨tur, tub, tc, tgu, gt, h3, h4⟩ := hV
  have ut : ∀ y, y < 3 → tg ≠ U y := fun y hy e => h3 y hy (refEq gt.2.2.1.2.1 (hG y hy).2.1.2.2.1.2.1 (by
    have e1 := gt.2.1
    rw [e, (hG y hy).2.1.2.1] at e1
    simp only [Sum.inr.injEq, Prod.mk.injEq, List.cons.injEq, Value.ref.injEq, true_and, and_true] at e1
    exact e1.1.symm))
  obtain ⟨a1, a2, a3, a4⟩ := hG 0 (by decide)
  obtain ⟨b1, b2, b3, b4⟩ := hG 1 (by decide)
  obtain ⟨c1, c2, c3, c4⟩ := hG 2 (by decide)
  refine ⟨0, nI 1, B, Ln, Rm, Rd, Pl, Mk, G, Sz, by decide, Or.inl ⟨rfl, vCt.weak ((cb_isTrue l D k sb L f x aW aG aR tr tg gW gG gR Ln Rd Pl w b n s P M T Mt g tur tub tc tgu (U 0) (UR 0) (UB 0) (Sz 0) (GU 0) (U 1) (UR 1) (UB 1) (Sz 1) (GU 1) (U 2) (UR 2) (UB 2) (Sz 2) (GU 2) hx.1 fx haW.1 faW haG.1 faG haR.1 faR hRe itr.1 etr hrt.1.1 hrt.2.1 hrt.2.2.1.1 hrt.2.2.2.1 hrt.2.2.2.2.1 hpt gt.1.1 gt.2.1 gt.2.2.1.1.1 gt.2.2.1.2.1 gt.2.2.1.2.2.1.1 gt.2.2.1.2.2.2.1 gt.2.2.2 gt.2.2.1.2.2.2.2.2 a1 a2.1.1 a2.2.1 a2.2.2.1.1.1 a2.2.2.1.2.1 a2.2.2.1.2.2.1.1 a2.2.2.1.2.2.2.1 a2.2.2.2 a2.2.2.1.2.2.2.2.2 (ut 0 (by decide)) (h3 0 (by decide)) b1 b2.1.1 b2.2.1 b2.2.2.1.1.1 b2.2.2.1.2.1 b2.2.2.1.2.2.1.1 b2.2.2.1.2.2.2.1 b2.2.2.2 b2.2.2.1.2.2.2.2.2 (ut 1 (by decide)) (h3 1 (by decide)) c1 c2.1.1 c2.2.1 c2.2.2.1.1.1 c2.2.2.1.2.1 c2.2.2.1.2.2.1.1 c2.2.2.1.2.2.2.1 c2.2.2.2 c2.2.2.1.2.2.2.2.2 (ut 2 (by decide)) (h3 2 (by decide)))) (fun v9 w9 hp9 => ?_)⟩, fun o Kp th => ⟨_, fun pl => (mm_isTrue l D k o pl sb B Ln Rm Rd Pl Mk G Sz Kp th hM.1 hRd hPl hMk)⟩⟩
  obtain ⟨L1, f1, hk1, h5, h6, rfl, rfl⟩ := hp9
  exact ⟨_, _, rfl, rfl, (fun t ht => ⟨(hk1 t ht).1, fun hz => (hk1 t ht).2 (fun e => itr.2 (e ▸ hz)) (fun e => gt.1.2 (e ▸ hz)) (fun e => gt.2.2.1.2.2.1.2 (e ▸ hz))⟩), _, _, _, _, _, _, _, _, _, _, _, _, _, _, _, _, (cI.trial hI gt h3 h4 hZ hk1 h5 h6)⟩
