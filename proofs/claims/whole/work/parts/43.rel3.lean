section CI3
variable {k : Nat → ClassId} {L L' : List Nat} {f f' : Nat → va_E} {Z T : Nat → Prop} {x aW aG aR tr tg : Nat} {gW gG gR : Nat → Option Nat} {A AB U UR UB R : Nat → Nat} {C GU : Nat → Nat → Int32} {B B' : Nat → Nat → Int32} {Ln Rm : Nat → Nat} {Rd : Nat → Option Nat} {Pl Mk : Nat → Nat} {G G' : Nat → Nat → Int32} {Sz : Nat → Nat}
/-- a row is made anew, in a room that none has -/
theorem cI.anew (h : cI k L f Z x aW aG aR tr tg gW gG gR A AB U UR UB R C GU B Ln Rm Rd Pl Mk G Sz) {r F q qb n : Nat} {g : Nat → Int32} (hr : r < 4) (hF : F < 8) (hF2 : ¬ mLive Rm Rd F) (hZ : ∀ a, Z a → a ∈ L) (hq : q ∉ L) (hqb : qb ∉ L) (hk : ∀ t, t ∈ L → t ∈ L' ∧ (t ≠ aW → f' t = f t)) (hf : f' aW = .inl (k 4, 4, .inr (.inr (.inr (.inr (va_up gW r (some q)))))))
    (hqL : q ∈ L') (fq : f' q = .inr (2, [.ref qb])) (hqbL : qb ∈ L') (fqb : f' qb = .inl (k 0, n, .inl g)) (hn : n ≤ 256) (hg : ∀ j, lb (g j) = g j) (hB : ∀ j, j < n → g j = B' F j) (hB2 : ∀ b, b ≠ F → ∀ j, B' b j = B b j) (hB3 : ∀ a b, lb (B' a b) = B' a b) :
    cI k L' f' Z x aW aG aR tr tg (va_up gW r (some q)) gG gR (va_up A F q) (va_up AB F qb) U UR UB R (va_up C F g) GU B' (va_up Ln F n) (va_up Rm r F) Rd Pl Mk G Sz := by
  obtain ⟨hX, hR, hL, hJ, hG, hU, hQ, hQ1, hT, hV, hM⟩ := h
  have K : cKp L L' f f' (fun t => t = aW) := fun t ht => hk t ht
  have ea := hX.2.2.2.1
  have t2 : cT2 f (fun t => t = aW) := fun t fs e z => by rw [z, ea] at e; exact nomatch e
  have t1 : cT1 f (fun t => t = aW) := fun t fs e z => by rw [z, ea] at e; exact nomatch e
  have t0 : cT0 f (fun t => t = aW) := fun t fs e z => by rw [z, ea] at e; exact nomatch e
  have tb : cTb k f (fun t => t = aW) := fun t n g e z => by rw [z, ea] at e; simp at e
  have S : cSh k L f f' := cSh.kp K tb
  have lv : ∀ b, mLive (va_up Rm r F) Rd b → b ≠ F → mLive Rm Rd b := fun b hb hbF => by
    rcases hb with ⟨v, hv, e⟩ | hb
    · by_cases z : v = r
      · subst z
        rw [va_up_eq] at e
        exact (hbF e.symm).elim
      · rw [va_up_nq _ z] at e
        exact Or.inl ⟨v, hv, e⟩
    · exact Or.inr hb
  have lq : ∀ q a, q < 3 → Rd q = some a → a ≠ F := fun q a hq e z => hF2 (z ▸ Or.inr ⟨q, hq, e⟩)
  have nx : x ≠ aW := ne_of hX.2.1 ea (by simp)
  have nG : ∀ {t i n : Nat} {g : Nat → Option Nat}, f t = .inl (k i, n, .inr (.inr (.inr (.inr g)))) → n ≠ 4 → t ≠ aW := fun e hn z => by
    rw [z, ea] at e
    simp only [Sum.inl.injEq, Prod.mk.injEq] at e
    exact hn e.2.1.symm
  have iq : cIn L' Z q := ⟨hqL, fun z => hq (hZ q z)⟩
  have iqb : cIn L' Z qb := ⟨hqbL, fun z => hqb (hZ qb z)⟩
  refine ⟨⟨K.in hX.1, ((hk _ hX.1.1).2 nx).trans hX.2.1, K.in hX.2.2.1, hf, K.in hX.2.2.2.2.1, ((hk _ hX.2.2.2.2.1.1).2 (nG hX.2.2.2.2.2.1 (by decide))).trans hX.2.2.2.2.2.1, K.in hX.2.2.2.2.2.2.1, ((hk _ hX.2.2.2.2.2.2.1.1).2 (nG hX.2.2.2.2.2.2.2 (by decide))).trans hX.2.2.2.2.2.2.2⟩, fun v hv => ?_, fun b hb => ?_, fun b c hb hc => ?_, fun y hy => ?_, hU, fun y hy => ?_, hQ1, ?_, ?_, fun a => ?_, hB3⟩
  · by_cases z : v = r
    · subst z
      rw [va_up_eq, va_up_eq, va_up_eq]
      exact ⟨hF, rfl⟩
    · rw [va_up_nq _ z, va_up_nq _ z]
      have := hR v hv
      rw [va_up_nq _ (fun e => hF2 (Or.inl ⟨v, hv, e⟩))]
      exact this
  · by_cases z : b = F
    · subst z
      rw [va_up_eq, va_up_eq, va_up_eq, va_up_eq]
      exact ⟨hF, ⟨iq, fq, iqb, fqb, hn, hg⟩, hB⟩
    · rw [va_up_nq _ z, va_up_nq _ z, va_up_nq _ z, va_up_nq _ z]
      obtain ⟨q1, q2, q3⟩ := (hL.kp K t2 tb) b (lv b hb z)
      exact ⟨q1, q2, fun j hj => (q3 j hj).trans (hB2 b z j).symm⟩
  · have nb : ∀ c, mLive Rm Rd c → qb ≠ AB c := fun c hc e => hqb (e ▸ (hL c hc).2.1.2.2.1.1)
    by_cases z : b = F <;> by_cases z2 : c = F
    · intro _; rw [z, z2]
    · subst z; rw [va_up_eq, va_up_nq _ z2]; exact fun e => (nb c (lv c hc z2) e).elim
    · subst z2; rw [va_up_eq, va_up_nq _ z]; exact fun e => (nb b (lv b hb z) e.symm).elim
    · rw [va_up_nq _ z, va_up_nq _ z2]; exact hJ b c (lv b hb z) (lv c hc z2)
  · obtain ⟨q1, q2, q3, q4⟩ := (hG.kp K t0 t2 tb) y hy
    refine ⟨q1, q2, q3, fun b hb => ?_⟩
    by_cases z : b = F
    · subst z; rw [va_up_eq]; exact fun e => hqb (e ▸ (hG y hy).2.1.2.2.1.2.2.1.1)
    · rw [va_up_nq _ z]; exact q4 b (lv b hb z)
  · obtain ⟨q1, q2, q3, q4⟩ := (hQ.kp K S t1 t2) y hy
    refine ⟨q1, q2, fun a e => ?_, q4⟩
    rw [va_up_nq _ (lq y a hy e), va_up_nq _ (lq y a hy e)]
    exact q3 a e
  · obtain ⟨w, b, n, s, P, M, Ti, Mt, g, i, e, hr⟩ := hT
    exact cTr.kp ⟨w, b, n, s, P, M, Ti, Mt, g, i, e, hr⟩ K S (t1 _ _ e) t2
  · obtain ⟨ur, ub, c, g, hg', h3, h4⟩ := hV
    refine ⟨ur, ub, c, g, hg'.kp K (t0 _ _ hg'.2.1) (t2 _ _ hg'.2.2.1.2.1) (tb _ _ _ hg'.2.2.1.2.2.2.1), h3, fun b hb => ?_⟩
    by_cases z : b = F
    · subst z; rw [va_up_eq]; exact fun e => hqb (e ▸ hg'.2.2.1.2.2.1.1)
    · rw [va_up_nq _ z]; exact h4 b (lv b hb z)
  · by_cases z : a = F
    · subst z; rw [va_up_eq]; exact hn
    · rw [va_up_nq _ z]; exact hM.1 a
/-- the trial's reader and gatherer -/
theorem cI.trial (h : cI k L f Z x aW aG aR tr tg gW gG gR A AB U UR UB R C GU B Ln Rm Rd Pl Mk G Sz) {tur tub c0 : Nat} {g0 : Nat → Int32} (hV : cGa k L f Z tg tur tub c0 g0) (h3 : ∀ y, y < 3 → tub ≠ UB y) (h4 : ∀ a, mLive Rm Rd a → AB a ≠ tub) (hZ : ∀ a, Z a → a ∈ L) (hk : ∀ t, t ∈ L → t ∈ L' ∧ (t ≠ tr → t ≠ tg → t ≠ tub → f' t = f t))
    (h5 : ∃ (w b n P M T Mt : Nat) (g : Nat → Int32), f' tr = .inr (1, [.ref w, .int (nI 1), .int (nI P), .int (nI M), .int (nI T), .int (nI Mt)]) ∧ w ∈ L' ∧ f' w = .inr (2, [.ref b]) ∧ b ∈ L' ∧ f' b = .inl (k 0, n, .inl g) ∧ n ≤ 256 ∧ P ≤ n ∧ w ∉ L ∧ b ∉ L ∧ ∀ j, lb (g j) = g j)
    (h6 : ∃ (c : Nat) (gu : Nat → Int32), f' tg = .inr (0, [.ref tur, .int (nI c)]) ∧ f' tub = .inl (k 0, 256, .inl gu) ∧ c ≤ 256 ∧ ∀ j, lb (gu j) = gu j) :
    cI k L' f' Z x aW aG aR tr tg gW gG gR A AB U UR UB R C GU B Ln Rm Rd Pl Mk G Sz := by
  obtain ⟨hX, hR, hL, hJ, hG, hU, hQ, hQ1, hT, -, hM⟩ := h
  obtain ⟨w, b, n, s, P, M, Ti, Mt, g, i, etr, hr, hp, hne⟩ := hT
  obtain ⟨w', b', n', P', M', T', Mt', g', z1, z2, z3, z4, z5, z6, z7, z8, z9, z10⟩ := h5
  obtain ⟨c', gu', y1, y2, y3, y4⟩ := h6
  have K : cKp L L' f f' (fun t => t = tr ∨ t = tg ∨ t = tub) := fun t ht => ⟨(hk t ht).1, fun z => (hk t ht).2 (fun e => z (Or.inl e)) (fun e => z (Or.inr (Or.inl e))) (fun e => z (Or.inr (Or.inr e)))⟩
  have etg := hV.2.1
  have eb := hV.2.2.1.2.2.2.1
  have t2 : cT2 f (fun t => t = tr ∨ t = tg ∨ t = tub) := fun t fs e z => by
    rcases z with z | z | z
    · rw [z, etr] at e; simp at e
    · rw [z, etg] at e; simp at e
    · rw [z, eb] at e; simp at e
  have tx : cTx k f (fun t => t = tr ∨ t = tg ∨ t = tub) := ⟨fun t fs e z => (by
    rcases z with z | z | z
    · rw [z, etr] at e; simp at e
    · rw [z, etg] at e; simp at e
    · rw [z, eb] at e; simp at e), fun t i n g e z => (by
    rcases z with z | z | z
    · rw [z, etr] at e; simp at e
    · rw [z, etg] at e; simp at e
    · rw [z, eb] at e; simp at e)⟩
  have bb : ∀ {t n : Nat} {g : Nat → Int32}, f t = .inl (k 0, n, .inl g) → t ≠ tub → ¬ (t = tr ∨ t = tg ∨ t = tub) := fun e hn z => by
    rcases z with z | z | z
    · rw [z, etr] at e; simp at e
    · rw [z, etg] at e; simp at e
    · exact hn z
  have S : cSh k L f f' := fun t n g ht e hl => by
    by_cases z : t = tub
    · subst z
      rw [eb] at e
      simp only [Sum.inl.injEq, Prod.mk.injEq, true_and] at e
      exact ⟨gu', by rw [y2, e.1], y4⟩
    · exact ⟨g, ((K t ht).2 (bb e z)).trans e, hl⟩
  refine ⟨hX.kpx K tx, hR, fun a ha => ?_, hJ, fun y hy => ?_, hU, fun y hy => ?_, hQ1, ?_, ?_, hM⟩
  · obtain ⟨q1, q2, q3⟩ := hL a ha
    exact ⟨q1, q2.kp K (t2 _ _ q2.2.1) (bb q2.2.2.2.1 (h4 a ha)), q3⟩
  · obtain ⟨q1, q2, q3, q4⟩ := hG y hy
    refine ⟨q1, q2.kp K (fun z => ?_) (t2 _ _ q2.2.2.1.2.1) (bb q2.2.2.1.2.2.2.1 (Ne.symm (h3 y hy))), q3, q4⟩
    have e1 := q2.2.1
    rcases z with z | z | z
    · rw [z, etr] at e1; simp at e1
    · rw [z, etg] at e1
      simp only [Sum.inr.injEq, Prod.mk.injEq, List.cons.injEq, Value.ref.injEq, true_and, and_true] at e1
      have e2 := q2.2.2.1.2.1
      rw [← e1.1, hV.2.2.1.2.1] at e2
      simp only [Sum.inr.injEq, Prod.mk.injEq, List.cons.injEq, Value.ref.injEq, true_and, and_true] at e2
      exact h3 y hy e2
    · rw [z, eb] at e1; simp at e1
  · obtain ⟨q1, q2, q3, q4⟩ := hQ y hy
    have nR : ∀ {fs : List Value}, f (R y) = .inr (1, fs) → ¬ (R y = tr ∨ R y = tg ∨ R y = tub) := fun e z => by
      rcases z with z | z | z
      · exact hne y hy z.symm
      · rw [z, etg] at e; simp at e
      · rw [z, eb] at e; simp at e
    refine ⟨q1, K.in q2, fun a e => ?_, fun e => ?_⟩
    · obtain ⟨v1, v2⟩ := q3 a e
      exact ⟨((K _ q2.1).2 (nR v1)).trans v1, v2⟩
    · obtain ⟨w, b, n, P, M, Ti, Mt, g, e, hr, hp⟩ := q4 e
      obtain ⟨g', hr'⟩ := hr.sh K S (t2 _ _ hr.2.1)
      exact ⟨w, b, n, P, M, Ti, Mt, g', ((K _ q2.1).2 (nR e)).trans e, hr', hp⟩
  · exact ⟨w', b', n', 1, P', M', T', Mt', g', K.in i, z1, ⟨⟨z2, fun z => z8 (hZ _ z)⟩, z3, ⟨z4, fun z => z9 (hZ _ z)⟩, z5, z6, z10⟩, z7, hne⟩
  · have q := hV.2.2.1
    exact ⟨tur, tub, c', gu', ⟨K.in hV.1, y1, ⟨K.in q.1, ((K _ q.1.1).2 (t2 _ _ q.2.1)).trans q.2.1, K.in q.2.2.1, y2, q.2.2.2.2.1, y4⟩, y3⟩, h3, h4⟩
/-- what lies elsewhere may change -/
theorem cI.foreign (h : cI k L f Z x aW aG aR tr tg gW gG gR A AB U UR UB R C GU B Ln Rm Rd Pl Mk G Sz) (hk : ∀ t, t ∈ L → t ∈ L' ∧ (¬ Z t → f' t = f t)) : cI k L' f' Z x aW aG aR tr tg gW gG gR A AB U UR UB R C GU B Ln Rm Rd Pl Mk G Sz := by
  obtain ⟨hX, hR, hL, hJ, hG, hU, hQ, hQ1, hT, hV, hM⟩ := h
  have K : cKp L L' f f' Z := hk
  have kr : ∀ {h b n : Nat} {g : Nat → Int32}, cRw k L f Z h b n g → cRw k L' f' Z h b n g := fun q => q.kp K q.1.2 q.2.2.1.2
  have kg : ∀ {u ur ub c : Nat} {g : Nat → Int32}, cGa k L f Z u ur ub c g → cGa k L' f' Z u ur ub c g := fun q => q.kp K q.1.2 q.2.2.1.1.2 q.2.2.1.2.2.1.2
  refine ⟨hX.kp K hX.1.2 hX.2.2.1.2 hX.2.2.2.2.1.2 hX.2.2.2.2.2.2.1.2, hR, fun a ha => ?_, hJ, fun y hy => ?_, hU, fun y hy => ?_, hQ1, ?_, ?_, hM⟩
  · obtain ⟨q1, q2, q3⟩ := hL a ha
    exact ⟨q1, kr q2, q3⟩
  · obtain ⟨q1, q2, q3, q4⟩ := hG y hy
    exact ⟨q1, kg q2, q3, q4⟩
  · obtain ⟨q1, q2, q3, q4⟩ := hQ y hy
    refine ⟨q1, K.in q2, fun a e => ?_, fun e => ?_⟩
    · obtain ⟨v1, v2⟩ := q3 a e
      exact ⟨((K _ q2.1).2 q2.2).trans v1, v2⟩
    · obtain ⟨w, b, n, P, M, Ti, Mt, g, e, hr, hp⟩ := q4 e
      exact ⟨w, b, n, P, M, Ti, Mt, g, ((K _ q2.1).2 q2.2).trans e, kr hr, hp⟩
  · obtain ⟨w, b, n, s, P, M, Ti, Mt, g, i, e, hr, hp⟩ := hT
    exact ⟨w, b, n, s, P, M, Ti, Mt, g, K.in i, ((K _ i.1).2 i.2).trans e, kr hr, hp⟩
  · obtain ⟨ur, ub, c, g, hg', h3⟩ := hV
    exact ⟨ur, ub, c, g, kg hg', h3⟩
/-- what holds of its open readers, in another form -/
theorem cI.live_r (h : cI k L f Z x aW aG aR tr tg gW gG gR A AB U UR UB R C GU B Ln Rm Rd Pl Mk G Sz) {r : Nat} (hr : r < 4) : mLive Rm Rd (Rm r) := Or.inl ⟨r, hr, rfl⟩
end CI3
