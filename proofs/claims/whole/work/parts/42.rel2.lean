section CI2
variable {k : Nat → ClassId} {L L' : List Nat} {f f' : Nat → va_E} {Z T : Nat → Prop} {x aW aG aR tr tg : Nat} {gW gG gR : Nat → Option Nat} {A AB U UR UB R : Nat → Nat} {C GU : Nat → Nat → Int32} {B B' : Nat → Nat → Int32} {Ln Rm : Nat → Nat} {Rd : Nat → Option Nat} {Pl Mk : Nat → Nat} {G G' : Nat → Nat → Int32} {Sz : Nat → Nat}
theorem cRw.up1 {h b n t : Nat} {g : Nat → Int32} (q : cRw k L f Z h b n g) (hk : ∀ a, a ∈ L → a ≠ t → f' a = f a) (h1 : h ≠ t) (h2 : b ≠ t) : cRw k L f' Z h b n g :=
  q.kp (T := fun a => a = t) (fun a ha => ⟨ha, hk a ha⟩) h1 h2
/-- the bytes of a room that some row or reader has -/
theorem cI.row (h : cI k L f Z x aW aG aR tr tg gW gG gR A AB U UR UB R C GU B Ln Rm Rd Pl Mk G Sz) {a : Nat} (ha : mLive Rm Rd a) {g' : Nat → Int32} (hk : ∀ t, t ∈ L → t ≠ AB a → f' t = f t) (hf : f' (AB a) = .inl (k 0, Ln a, .inl g')) (hg : ∀ j, lb (g' j) = g' j) (hB : ∀ j, j < Ln a → g' j = B' a j) (hB2 : ∀ b, b ≠ a → ∀ j, B' b j = B b j) (hB3 : ∀ a b, lb (B' a b) = B' a b) :
    cI k L f' Z x aW aG aR tr tg gW gG gR A AB U UR UB R (va_up C a g') GU B' Ln Rm Rd Pl Mk G Sz := by
  obtain ⟨hX, hR, hL, hJ, hG, hU, hQ, hQ1, hT, hV, hM⟩ := h
  have K : cKp L L f f' (fun t => t = AB a) := fun t ht => ⟨ht, hk t ht⟩
  have ea := (hL a ha).2.1.2.2.2.1
  have t2 : cT2 f (fun t => t = AB a) := fun t fs e z => (by rw [z, ea] at e; simp at e)
  have t1 : cT1 f (fun t => t = AB a) := fun t fs e z => (by rw [z, ea] at e; simp at e)
  have t0 : cT0 f (fun t => t = AB a) := fun t fs e z => (by rw [z, ea] at e; simp at e)
  have tx : cTx k f (fun t => t = AB a) := ⟨fun t fs e z => (by rw [z, ea] at e; simp at e), fun t i n g e z => (by rw [z, ea] at e; simp at e)⟩
  have S : cSh k L f f' := fun t n g ht e hl => by
    by_cases z : t = AB a
    · subst z
      rw [ea] at e
      simp only [Sum.inl.injEq, Prod.mk.injEq, true_and] at e
      exact ⟨g', by rw [hf, e.1], hg⟩
    · exact ⟨g, (hk t ht z).trans e, hl⟩
  refine ⟨hX.kpx K tx, hR, fun b hb => ?_, hJ, fun y hy => ?_, hU, hQ.kp K S t1 t2, hQ1, ?_, ?_, hM.1, hB3⟩
  · obtain ⟨q1, q2, q3⟩ := hL b hb
    by_cases z : b = a
    · subst z
      rw [va_up_eq]
      exact ⟨q1, ⟨q2.1, (hk _ q2.1.1 (t2 _ _ q2.2.1)).trans q2.2.1, q2.2.2.1, hf, q2.2.2.2.2.1, hg⟩, hB⟩
    · rw [va_up_nq _ z]
      exact ⟨q1, q2.kp K (t2 _ _ q2.2.1) (fun e => z (hJ b a hb ha e)), fun j hj => (q3 j hj).trans (hB2 b z j).symm⟩
  · obtain ⟨q1, q2, q3, q4⟩ := hG y hy
    exact ⟨q1, q2.kp K (t0 _ _ q2.2.1) (t2 _ _ q2.2.2.1.2.1) (Ne.symm (q4 a ha)), q3, q4⟩
  · obtain ⟨w, b, n, s, P, M, Ti, Mt, g, i, e, hr⟩ := hT
    exact cTr.kp ⟨w, b, n, s, P, M, Ti, Mt, g, i, e, hr⟩ K S (t1 _ _ e) t2
  · obtain ⟨ur, ub, c, g, hg', h3⟩ := hV
    exact cTg.kp ⟨ur, ub, c, g, hg', h3⟩ K (t0 _ _ hg'.2.1) t2 (fun ub h1 h2 h4 => Ne.symm (h2 a ha))
/-- a gatherer: its bytes and how many -/
theorem cI.gat (h : cI k L f Z x aW aG aR tr tg gW gG gR A AB U UR UB R C GU B Ln Rm Rd Pl Mk G Sz) {y c : Nat} (hy : y < 3) {g' : Nat → Int32} (hk : ∀ t, t ∈ L → t ≠ U y → t ≠ UB y → f' t = f t) (hu : f' (U y) = .inr (0, [.ref (UR y), .int (nI c)])) (hb : f' (UB y) = .inl (k 0, 256, .inl g')) (hc : c ≤ 256) (hg : ∀ j, lb (g' j) = g' j) (hG1 : ∀ i, i < c → g' i = G' y i) (hG2 : ∀ z, z ≠ y → ∀ j, G' z j = G z j) :
    cI k L f' Z x aW aG aR tr tg gW gG gR A AB U UR UB R C (va_up GU y g') B Ln Rm Rd Pl Mk G' (va_up Sz y c) := by
  obtain ⟨hX, hR, hL, hJ, hG, hU, hQ, hQ1, hT, hV, hM⟩ := h
  have K : cKp L L f f' (fun t => t = U y ∨ t = UB y) := fun t ht => ⟨ht, fun z => hk t ht (fun e => z (Or.inl e)) (fun e => z (Or.inr e))⟩
  have eu := (hG y hy).2.1.2.1
  have eb := (hG y hy).2.1.2.2.1.2.2.2.1
  have t2 : cT2 f (fun t => t = U y ∨ t = UB y) := fun t fs e z => (by rcases z with z | z <;> (rw [z] at e; first | rw [eu] at e | rw [eb] at e) <;> simp at e)
  have t1 : cT1 f (fun t => t = U y ∨ t = UB y) := fun t fs e z => (by rcases z with z | z <;> (rw [z] at e; first | rw [eu] at e | rw [eb] at e) <;> simp at e)
  have tx : cTx k f (fun t => t = U y ∨ t = UB y) := ⟨fun t fs e z => (by rcases z with z | z <;> (rw [z] at e; first | rw [eu] at e | rw [eb] at e) <;> simp at e), fun t i n g e z => (by rcases z with z | z <;> (rw [z] at e; first | rw [eu] at e | rw [eb] at e) <;> simp at e)⟩
  have S : cSh k L f f' := fun t n g ht e hl => by
    by_cases z : t = UB y
    · subst z
      rw [eb] at e
      simp only [Sum.inl.injEq, Prod.mk.injEq, true_and] at e
      exact ⟨g', by rw [hb, e.1], hg⟩
    · exact ⟨g, (hk t ht (fun e' => by rw [e', eu] at e; exact nomatch e) z).trans e, hl⟩
  have ne : ∀ {u ur ub c : Nat} {g : Nat → Int32}, cGa k L f Z u ur ub c g → ub ≠ UB y → u ≠ U y := fun q q' z => by
    have e1 := q.2.1
    rw [z, eu] at e1
    simp only [Sum.inr.injEq, Prod.mk.injEq, List.cons.injEq, Value.ref.injEq, true_and, and_true] at e1
    have e2 := q.2.2.1.2.1
    rw [← e1.1, (hG y hy).2.1.2.2.1.2.1] at e2
    simp only [Sum.inr.injEq, Prod.mk.injEq, List.cons.injEq, Value.ref.injEq, true_and, and_true] at e2
    exact q' e2.symm
  refine ⟨hX.kpx K tx, hR, fun b hb' => ?_, hJ, fun z hz => ?_, hU, hQ.kp K S t1 t2, hQ1, ?_, ?_, hM⟩
  · obtain ⟨q1, q2, q3⟩ := hL b hb'
    exact ⟨q1, q2.kp K (t2 _ _ q2.2.1) (fun z => by
      rcases z with z | z
      · have e := q2.2.2.2.1
        rw [z, eu] at e; exact nomatch e
      · exact (hG y hy).2.2.2 b hb' z), q3⟩
  · obtain ⟨q1, q2, q3, q4⟩ := hG z hz
    by_cases e : z = y
    · subst e
      rw [va_up_eq, va_up_eq]
      exact ⟨q1, ⟨q2.1, hu, ⟨q2.2.2.1.1, (hk _ q2.2.2.1.1.1 (fun e => t2 _ _ q2.2.2.1.2.1 (Or.inl e)) (fun e => t2 _ _ q2.2.2.1.2.1 (Or.inr e))).trans q2.2.2.1.2.1, q2.2.2.1.2.2.1, hb, q2.2.2.1.2.2.2.2.1, hg⟩, hc⟩, hG1, q4⟩
    · rw [va_up_nq _ e, va_up_nq _ e]
      have n1 : UB z ≠ UB y := fun q => e (hU z y hz hy q)
      refine ⟨q1, q2.kp K ?_ (t2 _ _ q2.2.2.1.2.1) ?_, fun i hi => (q3 i hi).trans (hG2 z e i).symm, q4⟩
      · intro q
        rcases q with q | q
        · exact ne q2 n1 q
        · have e := q2.2.1
          rw [q, eb] at e; exact nomatch e
      · intro q
        rcases q with q | q
        · have e := q2.2.2.1.2.2.2.1
          rw [q, eu] at e; exact nomatch e
        · exact n1 q
  · obtain ⟨w, b, n, s, P, M, Ti, Mt, g, i, e, hr⟩ := hT
    exact cTr.kp ⟨w, b, n, s, P, M, Ti, Mt, g, i, e, hr⟩ K S (t1 _ _ e) t2
  · obtain ⟨ur, ub, c', g, hg', h3, h4⟩ := hV
    refine cTg.kp ⟨ur, ub, c', g, hg', h3, h4⟩ K ?_ t2 (fun ub h1 h2 h4 z => ?_)
    · intro q
      rcases q with q | q
      · exact ne hg' (h3 y hy) q
      · have e := hg'.2.1
        rw [q, eb] at e; exact nomatch e
    · rcases z with z | z
      · obtain ⟨n, g, e⟩ := h4
        rw [z, eu] at e; exact nomatch e
      · exact h1 y hy z
/-- a reader goes, or is opened on a room that some row or reader has -/
theorem cI.rea (h : cI k L f Z x aW aG aR tr tg gW gG gR A AB U UR UB R C GU B Ln Rm Rd Pl Mk G Sz) {q a P M : Nat} (hq : q < 3) (ha : mLive Rm Rd a) (hk : ∀ t, t ∈ L → t ≠ R q → f' t = f t) (hf : f' (R q) = .inr (1, [.ref (A a), .int (nI 1), .int (nI P), .int (nI M), .int (nI P), .int (nI M)])) (hP : P ≤ Ln a) (hM9 : M ≤ Ln a) :
    cI k L f' Z x aW aG aR tr tg gW gG gR A AB U UR UB R C GU B Ln Rm (va_up Rd q (some a)) (va_up Pl q P) (va_up Mk q M) G Sz := by
  obtain ⟨hX, hR, hL, hJ, hG, hU, hQ, hQ1, hT, hV, hM⟩ := h
  have K : cKp L L f f' (fun t => t = R q) := fun t ht => ⟨ht, hk t ht⟩
  have er : ∃ fs, f (R q) = .inr (1, fs) := by
    obtain ⟨q1, q2, q3, q4⟩ := hQ q hq
    cases e : Rd q with
    | none => obtain ⟨w, b, n, P, M, T, Mt, g, e, -⟩ := q4 e; exact ⟨_, e⟩
    | some a => exact ⟨_, (q3 a e).1⟩
  obtain ⟨fs9, er⟩ := er
  have t2 : cT2 f (fun t => t = R q) := fun t fs e z => (by rw [z, er] at e; simp at e)
  have t0 : cT0 f (fun t => t = R q) := fun t fs e z => (by rw [z, er] at e; simp at e)
  have tb : cTb k f (fun t => t = R q) := fun t n g e z => (by rw [z, er] at e; simp at e)
  have tx : cTx k f (fun t => t = R q) := ⟨fun t fs e z => (by rw [z, er] at e; simp at e), fun t i n g e z => (by rw [z, er] at e; simp at e)⟩
  have S : cSh k L f f' := cSh.kp K tb
  have lv : ∀ b, mLive Rm (va_up Rd q (some a)) b → mLive Rm Rd b := fun b hb => by
    rcases hb with hb | ⟨g, hg, e⟩
    · exact Or.inl hb
    · by_cases z : g = q
      · subst z
        rw [va_up_eq] at e
        cases e
        exact ha
      · rw [va_up_nq _ z] at e
        exact Or.inr ⟨g, hg, e⟩
  refine ⟨hX.kpx K tx, hR, fun b hb => (hL.kp K t2 tb) b (lv b hb), fun b c hb hc => hJ b c (lv b hb) (lv c hc), fun y hy => ?_, hU, fun z hz => ?_, hQ1, ?_, ?_, hM⟩
  · obtain ⟨q1, q2, q3, q4⟩ := (hG.kp K t0 t2 tb) y hy
    exact ⟨q1, q2, q3, fun b hb => q4 b (lv b hb)⟩
  · obtain ⟨q1, q2, q3, q4⟩ := hQ z hz
    by_cases e : z = q
    · subst e
      rw [va_up_eq, va_up_eq, va_up_eq]
      refine ⟨q1, q2, fun b hb => ?_, fun hb => nomatch hb⟩
      cases hb
      exact ⟨hf, hP, hM9⟩
    · rw [va_up_nq _ e, va_up_nq _ e, va_up_nq _ e]
      have n1 : R z ≠ R q := fun q' => e (hQ1 z q hz hq q')
      refine ⟨q1, q2, fun b hb => ?_, fun hb => ?_⟩
      · obtain ⟨e1, e2⟩ := q3 b hb
        exact ⟨(hk _ q2.1 n1).trans e1, e2⟩
      · obtain ⟨w, b, n, P, M, Ti, Mt, g, e, hr, hp⟩ := q4 hb
        exact ⟨w, b, n, P, M, Ti, Mt, g, (hk _ q2.1 n1).trans e, hr.kp K (t2 _ _ hr.2.1) (tb _ _ _ hr.2.2.2.1), hp⟩
  · obtain ⟨w, b, n, s, P, M, Ti, Mt, g, i, e, hr⟩ := hT
    exact cTr.kp ⟨w, b, n, s, P, M, Ti, Mt, g, i, e, hr⟩ K S (hr.2.2 q hq) t2
  · obtain ⟨ur, ub, c, g, hg', h3, h4⟩ := hV
    obtain ⟨ur, ub, c, g, hg', h3, h4⟩ := cTg.kp ⟨ur, ub, c, g, hg', h3, h4⟩ K (t0 _ _ hg'.2.1) t2 (fun ub h1 h2 h4 => by obtain ⟨n, g, e⟩ := h4; exact tb _ _ _ e)
    exact ⟨ur, ub, c, g, hg', h3, fun b hb => h4 b (lv b hb)⟩
/-- a row is lent -/
theorem cI.lent (h : cI k L f Z x aW aG aR tr tg gW gG gR A AB U UR UB R C GU B Ln Rm Rd Pl Mk G Sz) {r u : Nat} (hr : r < 4) (hu : u < 4) (hk : ∀ t, t ∈ L → t ≠ aW → f' t = f t) (hf : f' aW = .inl (k 4, 4, .inr (.inr (.inr (.inr (va_up gW u (some (A (Rm r))))))))) :
    cI k L f' Z x aW aG aR tr tg (va_up gW u (some (A (Rm r)))) gG gR A AB U UR UB R C GU B Ln (va_up Rm u (Rm r)) Rd Pl Mk G Sz := by
  obtain ⟨hX, hR, hL, hJ, hG, hU, hQ, hQ1, hT, hV, hM⟩ := h
  have K : cKp L L f f' (fun t => t = aW) := fun t ht => ⟨ht, hk t ht⟩
  have ea := hX.2.2.2.1
  have t2 : cT2 f (fun t => t = aW) := fun t fs e z => (by rw [z, ea] at e; simp at e)
  have t1 : cT1 f (fun t => t = aW) := fun t fs e z => (by rw [z, ea] at e; simp at e)
  have t0 : cT0 f (fun t => t = aW) := fun t fs e z => (by rw [z, ea] at e; simp at e)
  have tb : cTb k f (fun t => t = aW) := fun t n g e z => (by rw [z, ea] at e; simp at e)
  have S : cSh k L f f' := cSh.kp K tb
  have lv : ∀ b, mLive (va_up Rm u (Rm r)) Rd b → mLive Rm Rd b := fun b hb => by
    rcases hb with ⟨v, hv, e⟩ | hb
    · by_cases z : v = u
      · subst z
        rw [va_up_eq] at e
        exact Or.inl ⟨r, hr, e⟩
      · rw [va_up_nq _ z] at e
        exact Or.inl ⟨v, hv, e⟩
    · exact Or.inr hb
  have nx : x ≠ aW := ne_of hX.2.1 ea (by simp)
  have nG : ∀ {t i n : Nat} {g : Nat → Option Nat}, f t = .inl (k i, n, .inr (.inr (.inr (.inr g)))) → n ≠ 4 → t ≠ aW := fun e hn z => by
    rw [z, ea] at e
    simp only [Sum.inl.injEq, Prod.mk.injEq] at e
    exact hn e.2.1.symm
  refine ⟨⟨hX.1, (hk _ hX.1.1 nx).trans hX.2.1, hX.2.2.1, hf, hX.2.2.2.2.1, (hk _ hX.2.2.2.2.1.1 (nG hX.2.2.2.2.2.1 (by decide))).trans hX.2.2.2.2.2.1, hX.2.2.2.2.2.2.1, (hk _ hX.2.2.2.2.2.2.1.1 (nG hX.2.2.2.2.2.2.2 (by decide))).trans hX.2.2.2.2.2.2.2⟩, fun v hv => ?_, fun b hb => (hL.kp K t2 tb) b (lv b hb), fun b c hb hc => hJ b c (lv b hb) (lv c hc), fun y hy => ?_, hU, hQ.kp K S t1 t2, hQ1, ?_, ?_, hM⟩
  · by_cases z : v = u
    · subst z
      rw [va_up_eq, va_up_eq]
      exact ⟨(hR r hr).1, rfl⟩
    · rw [va_up_nq _ z, va_up_nq _ z]
      exact hR v hv
  · obtain ⟨q1, q2, q3, q4⟩ := (hG.kp K t0 t2 tb) y hy
    exact ⟨q1, q2, q3, fun b hb => q4 b (lv b hb)⟩
  · obtain ⟨w, b, n, s, P, M, Ti, Mt, g, i, e, hr⟩ := hT
    exact cTr.kp ⟨w, b, n, s, P, M, Ti, Mt, g, i, e, hr⟩ K S (t1 _ _ e) t2
  · obtain ⟨ur, ub, c, g, hg', h3, h4⟩ := hV
    obtain ⟨ur, ub, c, g, hg', h3, h4⟩ := cTg.kp ⟨ur, ub, c, g, hg', h3, h4⟩ K (t0 _ _ hg'.2.1) t2 (fun ub h1 h2 h4 => by obtain ⟨n, g, e⟩ := h4; exact tb _ _ _ e)
    exact ⟨ur, ub, c, g, hg', h3, fun b hb => h4 b (lv b hb)⟩
end CI2
