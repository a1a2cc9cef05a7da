/-! the class's objects beside the model's state -/
def cIn (L : List Nat) (Z : Nat → Prop) (a : Nat) : Prop := a ∈ L ∧ ¬ Z a
def cRw (k : Nat → ClassId) (L : List Nat) (f : Nat → va_E) (Z : Nat → Prop) (h b n : Nat) (g : Nat → Int32) : Prop := cIn L Z h ∧ f h = .inr (2, [.ref b]) ∧ cIn L Z b ∧ f b = .inl (k 0, n, .inl g) ∧ n ≤ 256 ∧ ∀ j, lb (g j) = g j
def cGa (k : Nat → ClassId) (L : List Nat) (f : Nat → va_E) (Z : Nat → Prop) (u ur ub c : Nat) (g : Nat → Int32) : Prop := cIn L Z u ∧ f u = .inr (0, [.ref ur, .int (nI c)]) ∧ cRw k L f Z ur ub 256 g ∧ c ≤ 256
def cX (k : Nat → ClassId) (L : List Nat) (f : Nat → va_E) (Z : Nat → Prop) (x aW aG aR tr tg : Nat) (gW gG gR : Nat → Option Nat) : Prop := cIn L Z x ∧ f x = .inr (3, [.ref aW, .ref aG, .ref aR, .ref tr, .ref tg]) ∧ cIn L Z aW ∧ f aW = .inl (k 4, 4, .inr (.inr (.inr (.inr gW)))) ∧ cIn L Z aG ∧ f aG = .inl (k 2, 3, .inr (.inr (.inr (.inr gG)))) ∧ cIn L Z aR ∧ f aR = .inl (k 3, 3, .inr (.inr (.inr (.inr gR))))
def cRows (gW : Nat → Option Nat) (A Rm : Nat → Nat) : Prop := ∀ r, r < 4 → Rm r < 8 ∧ gW r = some (A (Rm r))
def cLive (k : Nat → ClassId) (L : List Nat) (f : Nat → va_E) (Z : Nat → Prop) (A AB : Nat → Nat) (C B : Nat → Nat → Int32) (Ln Rm : Nat → Nat) (Rd : Nat → Option Nat) : Prop := ∀ a, mLive Rm Rd a → a < 8 ∧ cRw k L f Z (A a) (AB a) (Ln a) (C a) ∧ ∀ j, j < Ln a → C a j = B a j
def cInj (AB Rm : Nat → Nat) (Rd : Nat → Option Nat) : Prop := ∀ a b, mLive Rm Rd a → mLive Rm Rd b → AB a = AB b → a = b
def cGats (k : Nat → ClassId) (L : List Nat) (f : Nat → va_E) (Z : Nat → Prop) (gG : Nat → Option Nat) (U UR UB AB : Nat → Nat) (GU G : Nat → Nat → Int32) (Sz Rm : Nat → Nat) (Rd : Nat → Option Nat) : Prop := ∀ y, y < 3 → gG y = some (U y) ∧ cGa k L f Z (U y) (UR y) (UB y) (Sz y) (GU y) ∧ (∀ i, i < Sz y → GU y i = G y i) ∧ ∀ a, mLive Rm Rd a → AB a ≠ UB y
def cOne (V : Nat → Nat) : Prop := ∀ y z, y < 3 → z < 3 → V y = V z → y = z
def cReads (k : Nat → ClassId) (L : List Nat) (f : Nat → va_E) (Z : Nat → Prop) (gR : Nat → Option Nat) (R A Ln : Nat → Nat) (Rd : Nat → Option Nat) (Pl Mk : Nat → Nat) : Prop := ∀ q, q < 3 → gR q = some (R q) ∧ cIn L Z (R q) ∧ (∀ a, Rd q = some a → f (R q) = .inr (1, [.ref (A a), .int (nI 1), .int (nI (Pl q)), .int (nI (Mk q)), .int (nI (Pl q)), .int (nI (Mk q))]) ∧ Pl q ≤ Ln a ∧ Mk q ≤ Ln a) ∧ (Rd q = none → ∃ (w b n P M T Mt : Nat) (g : Nat → Int32), f (R q) = .inr (1, [.ref w, .int (nI 0), .int (nI P), .int (nI M), .int (nI T), .int (nI Mt)]) ∧ cRw k L f Z w b n g ∧ P ≤ n)
def cTr (k : Nat → ClassId) (L : List Nat) (f : Nat → va_E) (Z : Nat → Prop) (tr : Nat) (R : Nat → Nat) : Prop := ∃ (w b n s P M T Mt : Nat) (g : Nat → Int32), cIn L Z tr ∧ f tr = .inr (1, [.ref w, .int (nI s), .int (nI P), .int (nI M), .int (nI T), .int (nI Mt)]) ∧ cRw k L f Z w b n g ∧ P ≤ n ∧ ∀ q, q < 3 → tr ≠ R q
def cTg (k : Nat → ClassId) (L : List Nat) (f : Nat → va_E) (Z : Nat → Prop) (tg : Nat) (UB AB Rm : Nat → Nat) (Rd : Nat → Option Nat) : Prop := ∃ (ur ub c : Nat) (g : Nat → Int32), cGa k L f Z tg ur ub c g ∧ (∀ y, y < 3 → ub ≠ UB y) ∧ ∀ a, mLive Rm Rd a → AB a ≠ ub
def cMod (B : Nat → Nat → Int32) (Ln : Nat → Nat) : Prop := (∀ a, Ln a ≤ 256) ∧ ∀ a b, lb (B a b) = B a b
def cI (k : Nat → ClassId) (L : List Nat) (f : Nat → va_E) (Z : Nat → Prop) (x aW aG aR tr tg : Nat) (gW gG gR : Nat → Option Nat) (A AB U UR UB R : Nat → Nat) (C GU : Nat → Nat → Int32) (B : Nat → Nat → Int32) (Ln Rm : Nat → Nat) (Rd : Nat → Option Nat) (Pl Mk : Nat → Nat) (G : Nat → Nat → Int32) (Sz : Nat → Nat) : Prop :=
  cX k L f Z x aW aG aR tr tg gW gG gR ∧ cRows gW A Rm ∧ cLive k L f Z A AB C B Ln Rm Rd ∧ cInj AB Rm Rd ∧ cGats k L f Z gG U UR UB AB GU G Sz Rm Rd ∧ cOne UB ∧ cReads k L f Z gR R A Ln Rd Pl Mk ∧ cOne R ∧ cTr k L f Z tr R ∧ cTg k L f Z tg UB AB Rm Rd ∧ cMod B Ln
/-- what was there stays there; but for the places of T it is as it was -/
def cKp (L L' : List Nat) (f f' : Nat → va_E) (T : Nat → Prop) : Prop := ∀ a, a ∈ L → a ∈ L' ∧ (¬ T a → f' a = f a)
/-- a row of bytes stays one of that length -/
def cSh (k : Nat → ClassId) (L : List Nat) (f f' : Nat → va_E) : Prop := ∀ (a n : Nat) (g : Nat → Int32), a ∈ L → f a = .inl (k 0, n, .inl g) → (∀ j, lb (g j) = g j) → ∃ g' : Nat → Int32, f' a = .inl (k 0, n, .inl g') ∧ ∀ j, lb (g' j) = g' j
section CI
variable {k : Nat → ClassId} {L L' : List Nat} {f f' : Nat → va_E} {Z T : Nat → Prop} {x aW aG aR tr tg : Nat} {gW gG gR : Nat → Option Nat} {A AB U UR UB R : Nat → Nat} {C GU : Nat → Nat → Int32} {B B' : Nat → Nat → Int32} {Ln Rm : Nat → Nat} {Rd : Nat → Option Nat} {Pl Mk : Nat → Nat} {G G' : Nat → Nat → Int32} {Sz : Nat → Nat}
theorem cKp.in (hk : cKp L L' f f' T) {a : Nat} (h : cIn L Z a) : cIn L' Z a := ⟨(hk a h.1).1, h.2⟩
theorem cRw.kp {h b n : Nat} {g : Nat → Int32} (q : cRw k L f Z h b n g) (hk : cKp L L' f f' T) (h1 : ¬ T h) (h2 : ¬ T b) : cRw k L' f' Z h b n g :=
  ⟨hk.in q.1, ((hk h q.1.1).2 h1).trans q.2.1, hk.in q.2.2.1, ((hk b q.2.2.1.1).2 h2).trans q.2.2.2.1, q.2.2.2.2⟩
theorem cRw.sh {h b n : Nat} {g : Nat → Int32} (q : cRw k L f Z h b n g) (hk : cKp L L' f f' T) (hs : cSh k L f f') (h1 : ¬ T h) : ∃ g', cRw k L' f' Z h b n g' := by
  obtain ⟨g', e, hl⟩ := hs b n g q.2.2.1.1 q.2.2.2.1 q.2.2.2.2.2
  exact ⟨g', hk.in q.1, ((hk h q.1.1).2 h1).trans q.2.1, hk.in q.2.2.1, e, q.2.2.2.2.1, hl⟩
theorem cGa.kp {u ur ub c : Nat} {g : Nat → Int32} (q : cGa k L f Z u ur ub c g) (hk : cKp L L' f f' T) (h1 : ¬ T u) (h2 : ¬ T ur) (h3 : ¬ T ub) : cGa k L' f' Z u ur ub c g :=
  ⟨hk.in q.1, ((hk u q.1.1).2 h1).trans q.2.1, q.2.2.1.kp hk h2 h3, q.2.2.2⟩
theorem cX.kp (q : cX k L f Z x aW aG aR tr tg gW gG gR) (hk : cKp L L' f f' T) (h1 : ¬ T x) (h2 : ¬ T aW) (h3 : ¬ T aG) (h4 : ¬ T aR) : cX k L' f' Z x aW aG aR tr tg gW gG gR :=
  ⟨hk.in q.1, ((hk _ q.1.1).2 h1).trans q.2.1, hk.in q.2.2.1, ((hk _ q.2.2.1.1).2 h2).trans q.2.2.2.1, hk.in q.2.2.2.2.1, ((hk _ q.2.2.2.2.1.1).2 h3).trans q.2.2.2.2.2.1, hk.in q.2.2.2.2.2.2.1, ((hk _ q.2.2.2.2.2.2.1.1).2 h4).trans q.2.2.2.2.2.2.2⟩
/-- no row's object is of another kind -/
def cT2 (f : Nat → va_E) (T : Nat → Prop) : Prop := ∀ a fs, f a = .inr (2, fs) → ¬ T a
def cT0 (f : Nat → va_E) (T : Nat → Prop) : Prop := ∀ a fs, f a = .inr (0, fs) → ¬ T a
def cT1 (f : Nat → va_E) (T : Nat → Prop) : Prop := ∀ a fs, f a = .inr (1, fs) → ¬ T a
def cTb (k : Nat → ClassId) (f : Nat → va_E) (T : Nat → Prop) : Prop := ∀ a n (g : Nat → Int32), f a = .inl (k 0, n, .inl g) → ¬ T a
def cTx (k : Nat → ClassId) (f : Nat → va_E) (T : Nat → Prop) : Prop := (∀ a fs, f a = .inr (3, fs) → ¬ T a) ∧ ∀ a i n (g : Nat → Option Nat), f a = .inl (k i, n, .inr (.inr (.inr (.inr g)))) → ¬ T a
theorem cX.kpx (q : cX k L f Z x aW aG aR tr tg gW gG gR) (hk : cKp L L' f f' T) (h : cTx k f T) : cX k L' f' Z x aW aG aR tr tg gW gG gR :=
  q.kp hk (h.1 _ _ q.2.1) (h.2 _ _ _ _ q.2.2.2.1) (h.2 _ _ _ _ q.2.2.2.2.2.1) (h.2 _ _ _ _ q.2.2.2.2.2.2.2)
theorem cLive.kp (q : cLive k L f Z A AB C B Ln Rm Rd) (hk : cKp L L' f f' T) (h1 : cT2 f T) (h2 : cTb k f T) : cLive k L' f' Z A AB C B Ln Rm Rd := fun a ha => by
  obtain ⟨q1, q2, q3⟩ := q a ha
  exact ⟨q1, q2.kp hk (h1 _ _ q2.2.1) (h2 _ _ _ q2.2.2.2.1), q3⟩
theorem cGats.kp (q : cGats k L f Z gG U UR UB AB GU G Sz Rm Rd) (hk : cKp L L' f f' T) (h0 : cT0 f T) (h1 : cT2 f T) (h2 : cTb k f T) : cGats k L' f' Z gG U UR UB AB GU G Sz Rm Rd := fun y hy => by
  obtain ⟨q1, q2, q3, q4⟩ := q y hy
  exact ⟨q1, q2.kp hk (h0 _ _ q2.2.1) (h1 _ _ q2.2.2.1.2.1) (h2 _ _ _ q2.2.2.1.2.2.2.1), q3, q4⟩
theorem cReads.kp (q : cReads k L f Z gR R A Ln Rd Pl Mk) (hk : cKp L L' f f' T) (hs : cSh k L f f') (h0 : cT1 f T) (h1 : cT2 f T) : cReads k L' f' Z gR R A Ln Rd Pl Mk := fun y hy => by
  obtain ⟨q1, q2, q3, q4⟩ := q y hy
  refine ⟨q1, hk.in q2, fun a ha => ?_, fun ha => ?_⟩
  · obtain ⟨e, h⟩ := q3 a ha
    exact ⟨((hk _ q2.1).2 (h0 _ _ e)).trans e, h⟩
  · obtain ⟨w, b, n, P, M, Ti, Mt, g, e, hr, hp⟩ := q4 ha
    obtain ⟨g', hr'⟩ := hr.sh hk hs (h1 _ _ hr.2.1)
    exact ⟨w, b, n, P, M, Ti, Mt, g', ((hk _ q2.1).2 (h0 _ _ e)).trans e, hr', hp⟩
theorem cTr.kp (q : cTr k L f Z tr R) (hk : cKp L L' f f' T) (hs : cSh k L f f') (h0 : ¬ T tr) (h1 : cT2 f T) : cTr k L' f' Z tr R := by
  obtain ⟨w, b, n, s, P, M, Ti, Mt, g, i, e, hr, hp⟩ := q
  obtain ⟨g', hr'⟩ := hr.sh hk hs (h1 _ _ hr.2.1)
  exact ⟨w, b, n, s, P, M, Ti, Mt, g', hk.in i, ((hk _ i.1).2 h0).trans e, hr', hp⟩
theorem cTg.kp (q : cTg k L f Z tg UB AB Rm Rd) (hk : cKp L L' f f' T) (h0 : ¬ T tg) (h1 : cT2 f T) (h2 : ∀ ub, (∀ y, y < 3 → ub ≠ UB y) → (∀ a, mLive Rm Rd a → AB a ≠ ub) → (∃ (n : Nat) (g : Nat → Int32), f ub = .inl (k 0, n, .inl g)) → ¬ T ub) : cTg k L' f' Z tg UB AB Rm Rd := by
  obtain ⟨ur, ub, c, g, hg, h3, h4⟩ := q
  exact ⟨ur, ub, c, g, hg.kp hk h0 (h1 _ _ hg.2.2.1.2.1) (h2 ub h3 h4 ⟨_, _, hg.2.2.1.2.2.2.1⟩), h3, h4⟩
theorem cSh.kp (hk : cKp L L' f f' T) (h : cTb k f T) : cSh k L f f' := fun a n g ha e hl => ⟨g, ((hk a ha).2 (h _ _ _ e)).trans e, hl⟩
end CI
