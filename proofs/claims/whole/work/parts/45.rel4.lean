def cInv (k : Nat → ClassId) (L : List Nat) (f : Nat → va_E) (Z : Nat → Prop) (x : Nat) (B : Nat → Nat → Int32) (Ln Rm : Nat → Nat) (Rd : Nat → Option Nat) (Pl Mk : Nat → Nat) (G : Nat → Nat → Int32) (Sz : Nat → Nat) : Prop :=
  ∃ (aW aG aR tr tg : Nat) (gW gG gR : Nat → Option Nat) (A AB U UR UB R : Nat → Nat) (C GU : Nat → Nat → Int32), cI k L f Z x aW aG aR tr tg gW gG gR A AB U UR UB R C GU B Ln Rm Rd Pl Mk G Sz
def kKp (L L' : List Nat) (f f' : Nat → va_E) (Z : Nat → Prop) : Prop := ∀ a, a ∈ L → a ∈ L' ∧ (Z a → f' a = f a)
def kPost (k : Nat → ClassId) (L : List Nat) (f : Nat → va_E) (Z : Nat → Prop) (x : Nat) (v9 : Value) (B : Nat → Nat → Int32) (Ln Rm : Nat → Nat) (Rd : Nat → Option Nat) (Pl Mk : Nat → Nat) (G : Nat → Nat → Int32) (Sz : Nat → Nat) : Option Value → va_W → Prop := fun v ws' =>
  ∃ (L' : List Nat) (f' : Nat → va_E), v = some v9 ∧ ws' = va_pl L' f' ∧ kKp L L' f f' Z ∧ cInv k L' f' Z x B Ln Rm Rd Pl Mk G Sz
theorem kKp.rf {L : List Nat} {f : Nat → va_E} {Z : Nat → Prop} : kKp L L f f Z := fun a ha => ⟨ha, fun _ => rfl⟩
theorem kKp.up {L : List Nat} {f f1 : Nat → va_E} {Z : Nat → Prop} {t : Nat} {e : va_E} (h : kKp L L f f1 Z) (ht : ¬ Z t) : kKp L L f (va_up f1 t e) Z := fun a ha => ⟨ha, fun hz => (va_up_nq _ (fun q => ht (by rw [← q]; exact hz))).trans ((h a ha).2 hz)⟩
theorem va_up_sf {α : Type} {f : Nat → α} {a : Nat} {v : α} (h : f a = v) : va_up f a v = f := by
  funext q
  by_cases z : q = a
  · subst z; rw [va_up_eq, h]
  · rw [va_up_nq _ z]
theorem firstP (p : Nat → Prop) : ∀ n, ∃ d, d ≤ n ∧ (∀ j, j < d → ¬ p j) ∧ (d = n ∨ (d < n ∧ p d))
  | 0 => ⟨0, Nat.le_refl _, fun j hj => by omega, Or.inl rfl⟩
  | n + 1 => by
    obtain ⟨d, h1, h2, h3⟩ := firstP p n
    rcases h3 with h3 | ⟨h3, h4⟩
    · subst h3
      by_cases hp : p d
      · exact ⟨d, by omega, h2, Or.inr ⟨by omega, hp⟩⟩
      · refine ⟨d + 1, by omega, fun j hj => ?_, Or.inl rfl⟩
        by_cases z : j = d
        · rw [z]; exact hp
        · exact h2 j (by omega)
    · exact ⟨d, by omega, h2, Or.inr ⟨by omega, h4⟩⟩
theorem cFree (Rm : Nat → Nat) (Rd : Nat → Option Nat) : ∃ F, mFree Rm Rd F := by
  have key : ∀ n, n ≤ 8 → (∀ a, a < n → mLive Rm Rd a) ∨ ∃ F, mFree Rm Rd F := fun n => by
    induction n with
    | zero => exact fun _ => Or.inl (fun a ha => by omega)
    | succ n ih =>
      intro hn
      rcases ih (by omega) with h | h
      · by_cases hl : mLive Rm Rd n
        · refine Or.inl (fun a ha => ?_)
          by_cases z : a = n
          · rw [z]; exact hl
          · exact h a (by omega)
        · exact Or.inr ⟨n, by omega, hl, h⟩
      · exact Or.inr h
  rcases key 8 (Nat.le_refl _) with h | h
  · exfalso
    have hx : ∀ a, a ∈ List.range 8 → a ∈ [Rm 0, Rm 1, Rm 2, Rm 3, (Rd 0).getD 0, (Rd 1).getD 0, (Rd 2).getD 0] := fun a ha => by
      rcases h a (List.mem_range.mp ha) with ⟨r, hr, e⟩ | ⟨g, hg, e⟩
      · rcases (show r = 0 ∨ r = 1 ∨ r = 2 ∨ r = 3 by omega) with rfl | rfl | rfl | rfl <;> rw [← e] <;> simp
      · rcases (show g = 0 ∨ g = 1 ∨ g = 2 by omega) with rfl | rfl | rfl <;> simp [e]
    obtain ⟨F, hF⟩ := outOf (List.range 8) List.nodup_range hx
    have := hF.length_eq
    simp at this
    omega
  · exact h
theorem lbAnd (x : Int32) : lb (x &&& nI 255) = lb x := by
  unfold lb
  rw [Int32.toInt8_and, show (nI 255).toInt8 = -1 by decide, Int8.and_neg_one]
theorem lbEq {x y : Int32} (hx : lb x = x) (hy : lb y = y) : x &&& nI 255 = y &&& nI 255 ↔ x = y :=
  ⟨fun h => by rw [← hx, ← hy, ← lbAnd x, ← lbAnd y, h], fun h => by rw [h]⟩
theorem lbTen {x : Int32} (hx : lb x = x) : x &&& nI 255 = nI 10 ↔ x = nI 10 := by
  have h := lbEq (y := nI 10) hx (by decide)
  rwa [show nI 10 &&& nI 255 = nI 10 by decide] at h
theorem cpB_z (B : Nat → Nat → Int32) (F n : Nat) (Kp : Nat → Int32) : cpB B F n (zK Kp n) = cpB B F n (fun _ => nI 0) := by
  funext a b
  simp only [cpB, zK]
  by_cases h : a = F ∧ b < n
  · rw [if_pos h, if_pos h, if_pos h.2]
  · rw [if_neg h, if_neg h]
theorem cpB_k (B : Nat → Nat → Int32) (F n : Nat) (Kp s : Nat → Int32) : cpB B F n (cpK Kp n s) = cpB B F n s := by
  funext a b
  simp only [cpB, cpK]
  by_cases h : a = F ∧ b < n
  · rw [if_pos h, if_pos h, if_pos h.2]
  · rw [if_neg h, if_neg h]
theorem cpB_in {B : Nat → Nat → Int32} {F n j : Nat} {s : Nat → Int32} (h : j < n) : cpB B F n s F j = s j := by simp [cpB, h]
theorem cpB_out {B : Nat → Nat → Int32} {F n b : Nat} {s : Nat → Int32} (h : b ≠ F) (j : Nat) : cpB B F n s b j = B b j := by simp [cpB, h]
theorem cpB_lb {B : Nat → Nat → Int32} {F n : Nat} {s : Nat → Int32} (h : ∀ a b, lb (B a b) = B a b) (hs : ∀ j, j < n → lb (s j) = s j) (a b : Nat) : lb (cpB B F n s a b) = cpB B F n s a b := by
  simp only [cpB]
  split
  · exact hs _ (by omega)
  · exact h _ _
theorem cpG_out {G : Nat → Nat → Int32} {y c n z : Nat} {s : Nat → Int32} (h : z ≠ y) (j : Nat) : cpG G y c n s z j = G z j := by simp [cpG, h]
theorem cpG_lb {B : Nat → Nat → Int32} {F c n : Nat} {s : Nat → Int32} (h : ∀ a b, lb (B a b) = B a b) (hs : ∀ j, j < n → lb (s j) = s j) (a b : Nat) : lb (cpG B F c n s a b) = cpG B F c n s a b := by
  simp only [cpG]
  split
  · exact hs _ (by omega)
  · exact h _ _
/-- a copy into a row, seen from the model -/
theorem cpy_cpG {G : Nat → Nat → Int32} {y P c n N i : Nat} {g gu s : Nat → Int32} (hi : i < N) (h1 : ∀ i, i < N → (i < c ∨ c + n ≤ i) → gu i = G y i) (h2 : ∀ j, j < n → g (P + j) = s j) : va_cpy g gu P c n i = cpG G y c n s y i := by
  simp only [va_cpy, cpG]
  by_cases h : c ≤ i ∧ i < c + n
  · rw [if_pos h, if_pos ⟨trivial, h⟩]
    exact h2 _ (by omega)
  · rw [if_neg h, if_neg (fun q => h q.2)]
    exact h1 i hi (by omega)
theorem smB_congr {g g' : Nat → Int32} {a : Nat} : ∀ {n : Nat}, (∀ j, j < n → g (a + j) = g' (a + j)) → smB g a n = smB g' a n
  | 0, _ => rfl
  | n + 1, h => by
    simp only [smB]
    rw [smB_congr (fun j hj => h j (by omega)), h n (by omega)]
theorem rdN_congr {g g' : Nat → Int32} : ∀ {n : Nat}, (∀ j, j < n → g j = g' j) → rdN g n = rdN g' n
  | 0, _ => rfl
  | n + 1, h => by
    simp only [rdN]
    rw [rdN_congr (fun j hj => h j (by omega)), h n (by omega)]
theorem eqB_tt {f g : Nat → Int32} : ∀ {n : Nat}, (∀ j, j < n → f j = g j) → eqB f g n = true
  | 0, _ => rfl
  | n + 1, h => by
    simp only [eqB]
    rw [eqB_tt (fun j hj => h j (by omega)), h n (by omega)]
    simp
theorem eqB_ff {f g : Nat → Int32} {d : Nat} : ∀ {n : Nat}, d < n → ¬ f d = g d → eqB f g n = false
  | 0, h, _ => by omega
  | n + 1, h, hd => by
    simp only [eqB]
    by_cases z : d = n
    · subst z; simp [hd]
    · rw [eqB_ff (by omega) hd]; rfl
theorem part_no {Ln Rm : Nat → Nat} {x y z : Int32} (h : ¬ vRow x) : ¬ vPart Ln Rm x y z := fun ⟨r, a, b, e, hr, _⟩ => h ⟨by rw [e]; exact (nI_leI (by omega) (by omega)).mpr (by omega), by rw [e]; exact (nI_leI (by omega) (by omega)).mpr (by omega)⟩
theorem part_to {Ln Rm : Nat → Nat} {r : Nat} {y z : Int32} (hr : r < 4) (h : ¬ vPt (Ln (Rm r)) y z) : ¬ vPart Ln Rm (nI r) y z := fun ⟨r', a, b, e, hr', e1, e2, hp⟩ => by
  have : r = r' := (nI_eq (by omega) (by omega)).mp e
  subst this
  exact h ⟨a, b, e1, e2, hp⟩
/-- a long that isn't negative -/
theorem lN_of {v : Int64} (h : ¬ v < lN 0) : ∃ m : Nat, m < 2 ^ 63 ∧ v = lN m := by
  have h0 : (lN 0).toInt = 0 := lN_toInt (by decide)
  rw [Int64.lt_iff_toInt_lt, h0] at h
  have h1 : v.toInt < 2 ^ 63 := Int64.toInt_lt v
  refine ⟨v.toInt.toNat, by omega, ?_⟩
  apply Int64.toInt_inj.mp
  rw [show lN v.toInt.toNat = Int64.ofNat v.toInt.toNat from rfl, Int64.toInt_ofNat_of_lt (by omega)]
  omega
section CI4
variable {k : Nat → ClassId} {L L' : List Nat} {f f' : Nat → va_E} {Z T : Nat → Prop} {x aW aG aR tr tg : Nat} {gW gG gR : Nat → Option Nat} {A AB U UR UB R : Nat → Nat} {C GU : Nat → Nat → Int32} {B B' : Nat → Nat → Int32} {Ln Rm : Nat → Nat} {Rd : Nat → Option Nat} {Pl Mk : Nat → Nat} {G G' : Nat → Nat → Int32} {Sz : Nat → Nat}
/-- an open reader goes -/
theorem cI.go (h : cI k L f Z x aW aG aR tr tg gW gG gR A AB U UR UB R C GU B Ln Rm Rd Pl Mk G Sz) {q a P : Nat} (hq : q < 3) (ha : Rd q = some a) (hk : ∀ t, t ∈ L → t ≠ R q → f' t = f t) (hf : f' (R q) = .inr (1, [.ref (A a), .int (nI 1), .int (nI P), .int (nI (Mk q)), .int (nI P), .int (nI (Mk q))])) (hP : P ≤ Ln a) :
    cI k L f' Z x aW aG aR tr tg gW gG gR A AB U UR UB R C GU B Ln Rm Rd (va_up Pl q P) Mk G Sz := by
  have hm := ((h.2.2.2.2.2.2.1 q hq).2.2.1 a ha).2.2
  have := h.rea hq (Or.inr ⟨q, hq, ha⟩) hk hf hP hm
  rwa [va_up_sf ha, va_up_sf (f := Mk) rfl] at this
theorem cI.goM (h : cI k L f Z x aW aG aR tr tg gW gG gR A AB U UR UB R C GU B Ln Rm Rd Pl Mk G Sz) {q a P M : Nat} (hq : q < 3) (ha : Rd q = some a) (hk : ∀ t, t ∈ L → t ≠ R q → f' t = f t) (hf : f' (R q) = .inr (1, [.ref (A a), .int (nI 1), .int (nI P), .int (nI M), .int (nI P), .int (nI M)])) (hP : P ≤ Ln a) (hM : M ≤ Ln a) :
    cI k L f' Z x aW aG aR tr tg gW gG gR A AB U UR UB R C GU B Ln Rm Rd (va_up Pl q P) (va_up Mk q M) G Sz := by
  have := h.rea hq (Or.inr ⟨q, hq, ha⟩) hk hf hP hM
  rwa [va_up_sf ha] at this
/-- any reader, open or not -/
theorem cI.anyR (h : cI k L f Z x aW aG aR tr tg gW gG gR A AB U UR UB R C GU B Ln Rm Rd Pl Mk G Sz) {q : Nat} (hq : q < 3) : ∃ (w b n s P M T Mt : Nat) (g : Nat → Int32), f (R q) = .inr (1, [.ref w, .int (nI s), .int (nI P), .int (nI M), .int (nI T), .int (nI Mt)]) ∧ cRw k L f Z w b n g ∧ P ≤ n := by
  obtain ⟨q1, q2, q3, q4⟩ := h.2.2.2.2.2.2.1 q hq
  cases e : Rd q with
  | none => obtain ⟨w, b, n, P, M, T, Mt, g, e, h⟩ := q4 e; exact ⟨w, b, n, 0, P, M, T, Mt, g, e, h⟩
  | some a =>
    obtain ⟨v1, v2, -⟩ := q3 a e
    exact ⟨_, _, _, _, _, _, _, _, _, v1, (h.2.2.1 a (Or.inr ⟨q, hq, e⟩)).2.1, v2⟩
end CI4
