theorem upd_up2 {g : Nat → Int32} {B : Nat → Nat → Int32} {a i n j : Nat} {v : Int32} (h : ∀ j, j < n → j ≠ i → g j = B a j) (hj : j < n) : upd g i v j = up2 B a i v a j := by
  simp only [upd, up2, true_and]
  by_cases e : j = i
  · rw [if_pos e, if_pos e]
  · rw [if_neg e, if_neg e]; exact h j hj e
theorem up2_out {B : Nat → Nat → Int32} {a i b : Nat} {v : Int32} (h : b ≠ a) (j : Nat) : up2 B a i v b j = B b j := by simp [up2, h]
theorem up2_lb {B : Nat → Nat → Int32} {a i : Nat} {v : Int32} (h : ∀ a b, lb (B a b) = B a b) (hv : lb v = v) (b j : Nat) : lb (up2 B a i v b j) = up2 B a i v b j := by
  simp only [up2]; split
  · exact hv
  · exact h b j
theorem upd_lb {g : Nat → Int32} {i : Nat} {v : Int32} (h : ∀ j, lb (g j) = g j) (hv : lb v = v) (j : Nat) : lb (upd g i v j) = upd g i v j := by
  simp only [upd]; split
  · exact hv
  · exact h j
theorem lb_lb' (v : Int32) : lb (lb v) = lb v := lb_lb v
theorem fillC_B {g : Nat → Int32} {B : Nat → Nat → Int32} {r a m n j : Nat} {v st : Int32} (h : ∀ j, j < n → g j = B r j) (hj : j < n) : fillC g a m v st j = fillB B r a m v st r j := by
  simp only [fillC, fillB, true_and]
  split
  · rfl
  · exact h j hj
theorem fillB_out {B : Nat → Nat → Int32} {r a m b : Nat} {v st : Int32} (h : b ≠ r) (j : Nat) : fillB B r a m v st b j = B b j := by simp [fillB, h]
theorem fillB_lb {B : Nat → Nat → Int32} {r a m : Nat} {v st : Int32} (h : ∀ a b, lb (B a b) = B a b) (b j : Nat) : lb (fillB B r a m v st b j) = fillB B r a m v st b j := by
  simp only [fillB]; split
  · exact lb_lb' _
  · exact h b j
theorem num4 {g : Nat → Int32} {G : Nat → Nat → Int32} {y c i : Nat} {v : Int32} (h : ∀ i, i < c → g i = G y i) (hi : i < c + 4) : upd (upd (upd (upd g (c) (lb ((v) >>> ((nI (24)) &&& 31)))) ((c) + 1) (lb ((v) >>> ((nI (16)) &&& 31)))) (((c) + 1) + 1) (lb ((v) >>> ((nI (8)) &&& 31)))) ((((c) + 1) + 1) + 1) (lb ((v) >>> ((nI (0)) &&& 31))) i = cpG G y c 4 (n4 v) y i := by
  simp only [cpG, true_and]
  by_cases hc : c ≤ i ∧ i < c + 4
  · rw [if_pos hc]
    rcases (show i = c ∨ i = c + 1 ∨ i = c + 1 + 1 ∨ i = c + 1 + 1 + 1 by omega) with e | e | e | e
    · subst e; simp [upd, n4, show ¬ i = i + 1 + 1 + 1 by omega, show ¬ i = i + 1 + 1 by omega, show ¬ i = i + 1 by omega]
    · subst e; simp [upd, n4, show ¬ c + 1 = c + 1 + 1 + 1 by omega, show ¬ c + 1 = c + 1 + 1 by omega, show c + 1 - c = 1 by omega]
    · subst e; simp [upd, n4, show ¬ c + 1 + 1 = c + 1 + 1 + 1 by omega, show c + 1 + 1 - c = 2 by omega]
    · subst e; simp [upd, n4, show c + 1 + 1 + 1 - c = 3 by omega]
  · rw [if_neg hc]
    have hl : i < c := by omega
    rw [← h i hl]
    simp [upd, show ¬ i = c + 1 + 1 + 1 by omega, show ¬ i = c + 1 + 1 by omega, show ¬ i = c + 1 by omega, show ¬ i = c by omega]
theorem cpy0 {g h : Nat → Int32} {P d j : Nat} (hj : j < d) : va_cpy g h P 0 d j = g (P + j) := by
  simp only [va_cpy]
  rw [if_pos (by omega)]
  congr 1
theorem refEq {f : Nat → va_E} {h h2 b b2 : Nat} (e1 : f h = .inr (2, [.ref b])) (e2 : f h2 = .inr (2, [.ref b2])) (e : h = h2) : b = b2 := by
  rw [e, e2] at e1
  simp only [Sum.inr.injEq, Prod.mk.injEq, List.cons.injEq, Value.ref.injEq, true_and, and_true] at e1
  exact e1.symm
theorem cI.goK {k : Nat → ClassId} {L : List Nat} {f f' : Nat → va_E} {Z : Nat → Prop} {x aW aG aR tr tg : Nat} {gW gG gR : Nat → Option Nat} {A AB U UR UB R : Nat → Nat} {C GU : Nat → Nat → Int32} {B : Nat → Nat → Int32} {Ln Rm : Nat → Nat} {Rd : Nat → Option Nat} {Pl Mk : Nat → Nat} {G : Nat → Nat → Int32} {Sz : Nat → Nat} (h : cI k L f Z x aW aG aR tr tg gW gG gR A AB U UR UB R C GU B Ln Rm Rd Pl Mk G Sz) {q a M : Nat} (hq : q < 3) (ha : Rd q = some a) (hk : ∀ t, t ∈ L → t ≠ R q → f' t = f t) (hf : f' (R q) = .inr (1, [.ref (A a), .int (nI 1), .int (nI (Pl q)), .int (nI M), .int (nI (Pl q)), .int (nI M)])) (hM : M ≤ Ln a) :
    cI k L f' Z x aW aG aR tr tg gW gG gR A AB U UR UB R C GU B Ln Rm Rd Pl (va_up Mk q M) G Sz := by
  have := h.goM hq ha hk hf ((h.2.2.2.2.2.2.1 q hq).2.2.1 a ha).2.1 hM
  rwa [va_up_sf (f := Pl) rfl] at this
set_option maxHeartbeats 4000000 in
theorem cl_make (l : Launch) (D : va_G) (k : Nat → ClassId) (sb : Nat) (L : List Nat) (f : Nat → va_E) (Z : Nat → Prop) (x : Nat) (B : Nat → Nat → Int32) (Ln Rm : Nat → Nat) (Rd : Nat → Option Nat) (Pl Mk : Nat → Nat) (G : Nat → Nat → Int32) (Sz : Nat → Nat) (hl : l.stackTraces = false) (h : cInv k L f Z x B Ln Rm Rd Pl Mk G Sz) (hZ : ∀ a, Z a → a ∈ L) (p0 : Int32) (p1 : Int32) : ∃ (kk : Nat) (v : Int32) (B' : Nat → Nat → Int32) (Ln' Rm' : Nat → Nat) (Rd' : Nat → Option Nat) (Pl' Mk' : Nat → Nat) (G' : Nat → Nat → Int32) (Sz' : Nat → Nat), kk ≤ 2 ∧ ((kk = 0 ∧ vCt l yX3_make cX3_make 4 (some .int) 10 152 2 257 D vCl (vTy k) sb [.ref x, .int p0, .int p1] (va_pl L f) (kPost k L f Z x (.int v) B' Ln' Rm' Rd' Pl' Mk' G' Sz')) ∨ (0 < kk ∧ vCtX l yX3_make cX3_make 4 (some .int) 10 152 1 6 D vCl (vTy k) sb [.ref x, .int p0, .int p1] (va_pl L f) (["java/lang/IndexOutOfBoundsException", "java/lang/IllegalArgumentException"].getD (kk - 1) "") ∧ cInv k L f Z x B' Ln' Rm' Rd' Pl' Mk' G' Sz')) ∧ ∀ (o : Nat → Nat) (Kp : Nat → Int32) (th : Int32), ∃ Kp' : Nat → Int32, ∀ pl : va_W, vCt l yX4_make cX4_make 5 (some .int) 2 47 0 0 D vCl (vTy k) sb [.ref (o 0), .int p0, .int p1] (mW k o pl B Ln Rm Rd Pl Mk G Sz Kp th) (vDet (some (.int v)) (mW k o pl B' Ln' Rm' Rd' Pl' Mk' G' Sz' Kp' (nI kk))) := by
  have h0 := h
  obtain ⟨aW, aG, aR, tr, tg, gW, gG, gR, A, AB, U, UR, UB, R, C, GU, hI⟩ := h
  obtain ⟨⟨hx, fx, haW, faW, haG, faG, haR, faR⟩, hRo, hL, hJ, hG, hU, hQ, hQ1, hT, hV, hM⟩ := id hI
  have hRm : ∀ r, r < 4 → Rm r < 8 := fun r hr => (hRo r hr).1
  have hRd : ∀ g, g < 3 → ∀ b, Rd g = some b → b < 8 := fun g hg b e => (hL b (Or.inr ⟨g, hg, e⟩)).1
  by_cases hvr : vRow p0
  · obtain ⟨r, hrr, rfl⟩ := vRow_of hvr
    have ehr := (hRo r hrr).2
    have lvr : mLive Rm Rd (Rm r) := Or.inl ⟨r, hrr, rfl⟩
    obtain ⟨-, qwr, cwr⟩ := hL (Rm r) lvr
    by_cases h1 : ¬ p1 < nI 0
    · skip
      by_cases h2 : ¬ nI 256 < p1
      · skip
        obtain ⟨m, hm, rfl⟩ := nI_of2 (M := nI 256) (n := 256) (by decide) h1 (Int32.not_lt.mp h2)
        obtain ⟨F, hF⟩ := cFree Rm Rd
        refine ⟨0, nI (Ln (Rm r)), cpB B F m (fun _ => nI 0), va_up Ln F m, va_up Rm r F, Rd, Pl, Mk, G, Sz, by decide, Or.inl ⟨rfl, vCt.weak ((cb_make l D k sb L f x aW aG aR tr tg gW gG gR r (A (Rm r)) (AB (Rm r)) (Ln (Rm r)) (C (Rm r)) m hx.1 fx haW.1 faW haG.1 faG haR.1 faR hrr ehr qwr.1.1 qwr.2.1 qwr.2.2.1.1 qwr.2.2.2.1 qwr.2.2.2.2.1 hm)) (fun v9 w9 hp9 => ?_)⟩, fun o Kp th => ⟨_, fun pl => (by have q9 := (mm_make0 l D k o pl sb B Ln Rm Rd Pl Mk G Sz Kp th r m F hrr hm hF hRm hRd); rw [cpB_z] at q9; exact q9)⟩⟩
        obtain ⟨q9, qb9, L1, f1, hq9, hqb9, hk1, fW1, hqL, fq9, hqbL, fqb9, rfl, rfl⟩ := hp9
        exact ⟨_, _, rfl, rfl, (fun a ha => ⟨(hk1 a ha).1, fun hz => (hk1 a ha).2 (fun e => haW.2 (e ▸ hz))⟩), _, _, _, _, _, _, _, _, _, _, _, _, _, _, _, _, (cI.anew hI hrr hF.1 hF.2.1 hZ hq9 hqb9 hk1 fW1 hqL fq9 hqbL fqb9 hm (fun _ => rfl) (fun j hj => (cpB_in (s := fun _ => nI 0) hj).symm) (fun b hb j => cpB_out hb j) (cpB_lb hM.2 (fun _ _ => rfl)))⟩
      · skip
        exact ⟨2, nI 0, B, Ln, Rm, Rd, Pl, Mk, G, Sz, by decide, Or.inr ⟨by decide, (ct_make2b l D k sb L f x aW aG aR tr tg gW gG gR r (A (Rm r)) (AB (Rm r)) (Ln (Rm r)) (C (Rm r)) p1 hl hx.1 fx haW.1 faW haG.1 faG haR.1 faR hrr ehr qwr.1.1 qwr.2.1 qwr.2.2.1.1 qwr.2.2.2.1 qwr.2.2.2.2.1 (Int32.not_lt.mp h1) (Classical.not_not.mp h2)), h0⟩, fun o Kp th => ⟨Kp, fun pl => (mm_make2b l D k o pl sb B Ln Rm Rd Pl Mk G Sz Kp th r p1 hrr (Int32.not_lt.mp h1) (Classical.not_not.mp h2))⟩⟩
    · skip
      exact ⟨2, nI 0, B, Ln, Rm, Rd, Pl, Mk, G, Sz, by decide, Or.inr ⟨by decide, (ct_make2a l D k sb L f x aW aG aR tr tg gW gG gR r (A (Rm r)) (AB (Rm r)) (Ln (Rm r)) (C (Rm r)) p1 hl hx.1 fx haW.1 faW haG.1 faG haR.1 faR hrr ehr qwr.1.1 qwr.2.1 qwr.2.2.1.1 qwr.2.2.2.1 qwr.2.2.2.2.1 (Classical.not_not.mp h1)), h0⟩, fun o Kp th => ⟨Kp, fun pl => (mm_make2a l D k o pl sb B Ln Rm Rd Pl Mk G Sz Kp th r p1 hrr (Classical.not_not.mp h1))⟩⟩
  · skip
    exact ⟨1, nI 0, B, Ln, Rm, Rd, Pl, Mk, G, Sz, by decide, Or.inr ⟨by decide, (ct_make1 l D k sb L f x aW aG aR tr tg gW gG gR p0 p1 hl hx.1 fx haW.1 faW haG.1 faG haR.1 faR hvr), h0⟩, fun o Kp th => ⟨Kp, fun pl => (mm_make1 l D k o pl sb B Ln Rm Rd Pl Mk G Sz Kp th p0 p1 hvr)⟩⟩
set_option maxHeartbeats 4000000 in
theorem cl_lend (l : Launch) (D : va_G) (k : Nat → ClassId) (sb : Nat) (L : List Nat) (f : Nat → va_E) (Z : Nat → Prop) (x : Nat) (B : Nat → Nat → Int32) (Ln Rm : Nat → Nat) (Rd : Nat → Option Nat) (Pl Mk : Nat → Nat) (G : Nat → Nat → Int32) (Sz : Nat → Nat) (hl : l.stackTraces = false) (h : cInv k L f Z x B Ln Rm Rd Pl Mk G Sz) (hZ : ∀ a, Z a → a ∈ L) (p0 : Int32) (p1 : Int32) : ∃ (kk : Nat) (v : Int32) (B' : Nat → Nat → Int32) (Ln' Rm' : Nat → Nat) (Rd' : Nat → Option Nat) (Pl' Mk' : Nat → Nat) (G' : Nat → Nat → Int32) (Sz' : Nat → Nat), kk ≤ 1 ∧ ((kk = 0 ∧ vCt l yX3_lend cX3_lend 5 (some .int) 10 152 0 0 D vCl (vTy k) sb [.ref x, .int p0, .int p1] (va_pl L f) (kPost k L f Z x (.int v) B' Ln' Rm' Rd' Pl' Mk' G' Sz')) ∨ (0 < kk ∧ vCtX l yX3_lend cX3_lend 5 (some .int) 10 152 1 6 D vCl (vTy k) sb [.ref x, .int p0, .int p1] (va_pl L f) (["java/lang/IndexOutOfBoundsException"].getD (kk - 1) "") ∧ cInv k L f Z x B' Ln' Rm' Rd' Pl' Mk' G' Sz')) ∧ ∀ (o : Nat → Nat) (Kp : Nat → Int32) (th : Int32), ∃ Kp' : Nat → Int32, ∀ pl : va_W, vCt l yX4_lend cX4_lend 4 (some .int) 1 21 0 0 D vCl (vTy k) sb [.ref (o 0), .int p0, .int p1] (mW k o pl B Ln Rm Rd Pl Mk G Sz Kp th) (vDet (some (.int v)) (mW k o pl B' Ln' Rm' Rd' Pl' Mk' G' Sz' Kp' (nI kk))) := by
  have h0 := h
  obtain ⟨aW, aG, aR, tr, tg, gW, gG, gR, A, AB, U, UR, UB, R, C, GU, hI⟩ := h
  obtain ⟨⟨hx, fx, haW, faW, haG, faG, haR, faR⟩, hRo, hL, hJ, hG, hU, hQ, hQ1, hT, hV, hM⟩ := id hI
  have hRm : ∀ r, r < 4 → Rm r < 8 := fun r hr => (hRo r hr).1
  have hRd : ∀ g, g < 3 → ∀ b, Rd g = some b → b < 8 := fun g hg b e => (hL b (Or.inr ⟨g, hg, e⟩)).1
  by_cases hvr : vRow p0
  · obtain ⟨r, hrr, rfl⟩ := vRow_of hvr
    have ehr := (hRo r hrr).2
    have lvr : mLive Rm Rd (Rm r) := Or.inl ⟨r, hrr, rfl⟩
    obtain ⟨-, qwr, cwr⟩ := hL (Rm r) lvr
    by_cases hvu : vRow p1
    · obtain ⟨u, hru, rfl⟩ := vRow_of hvu
      have ehu := (hRo u hru).2
      have lvu : mLive Rm Rd (Rm u) := Or.inl ⟨u, hru, rfl⟩
      obtain ⟨-, qwu, cwu⟩ := hL (Rm u) lvu
      refine ⟨0, nI (Ln (Rm u)), B, Ln, va_up Rm u (Rm r), Rd, Pl, Mk, G, Sz, by decide, Or.inl ⟨rfl, vCt.weak ((cb_lend l D k sb L f x aW aG aR tr tg gW gG gR r (A (Rm r)) (AB (Rm r)) (Ln (Rm r)) (C (Rm r)) u (A (Rm u)) (AB (Rm u)) (Ln (Rm u)) (C (Rm u)) hx.1 fx haW.1 faW haG.1 faG haR.1 faR hrr ehr qwr.1.1 qwr.2.1 qwr.2.2.1.1 qwr.2.2.2.1 qwr.2.2.2.2.1 hru ehu qwu.1.1 qwu.2.1 qwu.2.2.1.1 qwu.2.2.2.1 qwu.2.2.2.2.1)) (fun v9 w9 hp9 => ?_)⟩, fun o Kp th => ⟨_, fun pl => (mm_lend0 l D k o pl sb B Ln Rm Rd Pl Mk G Sz Kp th r u hrr hru hRm)⟩⟩
      obtain ⟨rfl, rfl⟩ := hp9
      exact ⟨_, _, rfl, rfl, (kKp.rf.up haW.2), _, _, _, _, _, _, _, _, _, _, _, _, _, _, _, _, (hI.lent hrr hru (fun t _ n9 => va_up_nq _ n9) (va_up_eq _ _ _))⟩
    · skip
      exact ⟨1, nI 0, B, Ln, Rm, Rd, Pl, Mk, G, Sz, by decide, Or.inr ⟨by decide, (ct_lend2 l D k sb L f x aW aG aR tr tg gW gG gR r (A (Rm r)) (AB (Rm r)) (Ln (Rm r)) (C (Rm r)) p1 hl hx.1 fx haW.1 faW haG.1 faG haR.1 faR hrr ehr qwr.1.1 qwr.2.1 qwr.2.2.1.1 qwr.2.2.2.1 qwr.2.2.2.2.1 hvu), h0⟩, fun o Kp th => ⟨Kp, fun pl => (mm_lend1b l D k o pl sb B Ln Rm Rd Pl Mk G Sz Kp th r p1 hrr hvu)⟩⟩
  · skip
    exact ⟨1, nI 0, B, Ln, Rm, Rd, Pl, Mk, G, Sz, by decide, Or.inr ⟨by decide, (ct_lend1 l D k sb L f x aW aG aR tr tg gW gG gR p0 p1 hl hx.1 fx haW.1 faW haG.1 faG haR.1 faR hvr), h0⟩, fun o Kp th => ⟨Kp, fun pl => (mm_lend1a l D k o pl sb B Ln Rm Rd Pl Mk G Sz Kp th p0 p1 hvr)⟩⟩
set_option maxHeartbeats 4000000 in
theorem cl_length (l : Launch) (D : va_G) (k : Nat → ClassId) (sb : Nat) (L : List Nat) (f : Nat → va_E) (Z : Nat → Prop) (x : Nat) (B : Nat → Nat → Int32) (Ln Rm : Nat → Nat) (Rd : Nat → Option Nat) (Pl Mk : Nat → Nat) (G : Nat → Nat → Int32) (Sz : Nat → Nat) (hl : l.stackTraces = false) (h : cInv k L f Z x B Ln Rm Rd Pl Mk G Sz) (hZ : ∀ a, Z a → a ∈ L) (p0 : Int32) : ∃ (kk : Nat) (v : Int32) (B' : Nat → Nat → Int32) (Ln' Rm' : Nat → Nat) (Rd' : Nat → Option Nat) (Pl' Mk' : Nat → Nat) (G' : Nat → Nat → Int32) (Sz' : Nat → Nat), kk ≤ 1 ∧ ((kk = 0 ∧ vCt l yX3_length cX3_length 2 (some .int) 10 152 0 0 D vCl (vTy k) sb [.ref x, .int p0] (va_pl L f) (kPost k L f Z x (.int v) B' Ln' Rm' Rd' Pl' Mk' G' Sz')) ∨ (0 < kk ∧ vCtX l yX3_length cX3_length 2 (some .int) 10 152 1 6 D vCl (vTy k) sb [.ref x, .int p0] (va_pl L f) (["java/lang/IndexOutOfBoundsException"].getD (kk - 1) "") ∧ cInv k L f Z x B' Ln' Rm' Rd' Pl' Mk' G' Sz')) ∧ ∀ (o : Nat → Nat) (Kp : Nat → Int32) (th : Int32), ∃ Kp' : Nat → Int32, ∀ pl : va_W, vCt l yX4_length cX4_length 2 (some .int) 1 21 0 0 D vCl (vTy k) sb [.ref (o 0), .int p0] (mW k o pl B Ln Rm Rd Pl Mk G Sz Kp th) (vDet (some (.int v)) (mW k o pl B' Ln' Rm' Rd' Pl' Mk' G' Sz' Kp' (nI kk))) := by
  have h0 := h
  obtain ⟨aW, aG, aR, tr, tg, gW, gG, gR, A, AB, U, UR, UB, R, C, GU, hI⟩ := h
  obtain ⟨⟨hx, fx, haW, faW, haG, faG, haR, faR⟩, hRo, hL, hJ, hG, hU, hQ, hQ1, hT, hV, hM⟩ := id hI
  have hRm : ∀ r, r < 4 → Rm r < 8 := fun r hr => (hRo r hr).1
  have hRd : ∀ g, g < 3 → ∀ b, Rd g = some b → b < 8 := fun g hg b e => (hL b (Or.inr ⟨g, hg, e⟩)).1
  by_cases hvr : vRow p0
  · obtain ⟨r, hrr, rfl⟩ := vRow_of hvr
    have ehr := (hRo r hrr).2
    have lvr : mLive Rm Rd (Rm r) := Or.inl ⟨r, hrr, rfl⟩
    obtain ⟨-, qwr, cwr⟩ := hL (Rm r) lvr
    refine ⟨0, nI (Ln (Rm r)), B, Ln, Rm, Rd, Pl, Mk, G, Sz, by decide, Or.inl ⟨rfl, vCt.weak ((cb_length l D k sb L f x aW aG aR tr tg gW gG gR r (A (Rm r)) (AB (Rm r)) (Ln (Rm r)) (C (Rm r)) hx.1 fx haW.1 faW haG.1 faG haR.1 faR hrr ehr qwr.1.1 qwr.2.1 qwr.2.2.1.1 qwr.2.2.2.1 qwr.2.2.2.2.1)) (fun v9 w9 hp9 => ?_)⟩, fun o Kp th => ⟨_, fun pl => (mm_length0 l D k o pl sb B Ln Rm Rd Pl Mk G Sz Kp th r hrr hRm)⟩⟩
    obtain ⟨rfl, rfl⟩ := hp9
    exact ⟨_, _, rfl, rfl, kKp.rf, _, _, _, _, _, _, _, _, _, _, _, _, _, _, _, _, hI⟩
  · skip
    exact ⟨1, nI 0, B, Ln, Rm, Rd, Pl, Mk, G, Sz, by decide, Or.inr ⟨by decide, (ct_length1 l D k sb L f x aW aG aR tr tg gW gG gR p0 hl hx.1 fx haW.1 faW haG.1 faG haR.1 faR hvr), h0⟩, fun o Kp th => ⟨Kp, fun pl => (mm_length1 l D k o pl sb B Ln Rm Rd Pl Mk G Sz Kp th p0 hvr)⟩⟩
set_option maxHeartbeats 4000000 in
theorem cl_get (l : Launch) (D : va_G) (k : Nat → ClassId) (sb : Nat) (L : List Nat) (f : Nat → va_E) (Z : Nat → Prop) (x : Nat) (B : Nat → Nat → Int32) (Ln Rm : Nat → Nat) (Rd : Nat → Option Nat) (Pl Mk : Nat → Nat) (G : Nat → Nat → Int32) (Sz : Nat → Nat) (hl : l.stackTraces = false) (h : cInv k L f Z x B Ln Rm Rd Pl Mk G Sz) (hZ : ∀ a, Z a → a ∈ L) (p0 : Int32) (p1 : Int32) : ∃ (kk : Nat) (v : Int32) (B' : Nat → Nat → Int32) (Ln' Rm' : Nat → Nat) (Rd' : Nat → Option Nat) (Pl' Mk' : Nat → Nat) (G' : Nat → Nat → Int32) (Sz' : Nat → Nat), kk ≤ 1 ∧ ((kk = 0 ∧ vCt l yX3_get cX3_get 4 (some .int) 10 152 0 0 D vCl (vTy k) sb [.ref x, .int p0, .int p1] (va_pl L f) (kPost k L f Z x (.int v) B' Ln' Rm' Rd' Pl' Mk' G' Sz')) ∨ (0 < kk ∧ vCtX l yX3_get cX3_get 4 (some .int) 10 152 1 6 D vCl (vTy k) sb [.ref x, .int p0, .int p1] (va_pl L f) (["java/lang/IndexOutOfBoundsException"].getD (kk - 1) "") ∧ cInv k L f Z x B' Ln' Rm' Rd' Pl' Mk' G' Sz')) ∧ ∀ (o : Nat → Nat) (Kp : Nat → Int32) (th : Int32), ∃ Kp' : Nat → Int32, ∀ pl : va_W, vCt l yX4_get cX4_get 3 (some .int) 2 44 0 0 D vCl (vTy k) sb [.ref (o 0), .int p0, .int p1] (mW k o pl B Ln Rm Rd Pl Mk G Sz Kp th) (vDet (some (.int v)) (mW k o pl B' Ln' Rm' Rd' Pl' Mk' G' Sz' Kp' (nI kk))) := by
  have h0 := h
  obtain ⟨aW, aG, aR, tr, tg, gW, gG, gR, A, AB, U, UR, UB, R, C, GU, hI⟩ := h
  obtain ⟨⟨hx, fx, haW, faW, haG, faG, haR, faR⟩, hRo, hL, hJ, hG, hU, hQ, hQ1, hT, hV, hM⟩ := id hI
  have hRm : ∀ r, r < 4 → Rm r < 8 := fun r hr => (hRo r hr).1
  have hRd : ∀ g, g < 3 → ∀ b, Rd g = some b → b < 8 := fun g hg b e => (hL b (Or.inr ⟨g, hg, e⟩)).1
  by_cases hvr : vRow p0
  · obtain ⟨r, hrr, rfl⟩ := vRow_of hvr
    have ehr := (hRo r hrr).2
    have lvr : mLive Rm Rd (Rm r) := Or.inl ⟨r, hrr, rfl⟩
    obtain ⟨-, qwr, cwr⟩ := hL (Rm r) lvr
    by_cases hpt : vPt (Ln (Rm r)) p1 (nI 1)
    · obtain ⟨i, b1, rfl, e1, hp⟩ := hpt
      have hb1 : 1 = b1 := (nI_eq (by decide) (by have := qwr.2.2.2.2.1; omega)).mp e1
      subst hb1
      refine ⟨0, B (Rm r) i, B, Ln, Rm, Rd, Pl, Mk, G, Sz, by decide, Or.inl ⟨rfl, vCt.weak ((cb_get l D k sb L f x aW aG aR tr tg gW gG gR r (A (Rm r)) (AB (Rm r)) (Ln (Rm r)) (C (Rm r)) i hx.1 fx haW.1 faW haG.1 faG haR.1 faR hrr ehr qwr.1.1 qwr.2.1 qwr.2.2.1.1 qwr.2.2.2.1 qwr.2.2.2.2.1 hp)) (fun v9 w9 hp9 => ?_)⟩, fun o Kp th => ⟨_, fun pl => (mm_get0 l D k o pl sb B Ln Rm Rd Pl Mk G Sz Kp th r i hrr hp hRm hM.1)⟩⟩
      obtain ⟨rfl, rfl⟩ := hp9
      exact ⟨_, _, (by rw [cwr i (by omega)]), rfl, kKp.rf, _, _, _, _, _, _, _, _, _, _, _, _, _, _, _, _, hI⟩
    · skip
      exact ⟨1, nI 0, B, Ln, Rm, Rd, Pl, Mk, G, Sz, by decide, Or.inr ⟨by decide, (ct_get2 l D k sb L f x aW aG aR tr tg gW gG gR r (A (Rm r)) (AB (Rm r)) (Ln (Rm r)) (C (Rm r)) p1 hl hx.1 fx haW.1 faW haG.1 faG haR.1 faR hrr ehr qwr.1.1 qwr.2.1 qwr.2.2.1.1 qwr.2.2.2.1 qwr.2.2.2.2.1 hpt), h0⟩, fun o Kp th => ⟨Kp, fun pl => (mm_get1 l D k o pl sb B Ln Rm Rd Pl Mk G Sz Kp th (nI r) p1 hRm hM.1 (part_to hrr hpt))⟩⟩
  · skip
    exact ⟨1, nI 0, B, Ln, Rm, Rd, Pl, Mk, G, Sz, by decide, Or.inr ⟨by decide, (ct_get1 l D k sb L f x aW aG aR tr tg gW gG gR p0 p1 hl hx.1 fx haW.1 faW haG.1 faG haR.1 faR hvr), h0⟩, fun o Kp th => ⟨Kp, fun pl => (mm_get1 l D k o pl sb B Ln Rm Rd Pl Mk G Sz Kp th p0 p1 hRm hM.1 (part_no hvr))⟩⟩
set_option maxHeartbeats 4000000 in
theorem cl_put (l : Launch) (D : va_G) (k : Nat → ClassId) (sb : Nat) (L : List Nat) (f : Nat → va_E) (Z : Nat → Prop) (x : Nat) (B : Nat → Nat → Int32) (Ln Rm : Nat → Nat) (Rd : Nat → Option Nat) (Pl Mk : Nat → Nat) (G : Nat → Nat → Int32) (Sz : Nat → Nat) (hl : l.stackTraces = false) (h : cInv k L f Z x B Ln Rm Rd Pl Mk G Sz) (hZ : ∀ a, Z a → a ∈ L) (p0 : Int32) (p1 : Int32) (p2 : Int32) : ∃ (kk : Nat) (v : Int32) (B' : Nat → Nat → Int32) (Ln' Rm' : Nat → Nat) (Rd' : Nat → Option Nat) (Pl' Mk' : Nat → Nat) (G' : Nat → Nat → Int32) (Sz' : Nat → Nat), kk ≤ 1 ∧ ((kk = 0 ∧ vCt l yX3_put cX3_put 5 (some .int) 10 152 0 0 D vCl (vTy k) sb [.ref x, .int p0, .int p1, .int p2] (va_pl L f) (kPost k L f Z x (.int v) B' Ln' Rm' Rd' Pl' Mk' G' Sz')) ∨ (0 < kk ∧ vCtX l yX3_put cX3_put 5 (some .int) 10 152 1 6 D vCl (vTy k) sb [.ref x, .int p0, .int p1, .int p2] (va_pl L f) (["java/lang/IndexOutOfBoundsException"].getD (kk - 1) "") ∧ cInv k L f Z x B' Ln' Rm' Rd' Pl' Mk' G' Sz')) ∧ ∀ (o : Nat → Nat) (Kp : Nat → Int32) (th : Int32), ∃ Kp' : Nat → Int32, ∀ pl : va_W, vCt l yX4_put cX4_put 6 (some .int) 2 44 0 0 D vCl (vTy k) sb [.ref (o 0), .int p0, .int p1, .int p2] (mW k o pl B Ln Rm Rd Pl Mk G Sz Kp th) (vDet (some (.int v)) (mW k o pl B' Ln' Rm' Rd' Pl' Mk' G' Sz' Kp' (nI kk))) := by
  have h0 := h
  obtain ⟨aW, aG, aR, tr, tg, gW, gG, gR, A, AB, U, UR, UB, R, C, GU, hI⟩ := h
  obtain ⟨⟨hx, fx, haW, faW, haG, faG, haR, faR⟩, hRo, hL, hJ, hG, hU, hQ, hQ1, hT, hV, hM⟩ := id hI
  have hRm : ∀ r, r < 4 → Rm r < 8 := fun r hr => (hRo r hr).1
  have hRd : ∀ g, g < 3 → ∀ b, Rd g = some b → b < 8 := fun g hg b e => (hL b (Or.inr ⟨g, hg, e⟩)).1
  by_cases hvr : vRow p0
  · obtain ⟨r, hrr, rfl⟩ := vRow_of hvr
    have ehr := (hRo r hrr).2
    have lvr : mLive Rm Rd (Rm r) := Or.inl ⟨r, hrr, rfl⟩
    obtain ⟨-, qwr, cwr⟩ := hL (Rm r) lvr
    by_cases hpt : vPt (Ln (Rm r)) p1 (nI 1)
    · obtain ⟨i, b1, rfl, e1, hp⟩ := hpt
      have hb1 : 1 = b1 := (nI_eq (by decide) (by have := qwr.2.2.2.2.1; omega)).mp e1
      subst hb1
      refine ⟨0, B (Rm r) i, up2 B (Rm r) i (lb p2), Ln, Rm, Rd, Pl, Mk, G, Sz, by decide, Or.inl ⟨rfl, vCt.weak ((cb_put l D k sb L f x aW aG aR tr tg gW gG gR r (A (Rm r)) (AB (Rm r)) (Ln (Rm r)) (C (Rm r)) i p2 hx.1 fx haW.1 faW haG.1 faG haR.1 faR hrr ehr qwr.1.1 qwr.2.1 qwr.2.2.1.1 qwr.2.2.2.1 qwr.2.2.2.2.1 hp)) (fun v9 w9 hp9 => ?_)⟩, fun o Kp th => ⟨_, fun pl => (mm_put0 l D k o pl sb B Ln Rm Rd Pl Mk G Sz Kp th r i p2 hrr hp hRm hM.1)⟩⟩
      obtain ⟨rfl, rfl⟩ := hp9
      exact ⟨_, _, (by rw [cwr i (by omega)]), rfl, (kKp.rf.up qwr.2.2.1.2), _, _, _, _, _, _, _, _, _, _, _, _, _, _, _, _, (cI.row hI lvr (g' := upd (C (Rm r)) i (lb p2)) (fun t _ n9 => va_up_nq _ n9) (va_up_eq _ _ _) (upd_lb qwr.2.2.2.2.2 (lb_lb' p2)) (fun j hj => upd_up2 (fun j hj _ => cwr j hj) hj) (fun b hb j => up2_out hb j) (up2_lb hM.2 (lb_lb' p2)))⟩
    · skip
      exact ⟨1, nI 0, B, Ln, Rm, Rd, Pl, Mk, G, Sz, by decide, Or.inr ⟨by decide, (ct_put2 l D k sb L f x aW aG aR tr tg gW gG gR r (A (Rm r)) (AB (Rm r)) (Ln (Rm r)) (C (Rm r)) p1 p2 hl hx.1 fx haW.1 faW haG.1 faG haR.1 faR hrr ehr qwr.1.1 qwr.2.1 qwr.2.2.1.1 qwr.2.2.2.1 qwr.2.2.2.2.1 hpt), h0⟩, fun o Kp th => ⟨Kp, fun pl => (mm_put1 l D k o pl sb B Ln Rm Rd Pl Mk G Sz Kp th (nI r) p1 p2 hRm hM.1 (part_to hrr hpt))⟩⟩
  · skip
    exact ⟨1, nI 0, B, Ln, Rm, Rd, Pl, Mk, G, Sz, by decide, Or.inr ⟨by decide, (ct_put1 l D k sb L f x aW aG aR tr tg gW gG gR p0 p1 p2 hl hx.1 fx haW.1 faW haG.1 faG haR.1 faR hvr), h0⟩, fun o Kp th => ⟨Kp, fun pl => (mm_put1 l D k o pl sb B Ln Rm Rd Pl Mk G Sz Kp th p0 p1 p2 hRm hM.1 (part_no hvr))⟩⟩
set_option maxHeartbeats 4000000 in
theorem cl_fill (l : Launch) (D : va_G) (k : Nat → ClassId) (sb : Nat) (L : List Nat) (f : Nat → va_E) (Z : Nat → Prop) (x : Nat) (B : Nat → Nat → Int32) (Ln Rm : Nat → Nat) (Rd : Nat → Option Nat) (Pl Mk : Nat → Nat) (G : Nat → Nat → Int32) (Sz : Nat → Nat) (hl : l.stackTraces = false) (h : cInv k L f Z x B Ln Rm Rd Pl Mk G Sz) (hZ : ∀ a, Z a → a ∈ L) (p0 : Int32) (p1 : Int32) (p2 : Int32) (p3 : Int32) (p4 : Int32) : ∃ (kk : Nat) (v : Int32) (B' : Nat → Nat → Int32) (Ln' Rm' : Nat → Nat) (Rd' : Nat → Option Nat) (Pl' Mk' : Nat → Nat) (G' : Nat → Nat → Int32) (Sz' : Nat → Nat), kk ≤ 1 ∧ ((kk = 0 ∧ vCt l yX3_fill cX3_fill 10 (some .int) 10 152 0 0 D vCl (vTy k) sb [.ref x, .int p0, .int p1, .int p2, .int p3, .int p4] (va_pl L f) (kPost k L f Z x (.int v) B' Ln' Rm' Rd' Pl' Mk' G' Sz')) ∨ (0 < kk ∧ vCtX l yX3_fill cX3_fill 10 (some .int) 10 152 1 6 D vCl (vTy k) sb [.ref x, .int p0, .int p1, .int p2, .int p3, .int p4] (va_pl L f) (["java/lang/IndexOutOfBoundsException"].getD (kk - 1) "") ∧ cInv k L f Z x B' Ln' Rm' Rd' Pl' Mk' G' Sz')) ∧ ∀ (o : Nat → Nat) (Kp : Nat → Int32) (th : Int32), ∃ Kp' : Nat → Int32, ∀ pl : va_W, vCt l yX4_fill cX4_fill 9 (some .int) 2 44 0 0 D vCl (vTy k) sb [.ref (o 0), .int p0, .int p1, .int p2, .int p3, .int p4] (mW k o pl B Ln Rm Rd Pl Mk G Sz Kp th) (vDet (some (.int v)) (mW k o pl B' Ln' Rm' Rd' Pl' Mk' G' Sz' Kp' (nI kk))) := by
  have h0 := h
  obtain ⟨aW, aG, aR, tr, tg, gW, gG, gR, A, AB, U, UR, UB, R, C, GU, hI⟩ := h
  obtain ⟨⟨hx, fx, haW, faW, haG, faG, haR, faR⟩, hRo, hL, hJ, hG, hU, hQ, hQ1, hT, hV, hM⟩ := id hI
  have hRm : ∀ r, r < 4 → Rm r < 8 := fun r hr => (hRo r hr).1
  have hRd : ∀ g, g < 3 → ∀ b, Rd g = some b → b < 8 := fun g hg b e => (hL b (Or.inr ⟨g, hg, e⟩)).1
  by_cases hvr : vRow p0
  · obtain ⟨r, hrr, rfl⟩ := vRow_of hvr
    have ehr := (hRo r hrr).2
    have lvr : mLive Rm Rd (Rm r) := Or.inl ⟨r, hrr, rfl⟩
    obtain ⟨-, qwr, cwr⟩ := hL (Rm r) lvr
    by_cases hpt : vPt (Ln (Rm r)) p1 p2
    · obtain ⟨a, m, rfl, rfl, hp⟩ := hpt
      refine ⟨0, smB (B (Rm r)) a m, fillB B (Rm r) a m p3 p4, Ln, Rm, Rd, Pl, Mk, G, Sz, by decide, Or.inl ⟨rfl, vCt.weak ((cb_fill l D k sb L f x aW aG aR tr tg gW gG gR r (A (Rm r)) (AB (Rm r)) (Ln (Rm r)) (C (Rm r)) a m p3 p4 hx.1 fx haW.1 faW haG.1 faG haR.1 faR hrr ehr qwr.1.1 qwr.2.1 qwr.2.2.1.1 qwr.2.2.2.1 qwr.2.2.2.2.1 hp)) (fun v9 w9 hp9 => ?_)⟩, fun o Kp th => ⟨_, fun pl => (mm_fill0 l D k o pl sb B Ln Rm Rd Pl Mk G Sz Kp th r a m p3 p4 hrr hp hRm hM.1)⟩⟩
      obtain ⟨rfl, rfl⟩ := hp9
      exact ⟨_, _, (by rw [smB_congr (fun j hj => cwr (a + j) (by omega))]), rfl, (kKp.rf.up qwr.2.2.1.2), _, _, _, _, _, _, _, _, _, _, _, _, _, _, _, _, (cI.row hI lvr (g' := fillC (C (Rm r)) a m p3 p4) (fun t _ n9 => va_up_nq _ n9) (va_up_eq _ _ _) (lb_fillC qwr.2.2.2.2.2 a m p3 p4) (fun j hj => fillC_B cwr hj) (fun b hb j => fillB_out hb j) (fillB_lb hM.2))⟩
    · skip
      exact ⟨1, nI 0, B, Ln, Rm, Rd, Pl, Mk, G, Sz, by decide, Or.inr ⟨by decide, (ct_fill2 l D k sb L f x aW aG aR tr tg gW gG gR r (A (Rm r)) (AB (Rm r)) (Ln (Rm r)) (C (Rm r)) p1 p2 p3 p4 hl hx.1 fx haW.1 faW haG.1 faG haR.1 faR hrr ehr qwr.1.1 qwr.2.1 qwr.2.2.1.1 qwr.2.2.2.1 qwr.2.2.2.2.1 hpt), h0⟩, fun o Kp th => ⟨Kp, fun pl => (mm_fill1 l D k o pl sb B Ln Rm Rd Pl Mk G Sz Kp th (nI r) p1 p2 p3 p4 hRm hM.1 (part_to hrr hpt))⟩⟩
  · skip
    exact ⟨1, nI 0, B, Ln, Rm, Rd, Pl, Mk, G, Sz, by decide, Or.inr ⟨by decide, (ct_fill1 l D k sb L f x aW aG aR tr tg gW gG gR p0 p1 p2 p3 p4 hl hx.1 fx haW.1 faW haG.1 faG haR.1 faR hvr), h0⟩, fun o Kp th => ⟨Kp, fun pl => (mm_fill1 l D k o pl sb B Ln Rm Rd Pl Mk G Sz Kp th p0 p1 p2 p3 p4 hRm hM.1 (part_no hvr))⟩⟩
set_option maxHeartbeats 4000000 in
theorem cl_isLike (l : Launch) (D : va_G) (k : Nat → ClassId) (sb : Nat) (L : List Nat) (f : Nat → va_E) (Z : Nat → Prop) (x : Nat) (B : Nat → Nat → Int32) (Ln Rm : Nat → Nat) (Rd : Nat → Option Nat) (Pl Mk : Nat → Nat) (G : Nat → Nat → Int32) (Sz : Nat → Nat) (hl : l.stackTraces = false) (h : cInv k L f Z x B Ln Rm Rd Pl Mk G Sz) (hZ : ∀ a, Z a → a ∈ L) (p0 : Int32) (p1 : Int32) : ∃ (kk : Nat) (v : Int32) (B' : Nat → Nat → Int32) (Ln' Rm' : Nat → Nat) (Rd' : Nat → Option Nat) (Pl' Mk' : Nat → Nat) (G' : Nat → Nat → Int32) (Sz' : Nat → Nat), kk ≤ 1 ∧ ((kk = 0 ∧ vCt l yX3_isLike cX3_isLike 6 (some .boolean) 10 152 0 0 D vCl (vTy k) sb [.ref x, .int p0, .int p1] (va_pl L f) (kPost k L f Z x (.int v) B' Ln' Rm' Rd' Pl' Mk' G' Sz')) ∨ (0 < kk ∧ vCtX l yX3_isLike cX3_isLike 6 (some .boolean) 10 152 1 6 D vCl (vTy k) sb [.ref x, .int p0, .int p1] (va_pl L f) (["java/lang/IndexOutOfBoundsException"].getD (kk - 1) "") ∧ cInv k L f Z x B' Ln' Rm' Rd' Pl' Mk' G' Sz')) ∧ ∀ (o : Nat → Nat) (Kp : Nat → Int32) (th : Int32), ∃ Kp' : Nat → Int32, ∀ pl : va_W, vCt l yX4_isLike cX4_isLike 5 (some .boolean) 1 21 0 0 D vCl (vTy k) sb [.ref (o 0), .int p0, .int p1] (mW k o pl B Ln Rm Rd Pl Mk G Sz Kp th) (vDet (some (.int v)) (mW k o pl B' Ln' Rm' Rd' Pl' Mk' G' Sz' Kp' (nI kk))) := by
  have h0 := h
  obtain ⟨aW, aG, aR, tr, tg, gW, gG, gR, A, AB, U, UR, UB, R, C, GU, hI⟩ := h
  obtain ⟨⟨hx, fx, haW, faW, haG, faG, haR, faR⟩, hRo, hL, hJ, hG, hU, hQ, hQ1, hT, hV, hM⟩ := id hI
  have hRm : ∀ r, r < 4 → Rm r < 8 := fun r hr => (hRo r hr).1
  have hRd : ∀ g, g < 3 → ∀ b, Rd g = some b → b < 8 := fun g hg b e => (hL b (Or.inr ⟨g, hg, e⟩)).1
  by_cases hvr : vRow p0
  · obtain ⟨r, hrr, rfl⟩ := vRow_of hvr
    have ehr := (hRo r hrr).2
    have lvr : mLive Rm Rd (Rm r) := Or.inl ⟨r, hrr, rfl⟩
    obtain ⟨-, qwr, cwr⟩ := hL (Rm r) lvr
    by_cases hvu : vRow p1
    · obtain ⟨u, hru, rfl⟩ := vRow_of hvu
      have ehu := (hRo u hru).2
      have lvu : mLive Rm Rd (Rm u) := Or.inl ⟨u, hru, rfl⟩
      obtain ⟨-, qwu, cwu⟩ := hL (Rm u) lvu
      by_cases hn : Ln (Rm r) = Ln (Rm u)
      · skip
        obtain ⟨d, hd, hb, hc⟩ := firstP (fun j => ¬ C (Rm r) j = C (Rm u) j) (Ln (Rm r))
        rcases hc with hc | ⟨hc, hne⟩
        · have hall : ∀ j, j < Ln (Rm r) → C (Rm r) j = C (Rm u) j := fun j hj => Classical.not_not.mp (hb j (by omega))
          refine ⟨0, nI 1, B, Ln, Rm, Rd, Pl, Mk, G, Sz, by decide, Or.inl ⟨rfl, vCt.weak ((cb_isLikeT l D k sb L f x aW aG aR tr tg gW gG gR r (A (Rm r)) (AB (Rm r)) (Ln (Rm r)) (C (Rm r)) u (A (Rm u)) (AB (Rm u)) (Ln (Rm u)) (C (Rm u)) hx.1 fx haW.1 faW haG.1 faG haR.1 faR hrr ehr qwr.1.1 qwr.2.1 qwr.2.2.1.1 qwr.2.2.2.1 qwr.2.2.2.2.1 hru ehu qwu.1.1 qwu.2.1 qwu.2.2.1.1 qwu.2.2.2.1 qwu.2.2.2.2.1 hn hall)) (fun v9 w9 hp9 => ?_)⟩, fun o Kp th => ⟨_, fun pl => (by have q9 := (mm_isLike0b l D k o pl sb B Ln Rm Rd Pl Mk G Sz Kp th r u hrr hru hRm hM.1 hn); rw [eqB_tt (fun j hj => (cwr j hj).symm.trans ((hall j hj).trans (cwu j (by omega))))] at q9; exact q9)⟩⟩
          obtain ⟨rfl, rfl⟩ := hp9
          exact ⟨_, _, rfl, rfl, kKp.rf, _, _, _, _, _, _, _, _, _, _, _, _, _, _, _, _, hI⟩
        · skip
          refine ⟨0, nI 0, B, Ln, Rm, Rd, Pl, Mk, G, Sz, by decide, Or.inl ⟨rfl, vCt.weak ((cb_isLikeF l D k sb L f x aW aG aR tr tg gW gG gR r (A (Rm r)) (AB (Rm r)) (Ln (Rm r)) (C (Rm r)) u (A (Rm u)) (AB (Rm u)) (Ln (Rm u)) (C (Rm u)) d hx.1 fx haW.1 faW haG.1 faG haR.1 faR hrr ehr qwr.1.1 qwr.2.1 qwr.2.2.1.1 qwr.2.2.2.1 qwr.2.2.2.2.1 hru ehu qwu.1.1 qwu.2.1 qwu.2.2.1.1 qwu.2.2.2.1 qwu.2.2.2.2.1 hn hc (fun j hj => Classical.not_not.mp (hb j hj)) hne)) (fun v9 w9 hp9 => ?_)⟩, fun o Kp th => ⟨_, fun pl => (by have q9 := (mm_isLike0b l D k o pl sb B Ln Rm Rd Pl Mk G Sz Kp th r u hrr hru hRm hM.1 hn); rw [eqB_ff hc (by rw [← cwr d hc, ← cwu d (by omega)]; exact hne)] at q9; exact q9)⟩⟩
          obtain ⟨rfl, rfl⟩ := hp9
          exact ⟨_, _, rfl, rfl, kKp.rf, _, _, _, _, _, _, _, _, _, _, _, _, _, _, _, _, hI⟩
      · skip
        refine ⟨0, nI 0, B, Ln, Rm, Rd, Pl, Mk, G, Sz, by decide, Or.inl ⟨rfl, vCt.weak ((cb_isLikeA l D k sb L f x aW aG aR tr tg gW gG gR r (A (Rm r)) (AB (Rm r)) (Ln (Rm r)) (C (Rm r)) u (A (Rm u)) (AB (Rm u)) (Ln (Rm u)) (C (Rm u)) hx.1 fx haW.1 faW haG.1 faG haR.1 faR hrr ehr qwr.1.1 qwr.2.1 qwr.2.2.1.1 qwr.2.2.2.1 qwr.2.2.2.2.1 hru ehu qwu.1.1 qwu.2.1 qwu.2.2.1.1 qwu.2.2.2.1 qwu.2.2.2.2.1 hn)) (fun v9 w9 hp9 => ?_)⟩, fun o Kp th => ⟨_, fun pl => (mm_isLike0a l D k o pl sb B Ln Rm Rd Pl Mk G Sz Kp th r u hrr hru hRm hM.1 hn)⟩⟩
        obtain ⟨rfl, rfl⟩ := hp9
        exact ⟨_, _, rfl, rfl, kKp.rf, _, _, _, _, _, _, _, _, _, _, _, _, _, _, _, _, hI⟩
    · skip
      exact ⟨1, nI 0, B, Ln, Rm, Rd, Pl, Mk, G, Sz, by decide, Or.inr ⟨by decide, (ct_isLike2 l D k sb L f x aW aG aR tr tg gW gG gR r (A (Rm r)) (AB (Rm r)) (Ln (Rm r)) (C (Rm r)) p1 hl hx.1 fx haW.1 faW haG.1 faG haR.1 faR hrr ehr qwr.1.1 qwr.2.1 qwr.2.2.1.1 qwr.2.2.2.1 qwr.2.2.2.2.1 hvu), h0⟩, fun o Kp th => ⟨Kp, fun pl => (mm_isLike1b l D k o pl sb B Ln Rm Rd Pl Mk G Sz Kp th r p1 hrr hvu)⟩⟩
  · skip
    exact ⟨1, nI 0, B, Ln, Rm, Rd, Pl, Mk, G, Sz, by decide, Or.inr ⟨by decide, (ct_isLike1 l D k sb L f x aW aG aR tr tg gW gG gR p0 p1 hl hx.1 fx haW.1 faW haG.1 faG haR.1 faR hvr), h0⟩, fun o Kp th => ⟨Kp, fun pl => (mm_isLike1a l D k o pl sb B Ln Rm Rd Pl Mk G Sz Kp th p0 p1 hvr)⟩⟩
set_option maxHeartbeats 4000000 in
theorem cl_write (l : Launch) (D : va_G) (k : Nat → ClassId) (sb : Nat) (L : List Nat) (f : Nat → va_E) (Z : Nat → Prop) (x : Nat) (B : Nat → Nat → Int32) (Ln Rm : Nat → Nat) (Rd : Nat → Option Nat) (Pl Mk : Nat → Nat) (G : Nat → Nat → Int32) (Sz : Nat → Nat) (hl : l.stackTraces = false) (h : cInv k L f Z x B Ln Rm Rd Pl Mk G Sz) (hZ : ∀ a, Z a → a ∈ L) (p0 : Int32) (p1 : Int32) : ∃ (kk : Nat) (v : Int32) (B' : Nat → Nat → Int32) (Ln' Rm' : Nat → Nat) (Rd' : Nat → Option Nat) (Pl' Mk' : Nat → Nat) (G' : Nat → Nat → Int32) (Sz' : Nat → Nat), kk ≤ 2 ∧ ((kk = 0 ∧ vCt l yX3_write cX3_write 4 (some .int) 9 131 0 0 D vCl (vTy k) sb [.ref x, .int p0, .int p1] (va_pl L f) (kPost k L f Z x (.int v) B' Ln' Rm' Rd' Pl' Mk' G' Sz')) ∨ (0 < kk ∧ vCtX l yX3_write cX3_write 4 (some .int) 9 131 1 6 D vCl (vTy k) sb [.ref x, .int p0, .int p1] (va_pl L f) (["java/lang/IndexOutOfBoundsException", "java/lang/IllegalStateException"].getD (kk - 1) "") ∧ cInv k L f Z x B' Ln' Rm' Rd' Pl' Mk' G' Sz')) ∧ ∀ (o : Nat → Nat) (Kp : Nat → Int32) (th : Int32), ∃ Kp' : Nat → Int32, ∀ pl : va_W, vCt l yX4_write cX4_write 3 (some .int) 2 44 0 0 D vCl (vTy k) sb [.ref (o 0), .int p0, .int p1] (mW k o pl B Ln Rm Rd Pl Mk G Sz Kp th) (vDet (some (.int v)) (mW k o pl B' Ln' Rm' Rd' Pl' Mk' G' Sz' Kp' (nI kk))) := by
  have h0 := h
  obtain ⟨aW, aG, aR, tr, tg, gW, gG, gR, A, AB, U, UR, UB, R, C, GU, hI⟩ := h
  obtain ⟨⟨hx, fx, haW, faW, haG, faG, haR, faR⟩, hRo, hL, hJ, hG, hU, hQ, hQ1, hT, hV, hM⟩ := id hI
  have hRm : ∀ r, r < 4 → Rm r < 8 := fun r hr => (hRo r hr).1
  have hRd : ∀ g, g < 3 → ∀ b, Rd g = some b → b < 8 := fun g hg b e => (hL b (Or.inr ⟨g, hg, e⟩)).1
  by_cases hvy : vOther p0
  · obtain ⟨y, hyy, rfl⟩ := vOther_of hvy
    obtain ⟨euy, ggy, cgy, ngy⟩ := hG y hyy
    by_cases hs : Sz y + 1 ≤ 256
    · skip
      refine ⟨0, nI (Sz y + 1), B, Ln, Rm, Rd, Pl, Mk, up2 G y (Sz y) (lb p1), va_up Sz y (Sz y + 1), by decide, Or.inl ⟨rfl, vCt.weak ((cb_write l D k sb L f x aW aG aR tr tg gW gG gR y (U y) (UR y) (UB y) (Sz y) (GU y) p1 hx.1 fx haW.1 faW haG.1 faG haR.1 faR hyy euy ggy.1.1 ggy.2.1 ggy.2.2.1.1.1 ggy.2.2.1.2.1 ggy.2.2.1.2.2.1.1 ggy.2.2.1.2.2.2.1 ggy.2.2.2 hs)) (fun v9 w9 hp9 => ?_)⟩, fun o Kp th => ⟨_, fun pl => (mm_write0 l D k o pl sb B Ln Rm Rd Pl Mk G Sz Kp th y p1 hyy hs)⟩⟩
      obtain ⟨rfl, rfl⟩ := hp9
      exact ⟨_, _, rfl, rfl, ((kKp.rf.up ggy.2.2.1.2.2.1.2).up ggy.1.2), _, _, _, _, _, _, _, _, _, _, _, _, _, _, _, _, (cI.gat hI hyy (fun t _ n1 n2 => (va_up_nq _ n1).trans (va_up_nq _ n2)) (va_up_eq _ _ _) ((va_up_nq _ (ne_of ggy.2.2.1.2.2.2.1 ggy.2.1 (by simp))).trans (va_up_eq _ _ _)) hs (upd_lb ggy.2.2.1.2.2.2.2.2 (lb_lb' p1)) (fun i hi => upd_up2 (n := Sz y + 1) (fun j hj hn => cgy j (by omega)) hi) (fun z hz j => up2_out hz j))⟩
    · skip
      exact ⟨2, nI 0, B, Ln, Rm, Rd, Pl, Mk, G, Sz, by decide, Or.inr ⟨by decide, (ct_write2 l D k sb L f x aW aG aR tr tg gW gG gR y (U y) (UR y) (UB y) (Sz y) (GU y) p1 hl hx.1 fx haW.1 faW haG.1 faG haR.1 faR hyy euy ggy.1.1 ggy.2.1 ggy.2.2.1.1.1 ggy.2.2.1.2.1 ggy.2.2.1.2.2.1.1 ggy.2.2.1.2.2.2.1 ggy.2.2.2 (by omega)), h0⟩, fun o Kp th => ⟨Kp, fun pl => (mm_write2 l D k o pl sb B Ln Rm Rd Pl Mk G Sz Kp th y p1 hyy ggy.2.2.2 (by omega))⟩⟩
  · skip
    exact ⟨1, nI 0, B, Ln, Rm, Rd, Pl, Mk, G, Sz, by decide, Or.inr ⟨by decide, (ct_write1 l D k sb L f x aW aG aR tr tg gW gG gR p0 p1 hl hx.1 fx haW.1 faW haG.1 faG haR.1 faR hvy), h0⟩, fun o Kp th => ⟨Kp, fun pl => (mm_write1 l D k o pl sb B Ln Rm Rd Pl Mk G Sz Kp th p0 p1 hvy)⟩⟩
set_option maxHeartbeats 4000000 in
theorem cl_writePart (l : Launch) (D : va_G) (k : Nat → ClassId) (sb : Nat) (L : List Nat) (f : Nat → va_E) (Z : Nat → Prop) (x : Nat) (B : Nat → Nat → Int32) (Ln Rm : Nat → Nat) (Rd : Nat → Option Nat) (Pl Mk : Nat → Nat) (G : Nat → Nat → Int32) (Sz : Nat → Nat) (hl : l.stackTraces = false) (h : cInv k L f Z x B Ln Rm Rd Pl Mk G Sz) (hZ : ∀ a, Z a → a ∈ L) (p0 : Int32) (p1 : Int32) (p2 : Int32) (p3 : Int32) : ∃ (kk : Nat) (v : Int32) (B' : Nat → Nat → Int32) (Ln' Rm' : Nat → Nat) (Rd' : Nat → Option Nat) (Pl' Mk' : Nat → Nat) (G' : Nat → Nat → Int32) (Sz' : Nat → Nat), kk ≤ 2 ∧ ((kk = 0 ∧ vCt l yX3_writePart cX3_writePart 7 (some .int) 10 152 0 0 D vCl (vTy k) sb [.ref x, .int p0, .int p1, .int p2, .int p3] (va_pl L f) (kPost k L f Z x (.int v) B' Ln' Rm' Rd' Pl' Mk' G' Sz')) ∨ (0 < kk ∧ vCtX l yX3_writePart cX3_writePart 7 (some .int) 10 152 1 6 D vCl (vTy k) sb [.ref x, .int p0, .int p1, .int p2, .int p3] (va_pl L f) (["java/lang/IndexOutOfBoundsException", "java/lang/IllegalStateException"].getD (kk - 1) "") ∧ cInv k L f Z x B' Ln' Rm' Rd' Pl' Mk' G' Sz')) ∧ ∀ (o : Nat → Nat) (Kp : Nat → Int32) (th : Int32), ∃ Kp' : Nat → Int32, ∀ pl : va_W, vCt l yX4_writePart cX4_writePart 6 (some .int) 2 44 0 0 D vCl (vTy k) sb [.ref (o 0), .int p0, .int p1, .int p2, .int p3] (mW k o pl B Ln Rm Rd Pl Mk G Sz Kp th) (vDet (some (.int v)) (mW k o pl B' Ln' Rm' Rd' Pl' Mk' G' Sz' Kp' (nI kk))) := by
  have h0 := h
  obtain ⟨aW, aG, aR, tr, tg, gW, gG, gR, A, AB, U, UR, UB, R, C, GU, hI⟩ := h
  obtain ⟨⟨hx, fx, haW, faW, haG, faG, haR, faR⟩, hRo, hL, hJ, hG, hU, hQ, hQ1, hT, hV, hM⟩ := id hI
  have hRm : ∀ r, r < 4 → Rm r < 8 := fun r hr => (hRo r hr).1
  have hRd : ∀ g, g < 3 → ∀ b, Rd g = some b → b < 8 := fun g hg b e => (hL b (Or.inr ⟨g, hg, e⟩)).1
  by_cases hvy : vOther p0
  · obtain ⟨y, hyy, rfl⟩ := vOther_of hvy
    obtain ⟨euy, ggy, cgy, ngy⟩ := hG y hyy
    by_cases hvr : vRow p1
    · obtain ⟨r, hrr, rfl⟩ := vRow_of hvr
      have ehr := (hRo r hrr).2
      have lvr : mLive Rm Rd (Rm r) := Or.inl ⟨r, hrr, rfl⟩
      obtain ⟨-, qwr, cwr⟩ := hL (Rm r) lvr
      by_cases hpt : vPt (Ln (Rm r)) p2 p3
      · obtain ⟨a, m, rfl, rfl, hp⟩ := hpt
        by_cases hs : Sz y + m ≤ 256
        · skip
          refine ⟨0, nI (Sz y + m), B, Ln, Rm, Rd, Pl, Mk, cpG G y (Sz y) m (fun j => B (Rm r) (a + j)), va_up Sz y (Sz y + m), by decide, Or.inl ⟨rfl, vCt.weak ((cb_writePart l D k sb L f x aW aG aR tr tg gW gG gR y (U y) (UR y) (UB y) (Sz y) (GU y) r (A (Rm r)) (AB (Rm r)) (Ln (Rm r)) (C (Rm r)) a m hx.1 fx haW.1 faW haG.1 faG haR.1 faR hyy euy ggy.1.1 ggy.2.1 ggy.2.2.1.1.1 ggy.2.2.1.2.1 ggy.2.2.1.2.2.1.1 ggy.2.2.1.2.2.2.1 ggy.2.2.2 hrr ehr qwr.1.1 qwr.2.1 qwr.2.2.1.1 qwr.2.2.2.1 qwr.2.2.2.2.1 hp hs qwr.2.2.2.2.2)) (fun v9 w9 hp9 => ?_)⟩, fun o Kp th => ⟨_, fun pl => (mm_writePart0 l D k o pl sb B Ln Rm Rd Pl Mk G Sz Kp th y r a m hyy hrr hp hs hRm hM.1 hM.2)⟩⟩
          obtain ⟨rfl, rfl⟩ := hp9
          exact ⟨_, _, rfl, rfl, ((kKp.rf.up ggy.2.2.1.2.2.1.2).up ggy.1.2), _, _, _, _, _, _, _, _, _, _, _, _, _, _, _, _, (cI.gat hI hyy (fun t _ n1 n2 => (va_up_nq _ n1).trans (va_up_nq _ n2)) (va_up_eq _ _ _) ((va_up_nq _ (ne_of ggy.2.2.1.2.2.2.1 ggy.2.1 (by simp))).trans (va_up_eq _ _ _)) hs (cpyfl qwr.2.2.2.2.2 ggy.2.2.1.2.2.2.2.2) (fun i hi => cpy_cpG hi (fun i hi ho => cgy i (by omega)) (fun j hj => cwr (a + j) (by omega))) (fun z hz j => cpG_out hz j))⟩
        · skip
          exact ⟨2, nI 0, B, Ln, Rm, Rd, Pl, Mk, G, Sz, by decide, Or.inr ⟨by decide, (ct_writePart4 l D k sb L f x aW aG aR tr tg gW gG gR y (U y) (UR y) (UB y) (Sz y) (GU y) r (A (Rm r)) (AB (Rm r)) (Ln (Rm r)) (C (Rm r)) a m hl hx.1 fx haW.1 faW haG.1 faG haR.1 faR hyy euy ggy.1.1 ggy.2.1 ggy.2.2.1.1.1 ggy.2.2.1.2.1 ggy.2.2.1.2.2.1.1 ggy.2.2.1.2.2.2.1 ggy.2.2.2 hrr ehr qwr.1.1 qwr.2.1 qwr.2.2.1.1 qwr.2.2.2.1 qwr.2.2.2.2.1 hp (by omega)), h0⟩, fun o Kp th => ⟨Kp, fun pl => (mm_writePart2 l D k o pl sb B Ln Rm Rd Pl Mk G Sz Kp th y r a m hyy hrr hp ggy.2.2.2 (by omega) hRm hM.1)⟩⟩
      · skip
        exact ⟨1, nI 0, B, Ln, Rm, Rd, Pl, Mk, G, Sz, by decide, Or.inr ⟨by decide, (ct_writePart3 l D k sb L f x aW aG aR tr tg gW gG gR y (U y) (UR y) (UB y) (Sz y) (GU y) r (A (Rm r)) (AB (Rm r)) (Ln (Rm r)) (C (Rm r)) p2 p3 hl hx.1 fx haW.1 faW haG.1 faG haR.1 faR hyy euy ggy.1.1 ggy.2.1 ggy.2.2.1.1.1 ggy.2.2.1.2.1 ggy.2.2.1.2.2.1.1 ggy.2.2.1.2.2.2.1 ggy.2.2.2 hrr ehr qwr.1.1 qwr.2.1 qwr.2.2.1.1 qwr.2.2.2.1 qwr.2.2.2.2.1 hpt), h0⟩, fun o Kp th => ⟨Kp, fun pl => (mm_writePart1b l D k o pl sb B Ln Rm Rd Pl Mk G Sz Kp th y (nI r) p2 p3 hyy hRm hM.1 (part_to hrr hpt))⟩⟩
    · skip
      exact ⟨1, nI 0, B, Ln, Rm, Rd, Pl, Mk, G, Sz, by decide, Or.inr ⟨by decide, (ct_writePart2 l D k sb L f x aW aG aR tr tg gW gG gR y (U y) (UR y) (UB y) (Sz y) (GU y) p1 p2 p3 hl hx.1 fx haW.1 faW haG.1 faG haR.1 faR hyy euy ggy.1.1 ggy.2.1 ggy.2.2.1.1.1 ggy.2.2.1.2.1 ggy.2.2.1.2.2.1.1 ggy.2.2.1.2.2.2.1 ggy.2.2.2 hvr), h0⟩, fun o Kp th => ⟨Kp, fun pl => (mm_writePart1b l D k o pl sb B Ln Rm Rd Pl Mk G Sz Kp th y p1 p2 p3 hyy hRm hM.1 (part_no hvr))⟩⟩
  · skip
    exact ⟨1, nI 0, B, Ln, Rm, Rd, Pl, Mk, G, Sz, by decide, Or.inr ⟨by decide, (ct_writePart1 l D k sb L f x aW aG aR tr tg gW gG gR p0 p1 p2 p3 hl hx.1 fx haW.1 faW haG.1 faG haR.1 faR hvy), h0⟩, fun o Kp th => ⟨Kp, fun pl => (mm_writePart1a l D k o pl sb B Ln Rm Rd Pl Mk G Sz Kp th p0 p1 p2 p3 hvy)⟩⟩
set_option maxHeartbeats 4000000 in
theorem cl_writeRow (l : Launch) (D : va_G) (k : Nat → ClassId) (sb : Nat) (L : List Nat) (f : Nat → va_E) (Z : Nat → Prop) (x : Nat) (B : Nat → Nat → Int32) (Ln Rm : Nat → Nat) (Rd : Nat → Option Nat) (Pl Mk : Nat → Nat) (G : Nat → Nat → Int32) (Sz : Nat → Nat) (hl : l.stackTraces = false) (h : cInv k L f Z x B Ln Rm Rd Pl Mk G Sz) (hZ : ∀ a, Z a → a ∈ L) (p0 : Int32) (p1 : Int32) : ∃ (kk : Nat) (v : Int32) (B' : Nat → Nat → Int32) (Ln' Rm' : Nat → Nat) (Rd' : Nat → Option Nat) (Pl' Mk' : Nat → Nat) (G' : Nat → Nat → Int32) (Sz' : Nat → Nat), kk ≤ 2 ∧ ((kk = 0 ∧ vCt l yX3_writeRow cX3_writeRow 5 (some .int) 10 152 0 0 D vCl (vTy k) sb [.ref x, .int p0, .int p1] (va_pl L f) (kPost k L f Z x (.int v) B' Ln' Rm' Rd' Pl' Mk' G' Sz')) ∨ (0 < kk ∧ vCtX l yX3_writeRow cX3_writeRow 5 (some .int) 10 152 1 6 D vCl (vTy k) sb [.ref x, .int p0, .int p1] (va_pl L f) (["java/lang/IndexOutOfBoundsException", "java/lang/IllegalStateException"].getD (kk - 1) "") ∧ cInv k L f Z x B' Ln' Rm' Rd' Pl' Mk' G' Sz')) ∧ ∀ (o : Nat → Nat) (Kp : Nat → Int32) (th : Int32), ∃ Kp' : Nat → Int32, ∀ pl : va_W, vCt l yX4_writeRow cX4_writeRow 3 (some .int) 3 69 0 0 D vCl (vTy k) sb [.ref (o 0), .int p0, .int p1] (mW k o pl B Ln Rm Rd Pl Mk G Sz Kp th) (vDet (some (.int v)) (mW k o pl B' Ln' Rm' Rd' Pl' Mk' G' Sz' Kp' (nI kk))) := by
  have h0 := h
  obtain ⟨aW, aG, aR, tr, tg, gW, gG, gR, A, AB, U, UR, UB, R, C, GU, hI⟩ := h
  obtain ⟨⟨hx, fx, haW, faW, haG, faG, haR, faR⟩, hRo, hL, hJ, hG, hU, hQ, hQ1, hT, hV, hM⟩ := id hI
  have hRm : ∀ r, r < 4 → Rm r < 8 := fun r hr => (hRo r hr).1
  have hRd : ∀ g, g < 3 → ∀ b, Rd g = some b → b < 8 := fun g hg b e => (hL b (Or.inr ⟨g, hg, e⟩)).1
  by_cases hvy : vOther p0
  · obtain ⟨y, hyy, rfl⟩ := vOther_of hvy
    obtain ⟨euy, ggy, cgy, ngy⟩ := hG y hyy
    by_cases hvr : vRow p1
    · obtain ⟨r, hrr, rfl⟩ := vRow_of hvr
      have ehr := (hRo r hrr).2
      have lvr : mLive Rm Rd (Rm r) := Or.inl ⟨r, hrr, rfl⟩
      obtain ⟨-, qwr, cwr⟩ := hL (Rm r) lvr
      by_cases hs : Sz y + Ln (Rm r) ≤ 256
      · skip
        refine ⟨0, nI (Sz y + Ln (Rm r)), B, Ln, Rm, Rd, Pl, Mk, cpG G y (Sz y) (Ln (Rm r)) (fun j => B (Rm r) (0 + j)), va_up Sz y (Sz y + Ln (Rm r)), by decide, Or.inl ⟨rfl, vCt.weak ((cb_writeRow l D k sb L f x aW aG aR tr tg gW gG gR y (U y) (UR y) (UB y) (Sz y) (GU y) r (A (Rm r)) (AB (Rm r)) (Ln (Rm r)) (C (Rm r)) hx.1 fx haW.1 faW haG.1 faG haR.1 faR hyy euy ggy.1.1 ggy.2.1 ggy.2.2.1.1.1 ggy.2.2.1.2.1 ggy.2.2.1.2.2.1.1 ggy.2.2.1.2.2.2.1 ggy.2.2.2 hrr ehr qwr.1.1 qwr.2.1 qwr.2.2.1.1 qwr.2.2.2.1 qwr.2.2.2.2.1 hs qwr.2.2.2.2.2)) (fun v9 w9 hp9 => ?_)⟩, fun o Kp th => ⟨_, fun pl => (mm_writeRow0 l D k o pl sb B Ln Rm Rd Pl Mk G Sz Kp th y r hyy hrr hs hRm hM.1 hM.2)⟩⟩
        obtain ⟨rfl, rfl⟩ := hp9
        exact ⟨_, _, rfl, rfl, ((kKp.rf.up ggy.2.2.1.2.2.1.2).up ggy.1.2), _, _, _, _, _, _, _, _, _, _, _, _, _, _, _, _, (cI.gat hI hyy (fun t _ n1 n2 => (va_up_nq _ n1).trans (va_up_nq _ n2)) (va_up_eq _ _ _) ((va_up_nq _ (ne_of ggy.2.2.1.2.2.2.1 ggy.2.1 (by simp))).trans (va_up_eq _ _ _)) hs (cpyfl qwr.2.2.2.2.2 ggy.2.2.1.2.2.2.2.2) (fun i hi => cpy_cpG hi (fun i hi ho => cgy i (by omega)) (fun j hj => cwr (0 + j) (by omega))) (fun z hz j => cpG_out hz j))⟩
      · skip
        exact ⟨2, nI 0, B, Ln, Rm, Rd, Pl, Mk, G, Sz, by decide, Or.inr ⟨by decide, (ct_writeRow3 l D k sb L f x aW aG aR tr tg gW gG gR y (U y) (UR y) (UB y) (Sz y) (GU y) r (A (Rm r)) (AB (Rm r)) (Ln (Rm r)) (C (Rm r)) hl hx.1 fx haW.1 faW haG.1 faG haR.1 faR hyy euy ggy.1.1 ggy.2.1 ggy.2.2.1.1.1 ggy.2.2.1.2.1 ggy.2.2.1.2.2.1.1 ggy.2.2.1.2.2.2.1 ggy.2.2.2 hrr ehr qwr.1.1 qwr.2.1 qwr.2.2.1.1 qwr.2.2.2.1 qwr.2.2.2.2.1 (by omega)), h0⟩, fun o Kp th => ⟨Kp, fun pl => (mm_writeRow2 l D k o pl sb B Ln Rm Rd Pl Mk G Sz Kp th y r hyy hrr ggy.2.2.2 (by omega) hRm hM.1)⟩⟩
    · skip
      exact ⟨1, nI 0, B, Ln, Rm, Rd, Pl, Mk, G, Sz, by decide, Or.inr ⟨by decide, (ct_writeRow2 l D k sb L f x aW aG aR tr tg gW gG gR y (U y) (UR y) (UB y) (Sz y) (GU y) p1 hl hx.1 fx haW.1 faW haG.1 faG haR.1 faR hyy euy ggy.1.1 ggy.2.1 ggy.2.2.1.1.1 ggy.2.2.1.2.1 ggy.2.2.1.2.2.1.1 ggy.2.2.1.2.2.2.1 ggy.2.2.2 hvr), h0⟩, fun o Kp th => ⟨Kp, fun pl => (mm_writeRow1c l D k o pl sb B Ln Rm Rd Pl Mk G Sz Kp th y p1 hyy hvr hRm hM.1)⟩⟩
  · skip
    by_cases hvr : vRow p1
    · obtain ⟨r, hrr, rfl⟩ := vRow_of hvr
      exact ⟨1, nI 0, B, Ln, Rm, Rd, Pl, Mk, G, Sz, by decide, Or.inr ⟨by decide, (ct_writeRow1 l D k sb L f x aW aG aR tr tg gW gG gR p0 (nI r) hl hx.1 fx haW.1 faW haG.1 faG haR.1 faR hvy), h0⟩, fun o Kp th => ⟨Kp, fun pl => (mm_writeRow1a l D k o pl sb B Ln Rm Rd Pl Mk G Sz Kp th p0 r hvy hrr hRm hM.1)⟩⟩
    · skip
      exact ⟨1, nI 0, B, Ln, Rm, Rd, Pl, Mk, G, Sz, by decide, Or.inr ⟨by decide, (ct_writeRow1 l D k sb L f x aW aG aR tr tg gW gG gR p0 p1 hl hx.1 fx haW.1 faW haG.1 faG haR.1 faR hvy), h0⟩, fun o Kp th => ⟨Kp, fun pl => (mm_writeRow1b l D k o pl sb B Ln Rm Rd Pl Mk G Sz Kp th p0 p1 hvy hvr)⟩⟩
set_option maxHeartbeats 4000000 in
theorem cl_writeNumber (l : Launch) (D : va_G) (k : Nat → ClassId) (sb : Nat) (L : List Nat) (f : Nat → va_E) (Z : Nat → Prop) (x : Nat) (B : Nat → Nat → Int32) (Ln Rm : Nat → Nat) (Rd : Nat → Option Nat) (Pl Mk : Nat → Nat) (G : Nat → Nat → Int32) (Sz : Nat → Nat) (hl : l.stackTraces = false) (h : cInv k L f Z x B Ln Rm Rd Pl Mk G Sz) (hZ : ∀ a, Z a → a ∈ L) (p0 : Int32) (p1 : Int32) : ∃ (kk : Nat) (v : Int32) (B' : Nat → Nat → Int32) (Ln' Rm' : Nat → Nat) (Rd' : Nat → Option Nat) (Pl' Mk' : Nat → Nat) (G' : Nat → Nat → Int32) (Sz' : Nat → Nat), kk ≤ 2 ∧ ((kk = 0 ∧ vCt l yX3_writeNumber cX3_writeNumber 5 (some .int) 9 131 0 0 D vCl (vTy k) sb [.ref x, .int p0, .int p1] (va_pl L f) (kPost k L f Z x (.int v) B' Ln' Rm' Rd' Pl' Mk' G' Sz')) ∨ (0 < kk ∧ vCtX l yX3_writeNumber cX3_writeNumber 5 (some .int) 9 131 1 6 D vCl (vTy k) sb [.ref x, .int p0, .int p1] (va_pl L f) (["java/lang/IndexOutOfBoundsException", "java/lang/IllegalStateException"].getD (kk - 1) "") ∧ cInv k L f Z x B' Ln' Rm' Rd' Pl' Mk' G' Sz')) ∧ ∀ (o : Nat → Nat) (Kp : Nat → Int32) (th : Int32), ∃ Kp' : Nat → Int32, ∀ pl : va_W, vCt l yX4_writeNumber cX4_writeNumber 4 (some .int) 2 44 0 0 D vCl (vTy k) sb [.ref (o 0), .int p0, .int p1] (mW k o pl B Ln Rm Rd Pl Mk G Sz Kp th) (vDet (some (.int v)) (mW k o pl B' Ln' Rm' Rd' Pl' Mk' G' Sz' Kp' (nI kk))) := by
  have h0 := h
  obtain ⟨aW, aG, aR, tr, tg, gW, gG, gR, A, AB, U, UR, UB, R, C, GU, hI⟩ := h
  obtain ⟨⟨hx, fx, haW, faW, haG, faG, haR, faR⟩, hRo, hL, hJ, hG, hU, hQ, hQ1, hT, hV, hM⟩ := id hI
  have hRm : ∀ r, r < 4 → Rm r < 8 := fun r hr => (hRo r hr).1
  have hRd : ∀ g, g < 3 → ∀ b, Rd g = some b → b < 8 := fun g hg b e => (hL b (Or.inr ⟨g, hg, e⟩)).1
  by_cases hvy : vOther p0
  · obtain ⟨y, hyy, rfl⟩ := vOther_of hvy
    obtain ⟨euy, ggy, cgy, ngy⟩ := hG y hyy
    by_cases hs : Sz y + 4 ≤ 256
    · skip
      refine ⟨0, nI (Sz y + 4), B, Ln, Rm, Rd, Pl, Mk, cpG G y (Sz y) 4 (n4 p1), va_up Sz y (Sz y + 4), by decide, Or.inl ⟨rfl, vCt.weak ((cb_writeNumber l D k sb L f x aW aG aR tr tg gW gG gR y (U y) (UR y) (UB y) (Sz y) (GU y) p1 hx.1 fx haW.1 faW haG.1 faG haR.1 faR hyy euy ggy.1.1 ggy.2.1 ggy.2.2.1.1.1 ggy.2.2.1.2.1 ggy.2.2.1.2.2.1.1 ggy.2.2.1.2.2.2.1 ggy.2.2.2 hs)) (fun v9 w9 hp9 => ?_)⟩, fun o Kp th => ⟨_, fun pl => (mm_writeNumber0 l D k o pl sb B Ln Rm Rd Pl Mk G Sz Kp th y p1 hyy hs)⟩⟩
      obtain ⟨rfl, rfl⟩ := hp9
      exact ⟨_, _, rfl, rfl, ((kKp.rf.up ggy.2.2.1.2.2.1.2).up ggy.1.2), _, _, _, _, _, _, _, _, _, _, _, _, _, _, _, _, (cI.gat hI hyy (fun t _ n1 n2 => (va_up_nq _ n1).trans (va_up_nq _ n2)) (va_up_eq _ _ _) ((va_up_nq _ (ne_of ggy.2.2.1.2.2.2.1 ggy.2.1 (by simp))).trans (va_up_eq _ _ _)) hs (upd_lb (upd_lb (upd_lb (upd_lb ggy.2.2.1.2.2.2.2.2 (lb_lb' _)) (lb_lb' _)) (lb_lb' _)) (lb_lb' _)) (fun i hi => num4 cgy hi) (fun z hz j => cpG_out hz j))⟩
    · skip
      exact ⟨2, nI 0, B, Ln, Rm, Rd, Pl, Mk, G, Sz, by decide, Or.inr ⟨by decide, (ct_writeNumber2 l D k sb L f x aW aG aR tr tg gW gG gR y (U y) (UR y) (UB y) (Sz y) (GU y) p1 hl hx.1 fx haW.1 faW haG.1 faG haR.1 faR hyy euy ggy.1.1 ggy.2.1 ggy.2.2.1.1.1 ggy.2.2.1.2.1 ggy.2.2.1.2.2.1.1 ggy.2.2.1.2.2.2.1 ggy.2.2.2 (by omega)), h0⟩, fun o Kp th => ⟨Kp, fun pl => (mm_writeNumber2 l D k o pl sb B Ln Rm Rd Pl Mk G Sz Kp th y p1 hyy ggy.2.2.2 (by omega))⟩⟩
  · skip
    exact ⟨1, nI 0, B, Ln, Rm, Rd, Pl, Mk, G, Sz, by decide, Or.inr ⟨by decide, (ct_writeNumber1 l D k sb L f x aW aG aR tr tg gW gG gR p0 p1 hl hx.1 fx haW.1 faW haG.1 faG haR.1 faR hvy), h0⟩, fun o Kp th => ⟨Kp, fun pl => (mm_writeNumber1 l D k o pl sb B Ln Rm Rd Pl Mk G Sz Kp th p0 p1 hvy)⟩⟩
set_option maxHeartbeats 4000000 in
theorem cl_size (l : Launch) (D : va_G) (k : Nat → ClassId) (sb : Nat) (L : List Nat) (f : Nat → va_E) (Z : Nat → Prop) (x : Nat) (B : Nat → Nat → Int32) (Ln Rm : Nat → Nat) (Rd : Nat → Option Nat) (Pl Mk : Nat → Nat) (G : Nat → Nat → Int32) (Sz : Nat → Nat) (hl : l.stackTraces = false) (h : cInv k L f Z x B Ln Rm Rd Pl Mk G Sz) (hZ : ∀ a, Z a → a ∈ L) (p0 : Int32) : ∃ (kk : Nat) (v : Int32) (B' : Nat → Nat → Int32) (Ln' Rm' : Nat → Nat) (Rd' : Nat → Option Nat) (Pl' Mk' : Nat → Nat) (G' : Nat → Nat → Int32) (Sz' : Nat → Nat), kk ≤ 1 ∧ ((kk = 0 ∧ vCt l yX3_size cX3_size 2 (some .int) 9 131 0 0 D vCl (vTy k) sb [.ref x, .int p0] (va_pl L f) (kPost k L f Z x (.int v) B' Ln' Rm' Rd' Pl' Mk' G' Sz')) ∨ (0 < kk ∧ vCtX l yX3_size cX3_size 2 (some .int) 9 131 1 6 D vCl (vTy k) sb [.ref x, .int p0] (va_pl L f) (["java/lang/IndexOutOfBoundsException"].getD (kk - 1) "") ∧ cInv k L f Z x B' Ln' Rm' Rd' Pl' Mk' G' Sz')) ∧ ∀ (o : Nat → Nat) (Kp : Nat → Int32) (th : Int32), ∃ Kp' : Nat → Int32, ∀ pl : va_W, vCt l yX4_size cX4_size 2 (some .int) 1 21 0 0 D vCl (vTy k) sb [.ref (o 0), .int p0] (mW k o pl B Ln Rm Rd Pl Mk G Sz Kp th) (vDet (some (.int v)) (mW k o pl B' Ln' Rm' Rd' Pl' Mk' G' Sz' Kp' (nI kk))) := by
  have h0 := h
  obtain ⟨aW, aG, aR, tr, tg, gW, gG, gR, A, AB, U, UR, UB, R, C, GU, hI⟩ := h
  obtain ⟨⟨hx, fx, haW, faW, haG, faG, haR, faR⟩, hRo, hL, hJ, hG, hU, hQ, hQ1, hT, hV, hM⟩ := id hI
  have hRm : ∀ r, r < 4 → Rm r < 8 := fun r hr => (hRo r hr).1
  have hRd : ∀ g, g < 3 → ∀ b, Rd g = some b → b < 8 := fun g hg b e => (hL b (Or.inr ⟨g, hg, e⟩)).1
  by_cases hvy : vOther p0
  · obtain ⟨y, hyy, rfl⟩ := vOther_of hvy
    obtain ⟨euy, ggy, cgy, ngy⟩ := hG y hyy
    refine ⟨0, nI (Sz y), B, Ln, Rm, Rd, Pl, Mk, G, Sz, by decide, Or.inl ⟨rfl, vCt.weak ((cb_size l D k sb L f x aW aG aR tr tg gW gG gR y (U y) (UR y) (UB y) (Sz y) (GU y) hx.1 fx haW.1 faW haG.1 faG haR.1 faR hyy euy ggy.1.1 ggy.2.1 ggy.2.2.1.1.1 ggy.2.2.1.2.1 ggy.2.2.1.2.2.1.1 ggy.2.2.1.2.2.2.1 ggy.2.2.2)) (fun v9 w9 hp9 => ?_)⟩, fun o Kp th => ⟨_, fun pl => (mm_size0 l D k o pl sb B Ln Rm Rd Pl Mk G Sz Kp th y hyy)⟩⟩
    obtain ⟨rfl, rfl⟩ := hp9
    exact ⟨_, _, rfl, rfl, kKp.rf, _, _, _, _, _, _, _, _, _, _, _, _, _, _, _, _, hI⟩
  · skip
    exact ⟨1, nI 0, B, Ln, Rm, Rd, Pl, Mk, G, Sz, by decide, Or.inr ⟨by decide, (ct_size1 l D k sb L f x aW aG aR tr tg gW gG gR p0 hl hx.1 fx haW.1 faW haG.1 faG haR.1 faR hvy), h0⟩, fun o Kp th => ⟨Kp, fun pl => (mm_size1 l D k o pl sb B Ln Rm Rd Pl Mk G Sz Kp th p0 hvy)⟩⟩
set_option maxHeartbeats 4000000 in
theorem cl_empty (l : Launch) (D : va_G) (k : Nat → ClassId) (sb : Nat) (L : List Nat) (f : Nat → va_E) (Z : Nat → Prop) (x : Nat) (B : Nat → Nat → Int32) (Ln Rm : Nat → Nat) (Rd : Nat → Option Nat) (Pl Mk : Nat → Nat) (G : Nat → Nat → Int32) (Sz : Nat → Nat) (hl : l.stackTraces = false) (h : cInv k L f Z x B Ln Rm Rd Pl Mk G Sz) (hZ : ∀ a, Z a → a ∈ L) (p0 : Int32) : ∃ (kk : Nat) (v : Int32) (B' : Nat → Nat → Int32) (Ln' Rm' : Nat → Nat) (Rd' : Nat → Option Nat) (Pl' Mk' : Nat → Nat) (G' : Nat → Nat → Int32) (Sz' : Nat → Nat), kk ≤ 1 ∧ ((kk = 0 ∧ vCt l yX3_empty cX3_empty 4 (some .int) 9 131 0 0 D vCl (vTy k) sb [.ref x, .int p0] (va_pl L f) (kPost k L f Z x (.int v) B' Ln' Rm' Rd' Pl' Mk' G' Sz')) ∨ (0 < kk ∧ vCtX l yX3_empty cX3_empty 4 (some .int) 9 131 1 6 D vCl (vTy k) sb [.ref x, .int p0] (va_pl L f) (["java/lang/IndexOutOfBoundsException"].getD (kk - 1) "") ∧ cInv k L f Z x B' Ln' Rm' Rd' Pl' Mk' G' Sz')) ∧ ∀ (o : Nat → Nat) (Kp : Nat → Int32) (th : Int32), ∃ Kp' : Nat → Int32, ∀ pl : va_W, vCt l yX4_empty cX4_empty 3 (some .int) 1 21 0 0 D vCl (vTy k) sb [.ref (o 0), .int p0] (mW k o pl B Ln Rm Rd Pl Mk G Sz Kp th) (vDet (some (.int v)) (mW k o pl B' Ln' Rm' Rd' Pl' Mk' G' Sz' Kp' (nI kk))) := by
  have h0 := h
  obtain ⟨aW, aG, aR, tr, tg, gW, gG, gR, A, AB, U, UR, UB, R, C, GU, hI⟩ := h
  obtain ⟨⟨hx, fx, haW, faW, haG, faG, haR, faR⟩, hRo, hL, hJ, hG, hU, hQ, hQ1, hT, hV, hM⟩ := id hI
  have hRm : ∀ r, r < 4 → Rm r < 8 := fun r hr => (hRo r hr).1
  have hRd : ∀ g, g < 3 → ∀ b, Rd g = some b → b < 8 := fun g hg b e => (hL b (Or.inr ⟨g, hg, e⟩)).1
  by_cases hvy : vOther p0
  · obtain ⟨y, hyy, rfl⟩ := vOther_of hvy
    obtain ⟨euy, ggy, cgy, ngy⟩ := hG y hyy
    refine ⟨0, nI (Sz y), B, Ln, Rm, Rd, Pl, Mk, G, va_up Sz y 0, by decide, Or.inl ⟨rfl, vCt.weak ((cb_empty l D k sb L f x aW aG aR tr tg gW gG gR y (U y) (UR y) (UB y) (Sz y) (GU y) hx.1 fx haW.1 faW haG.1 faG haR.1 faR hyy euy ggy.1.1 ggy.2.1 ggy.2.2.1.1.1 ggy.2.2.1.2.1 ggy.2.2.1.2.2.1.1 ggy.2.2.1.2.2.2.1 ggy.2.2.2)) (fun v9 w9 hp9 => ?_)⟩, fun o Kp th => ⟨_, fun pl => (mm_empty0 l D k o pl sb B Ln Rm Rd Pl Mk G Sz Kp th y hyy)⟩⟩
    obtain ⟨rfl, rfl⟩ := hp9
    exact ⟨_, _, rfl, rfl, (kKp.rf.up ggy.1.2), _, _, _, _, _, _, _, _, _, _, _, _, _, _, _, _, (cI.gat hI hyy (g' := GU y) (fun t _ n1 _ => va_up_nq _ n1) (va_up_eq _ _ _) ((va_up_nq _ (ne_of ggy.2.2.1.2.2.2.1 ggy.2.1 (by simp))).trans ggy.2.2.1.2.2.2.1) (by omega) ggy.2.2.1.2.2.2.2.2 (fun i hi => by omega) (fun z _ j => rfl))⟩
  · skip
    exact ⟨1, nI 0, B, Ln, Rm, Rd, Pl, Mk, G, Sz, by decide, Or.inr ⟨by decide, (ct_empty1 l D k sb L f x aW aG aR tr tg gW gG gR p0 hl hx.1 fx haW.1 faW haG.1 faG haR.1 faR hvy), h0⟩, fun o Kp th => ⟨Kp, fun pl => (mm_empty1 l D k o pl sb B Ln Rm Rd Pl Mk G Sz Kp th p0 hvy)⟩⟩
set_option maxHeartbeats 4000000 in
theorem cl_take (l : Launch) (D : va_G) (k : Nat → ClassId) (sb : Nat) (L : List Nat) (f : Nat → va_E) (Z : Nat → Prop) (x : Nat) (B : Nat → Nat → Int32) (Ln Rm : Nat → Nat) (Rd : Nat → Option Nat) (Pl Mk : Nat → Nat) (G : Nat → Nat → Int32) (Sz : Nat → Nat) (hl : l.stackTraces = false) (h : cInv k L f Z x B Ln Rm Rd Pl Mk G Sz) (hZ : ∀ a, Z a → a ∈ L) (p0 : Int32) (p1 : Int32) : ∃ (kk : Nat) (v : Int32) (B' : Nat → Nat → Int32) (Ln' Rm' : Nat → Nat) (Rd' : Nat → Option Nat) (Pl' Mk' : Nat → Nat) (G' : Nat → Nat → Int32) (Sz' : Nat → Nat), kk ≤ 1 ∧ ((kk = 0 ∧ vCt l yX3_take cX3_take 5 (some .int) 9 131 2 257 D vCl (vTy k) sb [.ref x, .int p0, .int p1] (va_pl L f) (kPost k L f Z x (.int v) B' Ln' Rm' Rd' Pl' Mk' G' Sz')) ∨ (0 < kk ∧ vCtX l yX3_take cX3_take 5 (some .int) 9 131 1 6 D vCl (vTy k) sb [.ref x, .int p0, .int p1] (va_pl L f) (["java/lang/IndexOutOfBoundsException"].getD (kk - 1) "") ∧ cInv k L f Z x B' Ln' Rm' Rd' Pl' Mk' G' Sz')) ∧ ∀ (o : Nat → Nat) (Kp : Nat → Int32) (th : Int32), ∃ Kp' : Nat → Int32, ∀ pl : va_W, vCt l yX4_take cX4_take 4 (some .int) 2 47 0 0 D vCl (vTy k) sb [.ref (o 0), .int p0, .int p1] (mW k o pl B Ln Rm Rd Pl Mk G Sz Kp th) (vDet (some (.int v)) (mW k o pl B' Ln' Rm' Rd' Pl' Mk' G' Sz' Kp' (nI kk))) := by
  have h0 := h
  obtain ⟨aW, aG, aR, tr, tg, gW, gG, gR, A, AB, U, UR, UB, R, C, GU, hI⟩ := h
  obtain ⟨⟨hx, fx, haW, faW, haG, faG, haR, faR⟩, hRo, hL, hJ, hG, hU, hQ, hQ1, hT, hV, hM⟩ := id hI
  have hRm : ∀ r, r < 4 → Rm r < 8 := fun r hr => (hRo r hr).1
  have hRd : ∀ g, g < 3 → ∀ b, Rd g = some b → b < 8 := fun g hg b e => (hL b (Or.inr ⟨g, hg, e⟩)).1
  by_cases hvy : vOther p0
  · obtain ⟨y, hyy, rfl⟩ := vOther_of hvy
    obtain ⟨euy, ggy, cgy, ngy⟩ := hG y hyy
    by_cases hvr : vRow p1
    · obtain ⟨r, hrr, rfl⟩ := vRow_of hvr
      have ehr := (hRo r hrr).2
      have lvr : mLive Rm Rd (Rm r) := Or.inl ⟨r, hrr, rfl⟩
      obtain ⟨-, qwr, cwr⟩ := hL (Rm r) lvr
      obtain ⟨F, hF⟩ := cFree Rm Rd
      refine ⟨0, nI (Sz y), cpB B F (Sz y) (G y), va_up Ln F (Sz y), va_up Rm r F, Rd, Pl, Mk, G, Sz, by decide, Or.inl ⟨rfl, vCt.weak ((cb_take l D k sb L f x aW aG aR tr tg gW gG gR y (U y) (UR y) (UB y) (Sz y) (GU y) r hx.1 fx haW.1 faW haG.1 faG haR.1 faR hyy euy ggy.1.1 ggy.2.1 ggy.2.2.1.1.1 ggy.2.2.1.2.1 ggy.2.2.1.2.2.1.1 ggy.2.2.1.2.2.2.1 ggy.2.2.2 hrr ggy.2.2.1.2.2.2.2.2)) (fun v9 w9 hp9 => ?_)⟩, fun o Kp th => ⟨_, fun pl => (by have q9 := (mm_take0 l D k o pl sb B Ln Rm Rd Pl Mk G Sz Kp th y r F hyy hrr ggy.2.2.2 hF hRm hRd); rw [cpB_k] at q9; exact q9)⟩⟩
      obtain ⟨q9, qb9, L1, f1, hq9, hqb9, hk1, fW1, hqL, fq9, hqbL, fqb9, rfl, rfl⟩ := hp9
      exact ⟨_, _, rfl, rfl, (fun a ha => ⟨(hk1 a ha).1, fun hz => (hk1 a ha).2 (fun e => haW.2 (e ▸ hz))⟩), _, _, _, _, _, _, _, _, _, _, _, _, _, _, _, _, (cI.anew hI hrr hF.1 hF.2.1 hZ hq9 hqb9 hk1 fW1 hqL fq9 hqbL fqb9 ggy.2.2.2 (cpyf ggy.2.2.1.2.2.2.2.2) (fun j hj => (cpyc hj).trans ((cgy j hj).trans (cpB_in hj).symm)) (fun b hb j => cpB_out hb j) (cpB_lb hM.2 (fun j hj => by rw [← cgy j hj]; exact ggy.2.2.1.2.2.2.2.2 j)))⟩
    · skip
      exact ⟨1, nI 0, B, Ln, Rm, Rd, Pl, Mk, G, Sz, by decide, Or.inr ⟨by decide, (ct_take2 l D k sb L f x aW aG aR tr tg gW gG gR y (U y) (UR y) (UB y) (Sz y) (GU y) p1 hl hx.1 fx haW.1 faW haG.1 faG haR.1 faR hyy euy ggy.1.1 ggy.2.1 ggy.2.2.1.1.1 ggy.2.2.1.2.1 ggy.2.2.1.2.2.1.1 ggy.2.2.1.2.2.2.1 ggy.2.2.2 hvr), h0⟩, fun o Kp th => ⟨Kp, fun pl => (mm_take1b l D k o pl sb B Ln Rm Rd Pl Mk G Sz Kp th y p1 hyy hvr)⟩⟩
  · skip
    exact ⟨1, nI 0, B, Ln, Rm, Rd, Pl, Mk, G, Sz, by decide, Or.inr ⟨by decide, (ct_take1 l D k sb L f x aW aG aR tr tg gW gG gR p0 p1 hl hx.1 fx haW.1 faW haG.1 faG haR.1 faR hvy), h0⟩, fun o Kp th => ⟨Kp, fun pl => (mm_take1a l D k o pl sb B Ln Rm Rd Pl Mk G Sz Kp th p0 p1 hvy)⟩⟩
set_option maxHeartbeats 4000000 in
theorem cl_open (l : Launch) (D : va_G) (k : Nat → ClassId) (sb : Nat) (L : List Nat) (f : Nat → va_E) (Z : Nat → Prop) (x : Nat) (B : Nat → Nat → Int32) (Ln Rm : Nat → Nat) (Rd : Nat → Option Nat) (Pl Mk : Nat → Nat) (G : Nat → Nat → Int32) (Sz : Nat → Nat) (hl : l.stackTraces = false) (h : cInv k L f Z x B Ln Rm Rd Pl Mk G Sz) (hZ : ∀ a, Z a → a ∈ L) (p0 : Int32) (p1 : Int32) : ∃ (kk : Nat) (v : Int32) (B' : Nat → Nat → Int32) (Ln' Rm' : Nat → Nat) (Rd' : Nat → Option Nat) (Pl' Mk' : Nat → Nat) (G' : Nat → Nat → Int32) (Sz' : Nat → Nat), kk ≤ 1 ∧ ((kk = 0 ∧ vCt l yX3_open cX3_open 4 (some .int) 10 152 0 0 D vCl (vTy k) sb [.ref x, .int p0, .int p1] (va_pl L f) (kPost k L f Z x (.int v) B' Ln' Rm' Rd' Pl' Mk' G' Sz')) ∨ (0 < kk ∧ vCtX l yX3_open cX3_open 4 (some .int) 10 152 1 6 D vCl (vTy k) sb [.ref x, .int p0, .int p1] (va_pl L f) (["java/lang/IndexOutOfBoundsException"].getD (kk - 1) "") ∧ cInv k L f Z x B' Ln' Rm' Rd' Pl' Mk' G' Sz')) ∧ ∀ (o : Nat → Nat) (Kp : Nat → Int32) (th : Int32), ∃ Kp' : Nat → Int32, ∀ pl : va_W, vCt l yX4_open cX4_open 3 (some .int) 1 21 0 0 D vCl (vTy k) sb [.ref (o 0), .int p0, .int p1] (mW k o pl B Ln Rm Rd Pl Mk G Sz Kp th) (vDet (some (.int v)) (mW k o pl B' Ln' Rm' Rd' Pl' Mk' G' Sz' Kp' (nI kk))) := by
  have h0 := h
  obtain ⟨aW, aG, aR, tr, tg, gW, gG, gR, A, AB, U, UR, UB, R, C, GU, hI⟩ := h
  obtain ⟨⟨hx, fx, haW, faW, haG, faG, haR, faR⟩, hRo, hL, hJ, hG, hU, hQ, hQ1, hT, hV, hM⟩ := id hI
  have hRm : ∀ r, r < 4 → Rm r < 8 := fun r hr => (hRo r hr).1
  have hRd : ∀ g, g < 3 → ∀ b, Rd g = some b → b < 8 := fun g hg b e => (hL b (Or.inr ⟨g, hg, e⟩)).1
  by_cases hvq : vOther p0
  · obtain ⟨q, hqq, rfl⟩ := vOther_of hvq
    obtain ⟨q1q, q2q, q3q, q4q⟩ := hQ q hqq
    obtain ⟨wq, bq, nq, sq, Pq, Mq, Tq, Mtq, gq, frq, qcq, hPq⟩ := hI.anyR hqq
    by_cases hvr : vRow p1
    · obtain ⟨r, hrr, rfl⟩ := vRow_of hvr
      have ehr := (hRo r hrr).2
      have lvr : mLive Rm Rd (Rm r) := Or.inl ⟨r, hrr, rfl⟩
      obtain ⟨-, qwr, cwr⟩ := hL (Rm r) lvr
      refine ⟨0, nI (Ln (Rm r)), B, Ln, Rm, va_up Rd q (some (Rm r)), va_up Pl q 0, va_up Mk q 0, G, Sz, by decide, Or.inl ⟨rfl, vCt.weak ((cb_open l D k sb L f x aW aG aR tr tg gW gG gR q (R q) wq bq nq sq Pq Mq Tq Mtq gq r (A (Rm r)) (AB (Rm r)) (Ln (Rm r)) (C (Rm r)) hx.1 fx haW.1 faW haG.1 faG haR.1 faR hqq q1q q2q.1 frq qcq.1.1 qcq.2.1 qcq.2.2.1.1 qcq.2.2.2.1 qcq.2.2.2.2.1 hPq hrr ehr qwr.1.1 qwr.2.1 qwr.2.2.1.1 qwr.2.2.2.1 qwr.2.2.2.2.1)) (fun v9 w9 hp9 => ?_)⟩, fun o Kp th => ⟨_, fun pl => (mm_open0 l D k o pl sb B Ln Rm Rd Pl Mk G Sz Kp th q r hqq hrr hRm hM.1)⟩⟩
      obtain ⟨rfl, rfl⟩ := hp9
      exact ⟨_, _, rfl, rfl, (kKp.rf.up q2q.2), _, _, _, _, _, _, _, _, _, _, _, _, _, _, _, _, (cI.rea hI hqq lvr (fun t _ n9 => va_up_nq _ n9) (va_up_eq _ _ _) (Nat.zero_le _) (Nat.zero_le _))⟩
    · skip
      exact ⟨1, nI 0, B, Ln, Rm, Rd, Pl, Mk, G, Sz, by decide, Or.inr ⟨by decide, (ct_open2 l D k sb L f x aW aG aR tr tg gW gG gR q (R q) wq bq nq sq Pq Mq Tq Mtq gq p1 hl hx.1 fx haW.1 faW haG.1 faG haR.1 faR hqq q1q q2q.1 frq qcq.1.1 qcq.2.1 qcq.2.2.1.1 qcq.2.2.2.1 qcq.2.2.2.2.1 hPq hvr), h0⟩, fun o Kp th => ⟨Kp, fun pl => (mm_open1b l D k o pl sb B Ln Rm Rd Pl Mk G Sz Kp th q p1 hqq hvr)⟩⟩
  · skip
    exact ⟨1, nI 0, B, Ln, Rm, Rd, Pl, Mk, G, Sz, by decide, Or.inr ⟨by decide, (ct_open1 l D k sb L f x aW aG aR tr tg gW gG gR p0 p1 hl hx.1 fx haW.1 faW haG.1 faG haR.1 faR hvq), h0⟩, fun o Kp th => ⟨Kp, fun pl => (mm_open1a l D k o pl sb B Ln Rm Rd Pl Mk G Sz Kp th p0 p1 hvq)⟩⟩
set_option maxHeartbeats 4000000 in
theorem cl_isOpen (l : Launch) (D : va_G) (k : Nat → ClassId) (sb : Nat) (L : List Nat) (f : Nat → va_E) (Z : Nat → Prop) (x : Nat) (B : Nat → Nat → Int32) (Ln Rm : Nat → Nat) (Rd : Nat → Option Nat) (Pl Mk : Nat → Nat) (G : Nat → Nat → Int32) (Sz : Nat → Nat) (hl : l.stackTraces = false) (h : cInv k L f Z x B Ln Rm Rd Pl Mk G Sz) (hZ : ∀ a, Z a → a ∈ L) (p0 : Int32) : ∃ (kk : Nat) (v : Int32) (B' : Nat → Nat → Int32) (Ln' Rm' : Nat → Nat) (Rd' : Nat → Option Nat) (Pl' Mk' : Nat → Nat) (G' : Nat → Nat → Int32) (Sz' : Nat → Nat), kk ≤ 1 ∧ ((kk = 0 ∧ vCt l yX3_isOpen cX3_isOpen 2 (some .boolean) 9 131 0 0 D vCl (vTy k) sb [.ref x, .int p0] (va_pl L f) (kPost k L f Z x (.int v) B' Ln' Rm' Rd' Pl' Mk' G' Sz')) ∨ (0 < kk ∧ vCtX l yX3_isOpen cX3_isOpen 2 (some .boolean) 9 131 1 6 D vCl (vTy k) sb [.ref x, .int p0] (va_pl L f) (["java/lang/IndexOutOfBoundsException"].getD (kk - 1) "") ∧ cInv k L f Z x B' Ln' Rm' Rd' Pl' Mk' G' Sz')) ∧ ∀ (o : Nat → Nat) (Kp : Nat → Int32) (th : Int32), ∃ Kp' : Nat → Int32, ∀ pl : va_W, vCt l yX4_isOpen cX4_isOpen 2 (some .boolean) 1 21 0 0 D vCl (vTy k) sb [.ref (o 0), .int p0] (mW k o pl B Ln Rm Rd Pl Mk G Sz Kp th) (vDet (some (.int v)) (mW k o pl B' Ln' Rm' Rd' Pl' Mk' G' Sz' Kp' (nI kk))) := by
  have h0 := h
  obtain ⟨aW, aG, aR, tr, tg, gW, gG, gR, A, AB, U, UR, UB, R, C, GU, hI⟩ := h
  obtain ⟨⟨hx, fx, haW, faW, haG, faG, haR, faR⟩, hRo, hL, hJ, hG, hU, hQ, hQ1, hT, hV, hM⟩ := id hI
  have hRm : ∀ r, r < 4 → Rm r < 8 := fun r hr => (hRo r hr).1
  have hRd : ∀ g, g < 3 → ∀ b, Rd g = some b → b < 8 := fun g hg b e => (hL b (Or.inr ⟨g, hg, e⟩)).1
  by_cases hvq : vOther p0
  · obtain ⟨q, hqq, rfl⟩ := vOther_of hvq
    obtain ⟨q1q, q2q, q3q, q4q⟩ := hQ q hqq
    rcases hoq : Rd q with _ | aq
    · obtain ⟨wq, bq, nq, Pq, Mq, Tq, Mtq, gq, frq, qcq, hPq⟩ := q4q hoq
      refine ⟨0, nI 0, B, Ln, Rm, Rd, Pl, Mk, G, Sz, by decide, Or.inl ⟨rfl, vCt.weak ((cb_isOpen0 l D k sb L f x aW aG aR tr tg gW gG gR q (R q) wq bq nq 0 Pq Mq Tq Mtq gq hx.1 fx haW.1 faW haG.1 faG haR.1 faR hqq q1q q2q.1 frq qcq.1.1 qcq.2.1 qcq.2.2.1.1 qcq.2.2.2.1 qcq.2.2.2.2.1 hPq rfl)) (fun v9 w9 hp9 => ?_)⟩, fun o Kp th => ⟨_, fun pl => (mm_isOpen0a l D k o pl sb B Ln Rm Rd Pl Mk G Sz Kp th q hqq hoq)⟩⟩
      obtain ⟨rfl, rfl⟩ := hp9
      exact ⟨_, _, rfl, rfl, kKp.rf, _, _, _, _, _, _, _, _, _, _, _, _, _, _, _, _, hI⟩
    · obtain ⟨frq, hPq, hMq⟩ := q3q aq hoq
      have laq : mLive Rm Rd aq := Or.inr ⟨q, hqq, hoq⟩
      obtain ⟨haq, qaq, caq⟩ := hL aq laq
      refine ⟨0, nI 1, B, Ln, Rm, Rd, Pl, Mk, G, Sz, by decide, Or.inl ⟨rfl, vCt.weak ((cb_isOpen1 l D k sb L f x aW aG aR tr tg gW gG gR q (R q) (A aq) (AB aq) (Ln aq) 1 (Pl q) (Mk q) (Pl q) (Mk q) (C aq) hx.1 fx haW.1 faW haG.1 faG haR.1 faR hqq q1q q2q.1 frq qaq.1.1 qaq.2.1 qaq.2.2.1.1 qaq.2.2.2.1 qaq.2.2.2.2.1 hPq rfl)) (fun v9 w9 hp9 => ?_)⟩, fun o Kp th => ⟨_, fun pl => (mm_isOpen0b l D k o pl sb B Ln Rm Rd Pl Mk G Sz Kp th q aq hqq hoq haq)⟩⟩
      obtain ⟨rfl, rfl⟩ := hp9
      exact ⟨_, _, rfl, rfl, kKp.rf, _, _, _, _, _, _, _, _, _, _, _, _, _, _, _, _, hI⟩
  · skip
    exact ⟨1, nI 0, B, Ln, Rm, Rd, Pl, Mk, G, Sz, by decide, Or.inr ⟨by decide, (ct_isOpen1 l D k sb L f x aW aG aR tr tg gW gG gR p0 hl hx.1 fx haW.1 faW haG.1 faG haR.1 faR hvq), h0⟩, fun o Kp th => ⟨Kp, fun pl => (mm_isOpen1 l D k o pl sb B Ln Rm Rd Pl Mk G Sz Kp th p0 hvq)⟩⟩
set_option maxHeartbeats 4000000 in
theorem cl_read (l : Launch) (D : va_G) (k : Nat → ClassId) (sb : Nat) (L : List Nat) (f : Nat → va_E) (Z : Nat → Prop) (x : Nat) (B : Nat → Nat → Int32) (Ln Rm : Nat → Nat) (Rd : Nat → Option Nat) (Pl Mk : Nat → Nat) (G : Nat → Nat → Int32) (Sz : Nat → Nat) (hl : l.stackTraces = false) (h : cInv k L f Z x B Ln Rm Rd Pl Mk G Sz) (hZ : ∀ a, Z a → a ∈ L) (p0 : Int32) : ∃ (kk : Nat) (v : Int32) (B' : Nat → Nat → Int32) (Ln' Rm' : Nat → Nat) (Rd' : Nat → Option Nat) (Pl' Mk' : Nat → Nat) (G' : Nat → Nat → Int32) (Sz' : Nat → Nat), kk ≤ 2 ∧ ((kk = 0 ∧ vCt l yX3_read cX3_read 3 (some .int) 9 131 0 0 D vCl (vTy k) sb [.ref x, .int p0] (va_pl L f) (kPost k L f Z x (.int v) B' Ln' Rm' Rd' Pl' Mk' G' Sz')) ∨ (0 < kk ∧ vCtX l yX3_read cX3_read 3 (some .int) 9 131 1 6 D vCl (vTy k) sb [.ref x, .int p0] (va_pl L f) (["java/lang/IndexOutOfBoundsException", "java/lang/UnsupportedOperationException"].getD (kk - 1) "") ∧ cInv k L f Z x B' Ln' Rm' Rd' Pl' Mk' G' Sz')) ∧ ∀ (o : Nat → Nat) (Kp : Nat → Int32) (th : Int32), ∃ Kp' : Nat → Int32, ∀ pl : va_W, vCt l yX4_read cX4_read 2 (some .int) 2 42 0 0 D vCl (vTy k) sb [.ref (o 0), .int p0] (mW k o pl B Ln Rm Rd Pl Mk G Sz Kp th) (vDet (some (.int v)) (mW k o pl B' Ln' Rm' Rd' Pl' Mk' G' Sz' Kp' (nI kk))) := by
  have h0 := h
  obtain ⟨aW, aG, aR, tr, tg, gW, gG, gR, A, AB, U, UR, UB, R, C, GU, hI⟩ := h
  obtain ⟨⟨hx, fx, haW, faW, haG, faG, haR, faR⟩, hRo, hL, hJ, hG, hU, hQ, hQ1, hT, hV, hM⟩ := id hI
  have hRm : ∀ r, r < 4 → Rm r < 8 := fun r hr => (hRo r hr).1
  have hRd : ∀ g, g < 3 → ∀ b, Rd g = some b → b < 8 := fun g hg b e => (hL b (Or.inr ⟨g, hg, e⟩)).1
  by_cases hvq : vOther p0
  · obtain ⟨q, hqq, rfl⟩ := vOther_of hvq
    obtain ⟨q1q, q2q, q3q, q4q⟩ := hQ q hqq
    rcases hoq : Rd q with _ | aq
    · obtain ⟨wq, bq, nq, Pq, Mq, Tq, Mtq, gq, frq, qcq, hPq⟩ := q4q hoq
      exact ⟨2, nI 0, B, Ln, Rm, Rd, Pl, Mk, G, Sz, by decide, Or.inr ⟨by decide, (ct_read2 l D k sb L f x aW aG aR tr tg gW gG gR q (R q) wq bq nq 0 Pq Mq Tq Mtq gq hl hx.1 fx haW.1 faW haG.1 faG haR.1 faR hqq q1q q2q.1 frq qcq.1.1 qcq.2.1 qcq.2.2.1.1 qcq.2.2.2.1 qcq.2.2.2.2.1 hPq rfl), h0⟩, fun o Kp th => ⟨Kp, fun pl => (mm_read2 l D k o pl sb B Ln Rm Rd Pl Mk G Sz Kp th q hqq hoq)⟩⟩
    · obtain ⟨frq, hPq, hMq⟩ := q3q aq hoq
      have laq : mLive Rm Rd aq := Or.inr ⟨q, hqq, hoq⟩
      obtain ⟨haq, qaq, caq⟩ := hL aq laq
      by_cases e : ¬ Pl q = Ln aq
      · skip
        refine ⟨0, (B aq (Pl q)) &&& (nI 255), B, Ln, Rm, Rd, va_up Pl q (Pl q + 1), Mk, G, Sz, by decide, Or.inl ⟨rfl, vCt.weak ((cb_read1 l D k sb L f x aW aG aR tr tg gW gG gR q (R q) (A aq) (AB aq) (Ln aq) 1 (Pl q) (Mk q) (Pl q) (Mk q) (C aq) hx.1 fx haW.1 faW haG.1 faG haR.1 faR hqq q1q q2q.1 frq qaq.1.1 qaq.2.1 qaq.2.2.1.1 qaq.2.2.2.1 qaq.2.2.2.2.1 hPq rfl (by omega))) (fun v9 w9 hp9 => ?_)⟩, fun o Kp th => ⟨_, fun pl => (mm_read0b l D k o pl sb B Ln Rm Rd Pl Mk G Sz Kp th q aq hqq hoq haq (hM.1 aq) hPq (by omega))⟩⟩
        obtain ⟨rfl, rfl⟩ := hp9
        exact ⟨_, _, (by rw [caq _ (by omega)]), rfl, (kKp.rf.up q2q.2), _, _, _, _, _, _, _, _, _, _, _, _, _, _, _, _, (cI.go hI hqq hoq (fun t _ n9 => va_up_nq _ n9) (va_up_eq _ _ _) (by omega))⟩
      · skip
        refine ⟨0, (-1 : Int32), B, Ln, Rm, Rd, Pl, Mk, G, Sz, by decide, Or.inl ⟨rfl, vCt.weak ((cb_read0 l D k sb L f x aW aG aR tr tg gW gG gR q (R q) (A aq) (AB aq) (Ln aq) 1 (Pl q) (Mk q) (Pl q) (Mk q) (C aq) hx.1 fx haW.1 faW haG.1 faG haR.1 faR hqq q1q q2q.1 frq qaq.1.1 qaq.2.1 qaq.2.2.1.1 qaq.2.2.2.1 qaq.2.2.2.2.1 hPq rfl (Classical.not_not.mp e))) (fun v9 w9 hp9 => ?_)⟩, fun o Kp th => ⟨_, fun pl => (mm_read0a l D k o pl sb B Ln Rm Rd Pl Mk G Sz Kp th q aq hqq hoq haq (hM.1 aq) hPq (Classical.not_not.mp e))⟩⟩
        obtain ⟨rfl, rfl⟩ := hp9
        exact ⟨_, _, rfl, rfl, kKp.rf, _, _, _, _, _, _, _, _, _, _, _, _, _, _, _, _, hI⟩
  · skip
    exact ⟨1, nI 0, B, Ln, Rm, Rd, Pl, Mk, G, Sz, by decide, Or.inr ⟨by decide, (ct_read1 l D k sb L f x aW aG aR tr tg gW gG gR p0 hl hx.1 fx haW.1 faW haG.1 faG haR.1 faR hvq), h0⟩, fun o Kp th => ⟨Kp, fun pl => (mm_read1 l D k o pl sb B Ln Rm Rd Pl Mk G Sz Kp th p0 hvq)⟩⟩
set_option maxHeartbeats 4000000 in
theorem cl_readPart (l : Launch) (D : va_G) (k : Nat → ClassId) (sb : Nat) (L : List Nat) (f : Nat → va_E) (Z : Nat → Prop) (x : Nat) (B : Nat → Nat → Int32) (Ln Rm : Nat → Nat) (Rd : Nat → Option Nat) (Pl Mk : Nat → Nat) (G : Nat → Nat → Int32) (Sz : Nat → Nat) (hl : l.stackTraces = false) (h : cInv k L f Z x B Ln Rm Rd Pl Mk G Sz) (hZ : ∀ a, Z a → a ∈ L) (p0 : Int32) (p1 : Int32) (p2 : Int32) (p3 : Int32) : ∃ (kk : Nat) (v : Int32) (B' : Nat → Nat → Int32) (Ln' Rm' : Nat → Nat) (Rd' : Nat → Option Nat) (Pl' Mk' : Nat → Nat) (G' : Nat → Nat → Int32) (Sz' : Nat → Nat), kk ≤ 2 ∧ ((kk = 0 ∧ vCt l yX3_readPart cX3_readPart 7 (some .int) 10 152 0 0 D vCl (vTy k) sb [.ref x, .int p0, .int p1, .int p2, .int p3] (va_pl L f) (kPost k L f Z x (.int v) B' Ln' Rm' Rd' Pl' Mk' G' Sz')) ∨ (0 < kk ∧ vCtX l yX3_readPart cX3_readPart 7 (some .int) 10 152 1 6 D vCl (vTy k) sb [.ref x, .int p0, .int p1, .int p2, .int p3] (va_pl L f) (["java/lang/IndexOutOfBoundsException", "java/lang/UnsupportedOperationException"].getD (kk - 1) "") ∧ cInv k L f Z x B' Ln' Rm' Rd' Pl' Mk' G' Sz')) ∧ ∀ (o : Nat → Nat) (Kp : Nat → Int32) (th : Int32), ∃ Kp' : Nat → Int32, ∀ pl : va_W, vCt l yX4_readPart cX4_readPart 5 (some .int) 3 72 0 0 D vCl (vTy k) sb [.ref (o 0), .int p0, .int p1, .int p2, .int p3] (mW k o pl B Ln Rm Rd Pl Mk G Sz Kp th) (vDet (some (.int v)) (mW k o pl B' Ln' Rm' Rd' Pl' Mk' G' Sz' Kp' (nI kk))) := by
  have h0 := h
  obtain ⟨aW, aG, aR, tr, tg, gW, gG, gR, A, AB, U, UR, UB, R, C, GU, hI⟩ := h
  obtain ⟨⟨hx, fx, haW, faW, haG, faG, haR, faR⟩, hRo, hL, hJ, hG, hU, hQ, hQ1, hT, hV, hM⟩ := id hI
  have hRm : ∀ r, r < 4 → Rm r < 8 := fun r hr => (hRo r hr).1
  have hRd : ∀ g, g < 3 → ∀ b, Rd g = some b → b < 8 := fun g hg b e => (hL b (Or.inr ⟨g, hg, e⟩)).1
  by_cases hvq : vOther p0
  · obtain ⟨q, hqq, rfl⟩ := vOther_of hvq
    obtain ⟨q1q, q2q, q3q, q4q⟩ := hQ q hqq
    by_cases hvr : vRow p1
    · obtain ⟨r, hrr, rfl⟩ := vRow_of hvr
      have ehr := (hRo r hrr).2
      have lvr : mLive Rm Rd (Rm r) := Or.inl ⟨r, hrr, rfl⟩
      obtain ⟨-, qwr, cwr⟩ := hL (Rm r) lvr
      by_cases hpt : vPt (Ln (Rm r)) p2 p3
      · obtain ⟨a, m, rfl, rfl, hp⟩ := hpt
        rcases hoq : Rd q with _ | aq
        · obtain ⟨wq, bq, nq, Pq, Mq, Tq, Mtq, gq, frq, qcq, hPq⟩ := q4q hoq
          exact ⟨2, nI 0, B, Ln, Rm, Rd, Pl, Mk, G, Sz, by decide, Or.inr ⟨by decide, (ct_readPart4 l D k sb L f x aW aG aR tr tg gW gG gR q (R q) wq bq nq 0 Pq Mq Tq Mtq gq r (A (Rm r)) (AB (Rm r)) (Ln (Rm r)) (C (Rm r)) a m hl hx.1 fx haW.1 faW haG.1 faG haR.1 faR hqq q1q q2q.1 frq qcq.1.1 qcq.2.1 qcq.2.2.1.1 qcq.2.2.2.1 qcq.2.2.2.2.1 hPq hrr ehr qwr.1.1 qwr.2.1 qwr.2.2.1.1 qwr.2.2.2.1 qwr.2.2.2.2.1 rfl hp), h0⟩, fun o Kp th => ⟨Kp, fun pl => (mm_readPart2 l D k o pl sb B Ln Rm Rd Pl Mk G Sz Kp th q r a m hqq hoq hrr hp hRm hM.1)⟩⟩
        · obtain ⟨frq, hPq, hMq⟩ := q3q aq hoq
          have laq : mLive Rm Rd aq := Or.inr ⟨q, hqq, hoq⟩
          obtain ⟨haq, qaq, caq⟩ := hL aq laq
          by_cases e : ¬ Pl q = Ln aq
          · skip
            obtain ⟨d, hd⟩ : ∃ d, d = min m (Ln aq - Pl q) := ⟨_, rfl⟩
            by_cases e2 : ¬ aq = Rm r
            · skip
              have hbb : AB aq ≠ AB (Rm r) := fun e => e2 (hJ aq (Rm r) laq lvr e)
              refine ⟨0, nI d, cpG B (Rm r) a d (fun j => B aq (Pl q + j)), Ln, Rm, Rd, va_up Pl q (Pl q + d), Mk, G, Sz, by decide, Or.inl ⟨rfl, vCt.weak ((cb_readPartD l D k sb L f x aW aG aR tr tg gW gG gR q (R q) (A aq) (AB aq) (Ln aq) 1 (Pl q) (Mk q) (Pl q) (Mk q) (C aq) r (A (Rm r)) (AB (Rm r)) (Ln (Rm r)) (C (Rm r)) a m d hx.1 fx haW.1 faW haG.1 faG haR.1 faR hqq q1q q2q.1 frq qaq.1.1 qaq.2.1 qaq.2.2.1.1 qaq.2.2.2.1 qaq.2.2.2.2.1 hPq hrr ehr qwr.1.1 qwr.2.1 qwr.2.2.1.1 qwr.2.2.2.1 qwr.2.2.2.2.1 rfl hbb (by omega) hp hd qaq.2.2.2.2.2)) (fun v9 w9 hp9 => ?_)⟩, fun o Kp th => ⟨_, fun pl => (mm_readPart0b l D k o pl sb B Ln Rm Rd Pl Mk G Sz Kp th q aq r a m d hqq hoq haq (hM.1 aq) hPq (by omega) hrr hp hd hRm hM.1)⟩⟩
              obtain ⟨rfl, rfl⟩ := hp9
              exact ⟨_, _, rfl, rfl, ((kKp.rf.up qwr.2.2.1.2).up q2q.2), _, _, _, _, _, _, _, _, _, _, _, _, _, _, _, _, (cI.go (cI.row hI lvr (g' := va_cpy (C aq) (C (Rm r)) (Pl q) a d) (B' := cpG B (Rm r) a d (fun j => B aq (Pl q + j))) (fun t _ n9 => va_up_nq _ n9) (va_up_eq _ _ _) (cpyfl qaq.2.2.2.2.2 qwr.2.2.2.2.2) (fun j hj => cpy_cpG hj (fun i hi _ => cwr i hi) (fun j hj => caq (Pl q + j) (by omega))) (fun b hb j => cpG_out hb j) (cpG_lb hM.2 (fun j _ => hM.2 _ _))) hqq hoq (fun t _ n9 => va_up_nq _ n9) (va_up_eq _ _ _) (by omega))⟩
            · skip
              have e3 := Classical.not_not.mp e2
              subst e3
              refine ⟨0, nI d, cpG B (Rm r) a d (fun j => B (Rm r) (Pl q + j)), Ln, Rm, Rd, va_up Pl q (Pl q + d), Mk, G, Sz, by decide, Or.inl ⟨rfl, vCt.weak ((cb_readPartS l D k sb L f x aW aG aR tr tg gW gG gR q (R q) (A (Rm r)) (AB (Rm r)) (Ln (Rm r)) 1 (Pl q) (Mk q) (Pl q) (Mk q) (C (Rm r)) r a m d hx.1 fx haW.1 faW haG.1 faG haR.1 faR hqq q1q q2q.1 frq qaq.1.1 qaq.2.1 qaq.2.2.1.1 qaq.2.2.2.1 qaq.2.2.2.2.1 hPq hrr ehr rfl (by omega) hp hd qaq.2.2.2.2.2)) (fun v9 w9 hp9 => ?_)⟩, fun o Kp th => ⟨_, fun pl => (mm_readPart0b l D k o pl sb B Ln Rm Rd Pl Mk G Sz Kp th q (Rm r) r a m d hqq hoq haq (hM.1 _) hPq (by omega) hrr hp hd hRm hM.1)⟩⟩
              obtain ⟨rfl, rfl⟩ := hp9
              exact ⟨_, _, rfl, rfl, ((kKp.rf.up qwr.2.2.1.2).up q2q.2), _, _, _, _, _, _, _, _, _, _, _, _, _, _, _, _, (cI.go (cI.row hI lvr (g' := va_cpy (C (Rm r)) (C (Rm r)) (Pl q) a d) (B' := cpG B (Rm r) a d (fun j => B (Rm r) (Pl q + j))) (fun t _ n9 => va_up_nq _ n9) (va_up_eq _ _ _) (cpyfl qaq.2.2.2.2.2 qwr.2.2.2.2.2) (fun j hj => cpy_cpG hj (fun i hi _ => cwr i hi) (fun j hj => caq (Pl q + j) (by omega))) (fun b hb j => cpG_out hb j) (cpG_lb hM.2 (fun j _ => hM.2 _ _))) hqq hoq (fun t _ n9 => va_up_nq _ n9) (va_up_eq _ _ _) (by omega))⟩
          · skip
            refine ⟨0, (-1 : Int32), B, Ln, Rm, Rd, Pl, Mk, G, Sz, by decide, Or.inl ⟨rfl, vCt.weak ((cb_readPart0 l D k sb L f x aW aG aR tr tg gW gG gR q (R q) (A aq) (AB aq) (Ln aq) 1 (Pl q) (Mk q) (Pl q) (Mk q) (C aq) r (A (Rm r)) (AB (Rm r)) (Ln (Rm r)) (C (Rm r)) a m hx.1 fx haW.1 faW haG.1 faG haR.1 faR hqq q1q q2q.1 frq qaq.1.1 qaq.2.1 qaq.2.2.1.1 qaq.2.2.2.1 qaq.2.2.2.2.1 hPq hrr ehr qwr.1.1 qwr.2.1 qwr.2.2.1.1 qwr.2.2.2.1 qwr.2.2.2.2.1 rfl hp (Classical.not_not.mp e))) (fun v9 w9 hp9 => ?_)⟩, fun o Kp th => ⟨_, fun pl => (mm_readPart0a l D k o pl sb B Ln Rm Rd Pl Mk G Sz Kp th q aq r a m hqq hoq haq (hM.1 aq) hPq (Classical.not_not.mp e) hrr hp hRm hM.1)⟩⟩
            obtain ⟨rfl, rfl⟩ := hp9
            exact ⟨_, _, rfl, rfl, kKp.rf, _, _, _, _, _, _, _, _, _, _, _, _, _, _, _, _, hI⟩
      · skip
        obtain ⟨wq, bq, nq, sq, Pq, Mq, Tq, Mtq, gq, frq, qcq, hPq⟩ := hI.anyR hqq
        exact ⟨1, nI 0, B, Ln, Rm, Rd, Pl, Mk, G, Sz, by decide, Or.inr ⟨by decide, (ct_readPart3 l D k sb L f x aW aG aR tr tg gW gG gR q (R q) wq bq nq sq Pq Mq Tq Mtq gq r (A (Rm r)) (AB (Rm r)) (Ln (Rm r)) (C (Rm r)) p2 p3 hl hx.1 fx haW.1 faW haG.1 faG haR.1 faR hqq q1q q2q.1 frq qcq.1.1 qcq.2.1 qcq.2.2.1.1 qcq.2.2.2.1 qcq.2.2.2.2.1 hPq hrr ehr qwr.1.1 qwr.2.1 qwr.2.2.1.1 qwr.2.2.2.1 qwr.2.2.2.2.1 hpt), h0⟩, fun o Kp th => ⟨Kp, fun pl => (mm_readPart1b l D k o pl sb B Ln Rm Rd Pl Mk G Sz Kp th q (nI r) p2 p3 hqq hRm hM.1 (part_to hrr hpt))⟩⟩
    · skip
      obtain ⟨wq, bq, nq, sq, Pq, Mq, Tq, Mtq, gq, frq, qcq, hPq⟩ := hI.anyR hqq
      exact ⟨1, nI 0, B, Ln, Rm, Rd, Pl, Mk, G, Sz, by decide, Or.inr ⟨by decide, (ct_readPart2 l D k sb L f x aW aG aR tr tg gW gG gR q (R q) wq bq nq sq Pq Mq Tq Mtq gq p1 p2 p3 hl hx.1 fx haW.1 faW haG.1 faG haR.1 faR hqq q1q q2q.1 frq qcq.1.1 qcq.2.1 qcq.2.2.1.1 qcq.2.2.2.1 qcq.2.2.2.2.1 hPq hvr), h0⟩, fun o Kp th => ⟨Kp, fun pl => (mm_readPart1b l D k o pl sb B Ln Rm Rd Pl Mk G Sz Kp th q p1 p2 p3 hqq hRm hM.1 (part_no hvr))⟩⟩
  · skip
    exact ⟨1, nI 0, B, Ln, Rm, Rd, Pl, Mk, G, Sz, by decide, Or.inr ⟨by decide, (ct_readPart1 l D k sb L f x aW aG aR tr tg gW gG gR p0 p1 p2 p3 hl hx.1 fx haW.1 faW haG.1 faG haR.1 faR hvq), h0⟩, fun o Kp th => ⟨Kp, fun pl => (mm_readPart1a l D k o pl sb B Ln Rm Rd Pl Mk G Sz Kp th p0 p1 p2 p3 hvq)⟩⟩
set_option maxHeartbeats 4000000 in
theorem cl_readFull (l : Launch) (D : va_G) (k : Nat → ClassId) (sb : Nat) (L : List Nat) (f : Nat → va_E) (Z : Nat → Prop) (x : Nat) (B : Nat → Nat → Int32) (Ln Rm : Nat → Nat) (Rd : Nat → Option Nat) (Pl Mk : Nat → Nat) (G : Nat → Nat → Int32) (Sz : Nat → Nat) (hl : l.stackTraces = false) (h : cInv k L f Z x B Ln Rm Rd Pl Mk G Sz) (hZ : ∀ a, Z a → a ∈ L) (p0 : Int32) (p1 : Int32) (p2 : Int32) (p3 : Int32) : ∃ (kk : Nat) (v : Int32) (B' : Nat → Nat → Int32) (Ln' Rm' : Nat → Nat) (Rd' : Nat → Option Nat) (Pl' Mk' : Nat → Nat) (G' : Nat → Nat → Int32) (Sz' : Nat → Nat), kk ≤ 3 ∧ ((kk = 0 ∧ vCt l yX3_readFull cX3_readFull 7 (some .int) 10 152 0 0 D vCl (vTy k) sb [.ref x, .int p0, .int p1, .int p2, .int p3] (va_pl L f) (kPost k L f Z x (.int v) B' Ln' Rm' Rd' Pl' Mk' G' Sz')) ∨ (0 < kk ∧ vCtX l yX3_readFull cX3_readFull 7 (some .int) 10 152 1 6 D vCl (vTy k) sb [.ref x, .int p0, .int p1, .int p2, .int p3] (va_pl L f) (["java/lang/IndexOutOfBoundsException", "java/lang/UnsupportedOperationException", "java/lang/IllegalArgumentException"].getD (kk - 1) "") ∧ cInv k L f Z x B' Ln' Rm' Rd' Pl' Mk' G' Sz')) ∧ ∀ (o : Nat → Nat) (Kp : Nat → Int32) (th : Int32), ∃ Kp' : Nat → Int32, ∀ pl : va_W, vCt l yX4_readFull cX4_readFull 5 (some .int) 3 72 0 0 D vCl (vTy k) sb [.ref (o 0), .int p0, .int p1, .int p2, .int p3] (mW k o pl B Ln Rm Rd Pl Mk G Sz Kp th) (vDet (some (.int v)) (mW k o pl B' Ln' Rm' Rd' Pl' Mk' G' Sz' Kp' (nI kk))) := by
  have h0 := h
  obtain ⟨aW, aG, aR, tr, tg, gW, gG, gR, A, AB, U, UR, UB, R, C, GU, hI⟩ := h
  obtain ⟨⟨hx, fx, haW, faW, haG, faG, haR, faR⟩, hRo, hL, hJ, hG, hU, hQ, hQ1, hT, hV, hM⟩ := id hI
  have hRm : ∀ r, r < 4 → Rm r < 8 := fun r hr => (hRo r hr).1
  have hRd : ∀ g, g < 3 → ∀ b, Rd g = some b → b < 8 := fun g hg b e => (hL b (Or.inr ⟨g, hg, e⟩)).1
  by_cases hvq : vOther p0
  · obtain ⟨q, hqq, rfl⟩ := vOther_of hvq
    obtain ⟨q1q, q2q, q3q, q4q⟩ := hQ q hqq
    by_cases hvr : vRow p1
    · obtain ⟨r, hrr, rfl⟩ := vRow_of hvr
      have ehr := (hRo r hrr).2
      have lvr : mLive Rm Rd (Rm r) := Or.inl ⟨r, hrr, rfl⟩
      obtain ⟨-, qwr, cwr⟩ := hL (Rm r) lvr
      by_cases hpt : vPt (Ln (Rm r)) p2 p3
      · obtain ⟨a, m, rfl, rfl, hp⟩ := hpt
        rcases hoq : Rd q with _ | aq
        · obtain ⟨wq, bq, nq, Pq, Mq, Tq, Mtq, gq, frq, qcq, hPq⟩ := q4q hoq
          exact ⟨2, nI 0, B, Ln, Rm, Rd, Pl, Mk, G, Sz, by decide, Or.inr ⟨by decide, (ct_readFull4 l D k sb L f x aW aG aR tr tg gW gG gR q (R q) wq bq nq 0 Pq Mq Tq Mtq gq r (A (Rm r)) (AB (Rm r)) (Ln (Rm r)) (C (Rm r)) a m hl hx.1 fx haW.1 faW haG.1 faG haR.1 faR hqq q1q q2q.1 frq qcq.1.1 qcq.2.1 qcq.2.2.1.1 qcq.2.2.2.1 qcq.2.2.2.2.1 hPq hrr ehr qwr.1.1 qwr.2.1 qwr.2.2.1.1 qwr.2.2.2.1 qwr.2.2.2.2.1 rfl hp), h0⟩, fun o Kp th => ⟨Kp, fun pl => (mm_readFull2 l D k o pl sb B Ln Rm Rd Pl Mk G Sz Kp th q r a m hqq hoq hrr hp hRm hM.1)⟩⟩
        · obtain ⟨frq, hPq, hMq⟩ := q3q aq hoq
          have laq : mLive Rm Rd aq := Or.inr ⟨q, hqq, hoq⟩
          obtain ⟨haq, qaq, caq⟩ := hL aq laq
          obtain ⟨d, hd⟩ : ∃ d, d = min m (Ln aq - Pl q) := ⟨_, rfl⟩
          by_cases e2 : ¬ aq = Rm r
          · skip
            have hbb : AB aq ≠ AB (Rm r) := fun e => e2 (hJ aq (Rm r) laq lvr e)
            refine ⟨0, nI d, cpG B (Rm r) a d (fun j => B aq (Pl q + j)), Ln, Rm, Rd, va_up Pl q (Pl q + d), Mk, G, Sz, by decide, Or.inl ⟨rfl, vCt.weak ((cb_readFull l D k sb L f x aW aG aR tr tg gW gG gR q (R q) (A aq) (AB aq) (Ln aq) 1 (Pl q) (Mk q) (Pl q) (Mk q) (C aq) r (A (Rm r)) (AB (Rm r)) (Ln (Rm r)) (C (Rm r)) a m d hx.1 fx haW.1 faW haG.1 faG haR.1 faR hqq q1q q2q.1 frq qaq.1.1 qaq.2.1 qaq.2.2.1.1 qaq.2.2.2.1 qaq.2.2.2.2.1 hPq hrr ehr qwr.1.1 qwr.2.1 qwr.2.2.1.1 qwr.2.2.2.1 qwr.2.2.2.2.1 rfl (fun e => hbb (refEq qaq.2.1 qwr.2.1 e)) hbb hp hd qaq.2.2.2.2.2)) (fun v9 w9 hp9 => ?_)⟩, fun o Kp th => ⟨_, fun pl => (mm_readFull0 l D k o pl sb B Ln Rm Rd Pl Mk G Sz Kp th q aq r a m d hqq hoq haq (hM.1 aq) hPq e2 hrr hp hd hRm hM.1)⟩⟩
            obtain ⟨rfl, rfl⟩ := hp9
            exact ⟨_, _, rfl, rfl, ((kKp.rf.up qwr.2.2.1.2).up q2q.2), _, _, _, _, _, _, _, _, _, _, _, _, _, _, _, _, (cI.go (cI.row hI lvr (g' := va_cpy (C aq) (C (Rm r)) (Pl q) a d) (B' := cpG B (Rm r) a d (fun j => B aq (Pl q + j))) (fun t _ n9 => va_up_nq _ n9) (va_up_eq _ _ _) (cpyfl qaq.2.2.2.2.2 qwr.2.2.2.2.2) (fun j hj => cpy_cpG hj (fun i hi _ => cwr i hi) (fun j hj => caq (Pl q + j) (by omega))) (fun b hb j => cpG_out hb j) (cpG_lb hM.2 (fun j _ => hM.2 _ _))) hqq hoq (fun t _ n9 => va_up_nq _ n9) (va_up_eq _ _ _) (by omega))⟩
          · skip
            have e3 := Classical.not_not.mp e2
            subst e3
            exact ⟨3, nI 0, B, Ln, Rm, Rd, Pl, Mk, G, Sz, by decide, Or.inr ⟨by decide, (ct_readFull5 l D k sb L f x aW aG aR tr tg gW gG gR q (R q) (A (Rm r)) (AB (Rm r)) (Ln (Rm r)) 1 (Pl q) (Mk q) (Pl q) (Mk q) (C (Rm r)) r a m hl hx.1 fx haW.1 faW haG.1 faG haR.1 faR hqq q1q q2q.1 frq qaq.1.1 qaq.2.1 qaq.2.2.1.1 qaq.2.2.2.1 qaq.2.2.2.2.1 hPq hrr ehr rfl hp), h0⟩, fun o Kp th => ⟨Kp, fun pl => (mm_readFull3 l D k o pl sb B Ln Rm Rd Pl Mk G Sz Kp th q (Rm r) r a m hqq hoq haq (hM.1 _) hPq rfl hrr hp hRm hM.1)⟩⟩
      · skip
        obtain ⟨wq, bq, nq, sq, Pq, Mq, Tq, Mtq, gq, frq, qcq, hPq⟩ := hI.anyR hqq
        exact ⟨1, nI 0, B, Ln, Rm, Rd, Pl, Mk, G, Sz, by decide, Or.inr ⟨by decide, (ct_readFull3 l D k sb L f x aW aG aR tr tg gW gG gR q (R q) wq bq nq sq Pq Mq Tq Mtq gq r (A (Rm r)) (AB (Rm r)) (Ln (Rm r)) (C (Rm r)) p2 p3 hl hx.1 fx haW.1 faW haG.1 faG haR.1 faR hqq q1q q2q.1 frq qcq.1.1 qcq.2.1 qcq.2.2.1.1 qcq.2.2.2.1 qcq.2.2.2.2.1 hPq hrr ehr qwr.1.1 qwr.2.1 qwr.2.2.1.1 qwr.2.2.2.1 qwr.2.2.2.2.1 hpt), h0⟩, fun o Kp th => ⟨Kp, fun pl => (mm_readFull1b l D k o pl sb B Ln Rm Rd Pl Mk G Sz Kp th q (nI r) p2 p3 hqq hRm hM.1 (part_to hrr hpt))⟩⟩
    · skip
      obtain ⟨wq, bq, nq, sq, Pq, Mq, Tq, Mtq, gq, frq, qcq, hPq⟩ := hI.anyR hqq
      exact ⟨1, nI 0, B, Ln, Rm, Rd, Pl, Mk, G, Sz, by decide, Or.inr ⟨by decide, (ct_readFull2 l D k sb L f x aW aG aR tr tg gW gG gR q (R q) wq bq nq sq Pq Mq Tq Mtq gq p1 p2 p3 hl hx.1 fx haW.1 faW haG.1 faG haR.1 faR hqq q1q q2q.1 frq qcq.1.1 qcq.2.1 qcq.2.2.1.1 qcq.2.2.2.1 qcq.2.2.2.2.1 hPq hvr), h0⟩, fun o Kp th => ⟨Kp, fun pl => (mm_readFull1b l D k o pl sb B Ln Rm Rd Pl Mk G Sz Kp th q p1 p2 p3 hqq hRm hM.1 (part_no hvr))⟩⟩
  · skip
    exact ⟨1, nI 0, B, Ln, Rm, Rd, Pl, Mk, G, Sz, by decide, Or.inr ⟨by decide, (ct_readFull1 l D k sb L f x aW aG aR tr tg gW gG gR p0 p1 p2 p3 hl hx.1 fx haW.1 faW haG.1 faG haR.1 faR hvq), h0⟩, fun o Kp th => ⟨Kp, fun pl => (mm_readFull1a l D k o pl sb B Ln Rm Rd Pl Mk G Sz Kp th p0 p1 p2 p3 hvq)⟩⟩
set_option maxHeartbeats 4000000 in
theorem cl_readSome (l : Launch) (D : va_G) (k : Nat → ClassId) (sb : Nat) (L : List Nat) (f : Nat → va_E) (Z : Nat → Prop) (x : Nat) (B : Nat → Nat → Int32) (Ln Rm : Nat → Nat) (Rd : Nat → Option Nat) (Pl Mk : Nat → Nat) (G : Nat → Nat → Int32) (Sz : Nat → Nat) (hl : l.stackTraces = false) (h : cInv k L f Z x B Ln Rm Rd Pl Mk G Sz) (hZ : ∀ a, Z a → a ∈ L) (p0 : Int32) (p1 : Int32) (p2 : Int32) : ∃ (kk : Nat) (v : Int32) (B' : Nat → Nat → Int32) (Ln' Rm' : Nat → Nat) (Rd' : Nat → Option Nat) (Pl' Mk' : Nat → Nat) (G' : Nat → Nat → Int32) (Sz' : Nat → Nat), kk ≤ 3 ∧ ((kk = 0 ∧ vCt l yX3_readSome cX3_readSome 5 (some .int) 9 151 2 257 D vCl (vTy k) sb [.ref x, .int p0, .int p1, .int p2] (va_pl L f) (kPost k L f Z x (.int v) B' Ln' Rm' Rd' Pl' Mk' G' Sz')) ∨ (0 < kk ∧ vCtX l yX3_readSome cX3_readSome 5 (some .int) 9 151 1 6 D vCl (vTy k) sb [.ref x, .int p0, .int p1, .int p2] (va_pl L f) (["java/lang/IndexOutOfBoundsException", "java/lang/IllegalArgumentException", "java/lang/UnsupportedOperationException"].getD (kk - 1) "") ∧ cInv k L f Z x B' Ln' Rm' Rd' Pl' Mk' G' Sz')) ∧ ∀ (o : Nat → Nat) (Kp : Nat → Int32) (th : Int32), ∃ Kp' : Nat → Int32, ∀ pl : va_W, vCt l yX4_readSome cX4_readSome 5 (some .int) 2 47 0 0 D vCl (vTy k) sb [.ref (o 0), .int p0, .int p1, .int p2] (mW k o pl B Ln Rm Rd Pl Mk G Sz Kp th) (vDet (some (.int v)) (mW k o pl B' Ln' Rm' Rd' Pl' Mk' G' Sz' Kp' (nI kk))) := by
  have h0 := h
  obtain ⟨aW, aG, aR, tr, tg, gW, gG, gR, A, AB, U, UR, UB, R, C, GU, hI⟩ := h
  obtain ⟨⟨hx, fx, haW, faW, haG, faG, haR, faR⟩, hRo, hL, hJ, hG, hU, hQ, hQ1, hT, hV, hM⟩ := id hI
  have hRm : ∀ r, r < 4 → Rm r < 8 := fun r hr => (hRo r hr).1
  have hRd : ∀ g, g < 3 → ∀ b, Rd g = some b → b < 8 := fun g hg b e => (hL b (Or.inr ⟨g, hg, e⟩)).1
  by_cases hvq : vOther p0
  · obtain ⟨q, hqq, rfl⟩ := vOther_of hvq
    obtain ⟨q1q, q2q, q3q, q4q⟩ := hQ q hqq
    by_cases hvr : vRow p1
    · obtain ⟨r, hrr, rfl⟩ := vRow_of hvr
      have ehr := (hRo r hrr).2
      have lvr : mLive Rm Rd (Rm r) := Or.inl ⟨r, hrr, rfl⟩
      obtain ⟨-, qwr, cwr⟩ := hL (Rm r) lvr
      by_cases h1 : ¬ p2 < nI 0
      · skip
        obtain ⟨m, hm, rfl⟩ := nI_of h1
        rcases hoq : Rd q with _ | aq
        · obtain ⟨wq, bq, nq, Pq, Mq, Tq, Mtq, gq, frq, qcq, hPq⟩ := q4q hoq
          exact ⟨3, nI 0, B, Ln, Rm, Rd, Pl, Mk, G, Sz, by decide, Or.inr ⟨by decide, (ct_readSome4 l D k sb L f x aW aG aR tr tg gW gG gR q (R q) wq bq nq 0 Pq Mq Tq Mtq gq r m hl hx.1 fx haW.1 faW haG.1 faG haR.1 faR hqq q1q q2q.1 frq qcq.1.1 qcq.2.1 qcq.2.2.1.1 qcq.2.2.2.1 qcq.2.2.2.2.1 hPq hrr rfl hm), h0⟩, fun o Kp th => ⟨Kp, fun pl => (mm_readSome3 l D k o pl sb B Ln Rm Rd Pl Mk G Sz Kp th q r m hqq hrr hm hoq)⟩⟩
        · obtain ⟨frq, hPq, hMq⟩ := q3q aq hoq
          have laq : mLive Rm Rd aq := Or.inr ⟨q, hqq, hoq⟩
          obtain ⟨haq, qaq, caq⟩ := hL aq laq
          obtain ⟨d, hd⟩ : ∃ d, d = min m (Ln aq - Pl q) := ⟨_, rfl⟩
          obtain ⟨F, hF⟩ := cFree Rm Rd
          refine ⟨0, nI d, cpB B F d (fun j => B aq (Pl q + j)), va_up Ln F d, va_up Rm r F, Rd, va_up Pl q (Pl q + d), Mk, G, Sz, by decide, Or.inl ⟨rfl, vCt.weak ((cb_readSome l D k sb L f x aW aG aR tr tg gW gG gR q (R q) (A aq) (AB aq) (Ln aq) 1 (Pl q) (Mk q) (Pl q) (Mk q) (C aq) r m d hx.1 fx haW.1 faW haG.1 faG haR.1 faR hqq q1q q2q.1 frq qaq.1.1 qaq.2.1 qaq.2.2.1.1 qaq.2.2.2.1 qaq.2.2.2.2.1 hPq hrr rfl hm hd qaq.2.2.2.2.2)) (fun v9 w9 hp9 => ?_)⟩, fun o Kp th => ⟨_, fun pl => (mm_readSome0 l D k o pl sb B Ln Rm Rd Pl Mk G Sz Kp th q aq r m d F hqq hoq haq (hM.1 aq) hPq hrr hm hd hF hRm hRd)⟩⟩
          obtain ⟨q9, qb9, L1, f1, hq9, hqb9, hk1, fW1, fR1, hqL, fq9, hqbL, fqb9, rfl, rfl⟩ := hp9
          have hI2 := cI.go (f' := va_up f (R q) (.inr (1, [.ref (A aq), .int (nI 1), .int (nI (Pl q + d)), .int (nI (Mk q)), .int (nI (Pl q + d)), .int (nI (Mk q))]))) hI hqq hoq (fun t _ n9 => va_up_nq _ n9) (va_up_eq _ _ _) (by omega)
          have hk2 : ∀ t, t ∈ L → t ∈ L1 ∧ (t ≠ aW → f1 t = va_up f (R q) (.inr (1, [.ref (A aq), .int (nI 1), .int (nI (Pl q + d)), .int (nI (Mk q)), .int (nI (Pl q + d)), .int (nI (Mk q))])) t) := fun t ht => ⟨(hk1 t ht).1, fun n1 => (by
            by_cases z : t = R q
            · rw [z, va_up_eq]; exact fR1
            · rw [va_up_nq _ z]; exact (hk1 t ht).2 n1 z)⟩
          exact ⟨_, _, rfl, rfl, (fun a ha => ⟨(hk1 a ha).1, fun hz => (hk1 a ha).2 (fun e => haW.2 (e ▸ hz)) (fun e => q2q.2 (e ▸ hz))⟩), _, _, _, _, _, _, _, _, _, _, _, _, _, _, _, _, (cI.anew hI2 hrr hF.1 hF.2.1 hZ hq9 hqb9 hk2 fW1 hqL fq9 hqbL fqb9 (by have := qaq.2.2.2.2.1; omega) (cpyfl qaq.2.2.2.2.2 (fun _ => rfl)) (fun j hj => (cpy0 hj).trans ((caq _ (by omega)).trans (cpB_in (s := fun j => B aq (Pl q + j)) hj).symm)) (fun b hb j => cpB_out hb j) (cpB_lb hM.2 (fun j _ => hM.2 _ _)))⟩
      · skip
        obtain ⟨wq, bq, nq, sq, Pq, Mq, Tq, Mtq, gq, frq, qcq, hPq⟩ := hI.anyR hqq
        exact ⟨2, nI 0, B, Ln, Rm, Rd, Pl, Mk, G, Sz, by decide, Or.inr ⟨by decide, (ct_readSome3 l D k sb L f x aW aG aR tr tg gW gG gR q (R q) wq bq nq sq Pq Mq Tq Mtq gq r p2 hl hx.1 fx haW.1 faW haG.1 faG haR.1 faR hqq q1q q2q.1 frq qcq.1.1 qcq.2.1 qcq.2.2.1.1 qcq.2.2.2.1 qcq.2.2.2.2.1 hPq hrr (Classical.not_not.mp h1)), h0⟩, fun o Kp th => ⟨Kp, fun pl => (mm_readSome2 l D k o pl sb B Ln Rm Rd Pl Mk G Sz Kp th q r p2 hqq hrr (Classical.not_not.mp h1))⟩⟩
    · skip
      obtain ⟨wq, bq, nq, sq, Pq, Mq, Tq, Mtq, gq, frq, qcq, hPq⟩ := hI.anyR hqq
      exact ⟨1, nI 0, B, Ln, Rm, Rd, Pl, Mk, G, Sz, by decide, Or.inr ⟨by decide, (ct_readSome2 l D k sb L f x aW aG aR tr tg gW gG gR q (R q) wq bq nq sq Pq Mq Tq Mtq gq p1 p2 hl hx.1 fx haW.1 faW haG.1 faG haR.1 faR hqq q1q q2q.1 frq qcq.1.1 qcq.2.1 qcq.2.2.1.1 qcq.2.2.2.1 qcq.2.2.2.2.1 hPq hvr), h0⟩, fun o Kp th => ⟨Kp, fun pl => (mm_readSome1b l D k o pl sb B Ln Rm Rd Pl Mk G Sz Kp th q p1 p2 hqq hvr)⟩⟩
  · skip
    exact ⟨1, nI 0, B, Ln, Rm, Rd, Pl, Mk, G, Sz, by decide, Or.inr ⟨by decide, (ct_readSome1 l D k sb L f x aW aG aR tr tg gW gG gR p0 p1 p2 hl hx.1 fx haW.1 faW haG.1 faG haR.1 faR hvq), h0⟩, fun o Kp th => ⟨Kp, fun pl => (mm_readSome1a l D k o pl sb B Ln Rm Rd Pl Mk G Sz Kp th p0 p1 p2 hvq)⟩⟩
set_option maxHeartbeats 4000000 in
theorem cl_readLine (l : Launch) (D : va_G) (k : Nat → ClassId) (sb : Nat) (L : List Nat) (f : Nat → va_E) (Z : Nat → Prop) (x : Nat) (B : Nat → Nat → Int32) (Ln Rm : Nat → Nat) (Rd : Nat → Option Nat) (Pl Mk : Nat → Nat) (G : Nat → Nat → Int32) (Sz : Nat → Nat) (hl : l.stackTraces = false) (h : cInv k L f Z x B Ln Rm Rd Pl Mk G Sz) (hZ : ∀ a, Z a → a ∈ L) (p0 : Int32) (p1 : Int32) : ∃ (kk : Nat) (v : Int32) (B' : Nat → Nat → Int32) (Ln' Rm' : Nat → Nat) (Rd' : Nat → Option Nat) (Pl' Mk' : Nat → Nat) (G' : Nat → Nat → Int32) (Sz' : Nat → Nat), kk ≤ 2 ∧ ((kk = 0 ∧ vCt l yX3_readLine cX3_readLine 5 (some .int) 9 151 2 257 D vCl (vTy k) sb [.ref x, .int p0, .int p1] (va_pl L f) (kPost k L f Z x (.int v) B' Ln' Rm' Rd' Pl' Mk' G' Sz')) ∨ (0 < kk ∧ vCtX l yX3_readLine cX3_readLine 5 (some .int) 9 151 1 6 D vCl (vTy k) sb [.ref x, .int p0, .int p1] (va_pl L f) (["java/lang/IndexOutOfBoundsException", "java/lang/UnsupportedOperationException"].getD (kk - 1) "") ∧ cInv k L f Z x B' Ln' Rm' Rd' Pl' Mk' G' Sz')) ∧ ∀ (o : Nat → Nat) (Kp : Nat → Int32) (th : Int32), ∃ Kp' : Nat → Int32, ∀ pl : va_W, vCt l yX4_readLine cX4_readLine 4 (some .int) 2 47 0 0 D vCl (vTy k) sb [.ref (o 0), .int p0, .int p1] (mW k o pl B Ln Rm Rd Pl Mk G Sz Kp th) (vDet (some (.int v)) (mW k o pl B' Ln' Rm' Rd' Pl' Mk' G' Sz' Kp' (nI kk))) := by
  have h0 := h
  obtain ⟨aW, aG, aR, tr, tg, gW, gG, gR, A, AB, U, UR, UB, R, C, GU, hI⟩ := h
  obtain ⟨⟨hx, fx, haW, faW, haG, faG, haR, faR⟩, hRo, hL, hJ, hG, hU, hQ, hQ1, hT, hV, hM⟩ := id hI
  have hRm : ∀ r, r < 4 → Rm r < 8 := fun r hr => (hRo r hr).1
  have hRd : ∀ g, g < 3 → ∀ b, Rd g = some b → b < 8 := fun g hg b e => (hL b (Or.inr ⟨g, hg, e⟩)).1
  by_cases hvq : vOther p0
  · obtain ⟨q, hqq, rfl⟩ := vOther_of hvq
    obtain ⟨q1q, q2q, q3q, q4q⟩ := hQ q hqq
    by_cases hvr : vRow p1
    · obtain ⟨r, hrr, rfl⟩ := vRow_of hvr
      have ehr := (hRo r hrr).2
      have lvr : mLive Rm Rd (Rm r) := Or.inl ⟨r, hrr, rfl⟩
      obtain ⟨-, qwr, cwr⟩ := hL (Rm r) lvr
      rcases hoq : Rd q with _ | aq
      · obtain ⟨wq, bq, nq, Pq, Mq, Tq, Mtq, gq, frq, qcq, hPq⟩ := q4q hoq
        exact ⟨2, nI 0, B, Ln, Rm, Rd, Pl, Mk, G, Sz, by decide, Or.inr ⟨by decide, (ct_readLine3 l D k sb L f x aW aG aR tr tg gW gG gR q (R q) wq bq nq 0 Pq Mq Tq Mtq gq r hl hx.1 fx haW.1 faW haG.1 faG haR.1 faR hqq q1q q2q.1 frq qcq.1.1 qcq.2.1 qcq.2.2.1.1 qcq.2.2.2.1 qcq.2.2.2.2.1 hPq hrr rfl), h0⟩, fun o Kp th => ⟨Kp, fun pl => (mm_readLine2 l D k o pl sb B Ln Rm Rd Pl Mk G Sz Kp th q r hqq hrr hoq)⟩⟩
      · obtain ⟨frq, hPq, hMq⟩ := q3q aq hoq
        have laq : mLive Rm Rd aq := Or.inr ⟨q, hqq, hoq⟩
        obtain ⟨haq, qaq, caq⟩ := hL aq laq
        by_cases e : ¬ Pl q = Ln aq
        · skip
          obtain ⟨d, hd, hb, hc⟩ := firstP (fun j => B aq (Pl q + j) = nI 10) (Ln aq - Pl q)
          obtain ⟨F, hF⟩ := cFree Rm Rd
          have hnv : ∀ j, j < d → ¬ (C aq (Pl q + j)) &&& nI 255 = nI 10 := fun j hj => by
            rw [lbTen (qaq.2.2.2.2.2 _), caq _ (by omega)]; exact hb j hj
          rcases hc with hc | ⟨hc, hv⟩
          · skip
            refine ⟨0, nI d, cpB B F d (fun j => B aq (Pl q + j)), va_up Ln F d, va_up Rm r F, Rd, va_up Pl q (Pl q + d), Mk, G, Sz, by decide, Or.inl ⟨rfl, vCt.weak ((cb_readLineA l D k sb L f x aW aG aR tr tg gW gG gR q (R q) (A aq) (AB aq) (Ln aq) 1 (Pl q) (Mk q) (Pl q) (Mk q) (C aq) r d hx.1 fx haW.1 faW haG.1 faG haR.1 faR hqq q1q q2q.1 frq qaq.1.1 qaq.2.1 qaq.2.2.1.1 qaq.2.2.2.1 qaq.2.2.2.2.1 hPq hrr rfl (by omega) hd hnv hc qaq.2.2.2.2.2)) (fun v9 w9 hp9 => ?_)⟩, fun o Kp th => ⟨_, fun pl => (mm_readLine0b l D k o pl sb B Ln Rm Rd Pl Mk G Sz Kp th q aq r d F hqq hoq haq (hM.1 aq) hPq hrr (by omega) hd hb hc hF hRm hRd)⟩⟩
            obtain ⟨q9, qb9, L1, f1, hq9, hqb9, hk1, fW1, fR1, hqL, fq9, hqbL, fqb9, rfl, rfl⟩ := hp9
            have hI2 := cI.go (f' := va_up f (R q) (.inr (1, [.ref (A aq), .int (nI 1), .int (nI (Pl q + d)), .int (nI (Mk q)), .int (nI (Pl q + d)), .int (nI (Mk q))]))) hI hqq hoq (fun t _ n9 => va_up_nq _ n9) (va_up_eq _ _ _) (by omega)
            have hk2 : ∀ t, t ∈ L → t ∈ L1 ∧ (t ≠ aW → f1 t = va_up f (R q) (.inr (1, [.ref (A aq), .int (nI 1), .int (nI (Pl q + d)), .int (nI (Mk q)), .int (nI (Pl q + d)), .int (nI (Mk q))])) t) := fun t ht => ⟨(hk1 t ht).1, fun n1 => (by
              by_cases z : t = R q
              · rw [z, va_up_eq]; exact fR1
              · rw [va_up_nq _ z]; exact (hk1 t ht).2 n1 z)⟩
            exact ⟨_, _, rfl, rfl, (fun a ha => ⟨(hk1 a ha).1, fun hz => (hk1 a ha).2 (fun e => haW.2 (e ▸ hz)) (fun e => q2q.2 (e ▸ hz))⟩), _, _, _, _, _, _, _, _, _, _, _, _, _, _, _, _, (cI.anew hI2 hrr hF.1 hF.2.1 hZ hq9 hqb9 hk2 fW1 hqL fq9 hqbL fqb9 (by have := qaq.2.2.2.2.1; omega) (cpyfl qaq.2.2.2.2.2 (fun _ => rfl)) (fun j hj => (cpy0 hj).trans ((caq _ (by omega)).trans (cpB_in (s := fun j => B aq (Pl q + j)) hj).symm)) (fun b hb j => cpB_out hb j) (cpB_lb hM.2 (fun j _ => hM.2 _ _)))⟩
          · skip
            refine ⟨0, nI d, cpB B F d (fun j => B aq (Pl q + j)), va_up Ln F d, va_up Rm r F, Rd, va_up Pl q (Pl q + (d + 1)), Mk, G, Sz, by decide, Or.inl ⟨rfl, vCt.weak ((cb_readLineB l D k sb L f x aW aG aR tr tg gW gG gR q (R q) (A aq) (AB aq) (Ln aq) 1 (Pl q) (Mk q) (Pl q) (Mk q) (C aq) r d hx.1 fx haW.1 faW haG.1 faG haR.1 faR hqq q1q q2q.1 frq qaq.1.1 qaq.2.1 qaq.2.2.1.1 qaq.2.2.2.1 qaq.2.2.2.2.1 hPq hrr rfl (by omega) hd hnv hc (by rw [lbTen (qaq.2.2.2.2.2 _), caq _ (by omega)]; exact hv) qaq.2.2.2.2.2)) (fun v9 w9 hp9 => ?_)⟩, fun o Kp th => ⟨_, fun pl => (mm_readLine0c l D k o pl sb B Ln Rm Rd Pl Mk G Sz Kp th q aq r d F hqq hoq haq (hM.1 aq) hPq hrr hd hb hc hv hF hRm hRd)⟩⟩
            obtain ⟨q9, qb9, L1, f1, hq9, hqb9, hk1, fW1, fR1, hqL, fq9, hqbL, fqb9, rfl, rfl⟩ := hp9
            have hI2 := cI.go (f' := va_up f (R q) (.inr (1, [.ref (A aq), .int (nI 1), .int (nI (Pl q + (d + 1))), .int (nI (Mk q)), .int (nI (Pl q + (d + 1))), .int (nI (Mk q))]))) hI hqq hoq (fun t _ n9 => va_up_nq _ n9) (va_up_eq _ _ _) (by omega)
            have hk2 : ∀ t, t ∈ L → t ∈ L1 ∧ (t ≠ aW → f1 t = va_up f (R q) (.inr (1, [.ref (A aq), .int (nI 1), .int (nI (Pl q + (d + 1))), .int (nI (Mk q)), .int (nI (Pl q + (d + 1))), .int (nI (Mk q))])) t) := fun t ht => ⟨(hk1 t ht).1, fun n1 => (by
              by_cases z : t = R q
              · rw [z, va_up_eq]; exact fR1
              · rw [va_up_nq _ z]; exact (hk1 t ht).2 n1 z)⟩
            exact ⟨_, _, rfl, rfl, (fun a ha => ⟨(hk1 a ha).1, fun hz => (hk1 a ha).2 (fun e => haW.2 (e ▸ hz)) (fun e => q2q.2 (e ▸ hz))⟩), _, _, _, _, _, _, _, _, _, _, _, _, _, _, _, _, (cI.anew hI2 hrr hF.1 hF.2.1 hZ hq9 hqb9 hk2 fW1 hqL fq9 hqbL fqb9 (by have := qaq.2.2.2.2.1; omega) (cpyfl qaq.2.2.2.2.2 (fun _ => rfl)) (fun j hj => (cpy0 hj).trans ((caq _ (by omega)).trans (cpB_in (s := fun j => B aq (Pl q + j)) hj).symm)) (fun b hb j => cpB_out hb j) (cpB_lb hM.2 (fun j _ => hM.2 _ _)))⟩
        · skip
          refine ⟨0, (-1 : Int32), B, Ln, Rm, Rd, Pl, Mk, G, Sz, by decide, Or.inl ⟨rfl, vCt.weak (vCt.more (cb_readLine0 l D k sb L f x aW aG aR tr tg gW gG gR q (R q) (A aq) (AB aq) (Ln aq) 1 (Pl q) (Mk q) (Pl q) (Mk q) (C aq) r hx.1 fx haW.1 faW haG.1 faG haR.1 faR hqq q1q q2q.1 frq qaq.1.1 qaq.2.1 qaq.2.2.1.1 qaq.2.2.2.1 qaq.2.2.2.2.1 hPq hrr rfl (Classical.not_not.mp e)) (Nat.le_of_ble_eq_true rfl) (Nat.le_of_ble_eq_true rfl)) (fun v9 w9 hp9 => ?_)⟩, fun o Kp th => ⟨_, fun pl => (mm_readLine0a l D k o pl sb B Ln Rm Rd Pl Mk G Sz Kp th q aq r hqq hoq haq (hM.1 aq) hPq hrr (Classical.not_not.mp e))⟩⟩
          obtain ⟨rfl, rfl⟩ := hp9
          exact ⟨_, _, rfl, rfl, kKp.rf, _, _, _, _, _, _, _, _, _, _, _, _, _, _, _, _, hI⟩
    · skip
      obtain ⟨wq, bq, nq, sq, Pq, Mq, Tq, Mtq, gq, frq, qcq, hPq⟩ := hI.anyR hqq
      exact ⟨1, nI 0, B, Ln, Rm, Rd, Pl, Mk, G, Sz, by decide, Or.inr ⟨by decide, (ct_readLine2 l D k sb L f x aW aG aR tr tg gW gG gR q (R q) wq bq nq sq Pq Mq Tq Mtq gq p1 hl hx.1 fx haW.1 faW haG.1 faG haR.1 faR hqq q1q q2q.1 frq qcq.1.1 qcq.2.1 qcq.2.2.1.1 qcq.2.2.2.1 qcq.2.2.2.2.1 hPq hvr), h0⟩, fun o Kp th => ⟨Kp, fun pl => (mm_readLine1b l D k o pl sb B Ln Rm Rd Pl Mk G Sz Kp th q p1 hqq hvr)⟩⟩
  · skip
    exact ⟨1, nI 0, B, Ln, Rm, Rd, Pl, Mk, G, Sz, by decide, Or.inr ⟨by decide, (ct_readLine1 l D k sb L f x aW aG aR tr tg gW gG gR p0 p1 hl hx.1 fx haW.1 faW haG.1 faG haR.1 faR hvq), h0⟩, fun o Kp th => ⟨Kp, fun pl => (mm_readLine1a l D k o pl sb B Ln Rm Rd Pl Mk G Sz Kp th p0 p1 hvq)⟩⟩
set_option maxHeartbeats 4000000 in
theorem cl_readNumber (l : Launch) (D : va_G) (k : Nat → ClassId) (sb : Nat) (L : List Nat) (f : Nat → va_E) (Z : Nat → Prop) (x : Nat) (B : Nat → Nat → Int32) (Ln Rm : Nat → Nat) (Rd : Nat → Option Nat) (Pl Mk : Nat → Nat) (G : Nat → Nat → Int32) (Sz : Nat → Nat) (hl : l.stackTraces = false) (h : cInv k L f Z x B Ln Rm Rd Pl Mk G Sz) (hZ : ∀ a, Z a → a ∈ L) (p0 : Int32) : ∃ (kk : Nat) (v : Int32) (B' : Nat → Nat → Int32) (Ln' Rm' : Nat → Nat) (Rd' : Nat → Option Nat) (Pl' Mk' : Nat → Nat) (G' : Nat → Nat → Int32) (Sz' : Nat → Nat), kk ≤ 3 ∧ ((kk = 0 ∧ vCt l yX3_readNumber cX3_readNumber 5 (some .int) 9 131 0 0 D vCl (vTy k) sb [.ref x, .int p0] (va_pl L f) (kPost k L f Z x (.int v) B' Ln' Rm' Rd' Pl' Mk' G' Sz')) ∨ (0 < kk ∧ vCtX l yX3_readNumber cX3_readNumber 5 (some .int) 9 131 1 6 D vCl (vTy k) sb [.ref x, .int p0] (va_pl L f) (["java/lang/IndexOutOfBoundsException", "java/lang/UnsupportedOperationException", "java/util/NoSuchElementException"].getD (kk - 1) "") ∧ cInv k L f Z x B' Ln' Rm' Rd' Pl' Mk' G' Sz')) ∧ ∀ (o : Nat → Nat) (Kp : Nat → Int32) (th : Int32), ∃ Kp' : Nat → Int32, ∀ pl : va_W, vCt l yX4_readNumber cX4_readNumber 4 (some .int) 2 46 0 0 D vCl (vTy k) sb [.ref (o 0), .int p0] (mW k o pl B Ln Rm Rd Pl Mk G Sz Kp th) (vDet (some (.int v)) (mW k o pl B' Ln' Rm' Rd' Pl' Mk' G' Sz' Kp' (nI kk))) := by
  have h0 := h
  obtain ⟨aW, aG, aR, tr, tg, gW, gG, gR, A, AB, U, UR, UB, R, C, GU, hI⟩ := h
  obtain ⟨⟨hx, fx, haW, faW, haG, faG, haR, faR⟩, hRo, hL, hJ, hG, hU, hQ, hQ1, hT, hV, hM⟩ := id hI
  have hRm : ∀ r, r < 4 → Rm r < 8 := fun r hr => (hRo r hr).1
  have hRd : ∀ g, g < 3 → ∀ b, Rd g = some b → b < 8 := fun g hg b e => (hL b (Or.inr ⟨g, hg, e⟩)).1
  by_cases hvq : vOther p0
  · obtain ⟨q, hqq, rfl⟩ := vOther_of hvq
    obtain ⟨q1q, q2q, q3q, q4q⟩ := hQ q hqq
    rcases hoq : Rd q with _ | aq
    · obtain ⟨wq, bq, nq, Pq, Mq, Tq, Mtq, gq, frq, qcq, hPq⟩ := q4q hoq
      exact ⟨2, nI 0, B, Ln, Rm, Rd, Pl, Mk, G, Sz, by decide, Or.inr ⟨by decide, (ct_readNumber2 l D k sb L f x aW aG aR tr tg gW gG gR q (R q) wq bq nq 0 Pq Mq Tq Mtq gq hl hx.1 fx haW.1 faW haG.1 faG haR.1 faR hqq q1q q2q.1 frq qcq.1.1 qcq.2.1 qcq.2.2.1.1 qcq.2.2.2.1 qcq.2.2.2.2.1 hPq rfl), h0⟩, fun o Kp th => ⟨Kp, fun pl => (mm_readNumber2 l D k o pl sb B Ln Rm Rd Pl Mk G Sz Kp th q hqq hoq)⟩⟩
    · obtain ⟨frq, hPq, hMq⟩ := q3q aq hoq
      have laq : mLive Rm Rd aq := Or.inr ⟨q, hqq, hoq⟩
      obtain ⟨haq, qaq, caq⟩ := hL aq laq
      by_cases e : Pl q + 4 ≤ Ln aq
      · skip
        refine ⟨0, rdN (fun j => B aq (Pl q + j)) 4, B, Ln, Rm, Rd, va_up Pl q (Pl q + 4), Mk, G, Sz, by decide, Or.inl ⟨rfl, vCt.weak ((cb_readNumber l D k sb L f x aW aG aR tr tg gW gG gR q (R q) (A aq) (AB aq) (Ln aq) 1 (Pl q) (Mk q) (Pl q) (Mk q) (C aq) hx.1 fx haW.1 faW haG.1 faG haR.1 faR hqq q1q q2q.1 frq qaq.1.1 qaq.2.1 qaq.2.2.1.1 qaq.2.2.2.1 qaq.2.2.2.2.1 hPq rfl e)) (fun v9 w9 hp9 => ?_)⟩, fun o Kp th => ⟨_, fun pl => (mm_readNumber0 l D k o pl sb B Ln Rm Rd Pl Mk G Sz Kp th q aq hqq hoq haq (hM.1 aq) hPq e)⟩⟩
        obtain ⟨rfl, rfl⟩ := hp9
        exact ⟨_, _, (congrArg (fun z => some (Value.int z)) (rdN_congr (fun j hj => caq _ (by omega)))), rfl, (kKp.rf.up q2q.2), _, _, _, _, _, _, _, _, _, _, _, _, _, _, _, _, (cI.go hI hqq hoq (fun t _ n9 => va_up_nq _ n9) (va_up_eq _ _ _) (by omega))⟩
      · skip
        exact ⟨3, nI 0, B, Ln, Rm, Rd, Pl, Mk, G, Sz, by decide, Or.inr ⟨by decide, (ct_readNumber3 l D k sb L f x aW aG aR tr tg gW gG gR q (R q) (A aq) (AB aq) (Ln aq) 1 (Pl q) (Mk q) (Pl q) (Mk q) (C aq) hl hx.1 fx haW.1 faW haG.1 faG haR.1 faR hqq q1q q2q.1 frq qaq.1.1 qaq.2.1 qaq.2.2.1.1 qaq.2.2.2.1 qaq.2.2.2.2.1 hPq rfl hPq (by omega)), h0⟩, fun o Kp th => ⟨Kp, fun pl => (mm_readNumber3 l D k o pl sb B Ln Rm Rd Pl Mk G Sz Kp th q aq hqq hoq haq (hM.1 aq) hPq (by omega))⟩⟩
  · skip
    exact ⟨1, nI 0, B, Ln, Rm, Rd, Pl, Mk, G, Sz, by decide, Or.inr ⟨by decide, (ct_readNumber1 l D k sb L f x aW aG aR tr tg gW gG gR p0 hl hx.1 fx haW.1 faW haG.1 faG haR.1 faR hvq), h0⟩, fun o Kp th => ⟨Kp, fun pl => (mm_readNumber1 l D k o pl sb B Ln Rm Rd Pl Mk G Sz Kp th p0 hvq)⟩⟩
set_option maxHeartbeats 4000000 in
theorem cl_find (l : Launch) (D : va_G) (k : Nat → ClassId) (sb : Nat) (L : List Nat) (f : Nat → va_E) (Z : Nat → Prop) (x : Nat) (B : Nat → Nat → Int32) (Ln Rm : Nat → Nat) (Rd : Nat → Option Nat) (Pl Mk : Nat → Nat) (G : Nat → Nat → Int32) (Sz : Nat → Nat) (hl : l.stackTraces = false) (h : cInv k L f Z x B Ln Rm Rd Pl Mk G Sz) (hZ : ∀ a, Z a → a ∈ L) (p0 : Int32) (p1 : Int32) : ∃ (kk : Nat) (v : Int32) (B' : Nat → Nat → Int32) (Ln' Rm' : Nat → Nat) (Rd' : Nat → Option Nat) (Pl' Mk' : Nat → Nat) (G' : Nat → Nat → Int32) (Sz' : Nat → Nat), kk ≤ 2 ∧ ((kk = 0 ∧ vCt l yX3_find cX3_find 5 (some .int) 9 131 0 0 D vCl (vTy k) sb [.ref x, .int p0, .int p1] (va_pl L f) (kPost k L f Z x (.int v) B' Ln' Rm' Rd' Pl' Mk' G' Sz')) ∨ (0 < kk ∧ vCtX l yX3_find cX3_find 5 (some .int) 9 131 1 6 D vCl (vTy k) sb [.ref x, .int p0, .int p1] (va_pl L f) (["java/lang/IndexOutOfBoundsException", "java/lang/UnsupportedOperationException"].getD (kk - 1) "") ∧ cInv k L f Z x B' Ln' Rm' Rd' Pl' Mk' G' Sz')) ∧ ∀ (o : Nat → Nat) (Kp : Nat → Int32) (th : Int32), ∃ Kp' : Nat → Int32, ∀ pl : va_W, vCt l yX4_find cX4_find 5 (some .int) 2 42 0 0 D vCl (vTy k) sb [.ref (o 0), .int p0, .int p1] (mW k o pl B Ln Rm Rd Pl Mk G Sz Kp th) (vDet (some (.int v)) (mW k o pl B' Ln' Rm' Rd' Pl' Mk' G' Sz' Kp' (nI kk))) := by
  have h0 := h
  obtain ⟨aW, aG, aR, tr, tg, gW, gG, gR, A, AB, U, UR, UB, R, C, GU, hI⟩ := h
  obtain ⟨⟨hx, fx, haW, faW, haG, faG, haR, faR⟩, hRo, hL, hJ, hG, hU, hQ, hQ1, hT, hV, hM⟩ := id hI
  have hRm : ∀ r, r < 4 → Rm r < 8 := fun r hr => (hRo r hr).1
  have hRd : ∀ g, g < 3 → ∀ b, Rd g = some b → b < 8 := fun g hg b e => (hL b (Or.inr ⟨g, hg, e⟩)).1
  by_cases hvq : vOther p0
  · obtain ⟨q, hqq, rfl⟩ := vOther_of hvq
    obtain ⟨q1q, q2q, q3q, q4q⟩ := hQ q hqq
    rcases hoq : Rd q with _ | aq
    · obtain ⟨wq, bq, nq, Pq, Mq, Tq, Mtq, gq, frq, qcq, hPq⟩ := q4q hoq
      exact ⟨2, nI 0, B, Ln, Rm, Rd, Pl, Mk, G, Sz, by decide, Or.inr ⟨by decide, (ct_find2 l D k sb L f x aW aG aR tr tg gW gG gR q (R q) wq bq nq 0 Pq Mq Tq Mtq gq p1 hl hx.1 fx haW.1 faW haG.1 faG haR.1 faR hqq q1q q2q.1 frq qcq.1.1 qcq.2.1 qcq.2.2.1.1 qcq.2.2.2.1 qcq.2.2.2.2.1 hPq rfl), h0⟩, fun o Kp th => ⟨Kp, fun pl => (mm_find2 l D k o pl sb B Ln Rm Rd Pl Mk G Sz Kp th q p1 hqq hoq)⟩⟩
    · obtain ⟨frq, hPq, hMq⟩ := q3q aq hoq
      have laq : mLive Rm Rd aq := Or.inr ⟨q, hqq, hoq⟩
      obtain ⟨haq, qaq, caq⟩ := hL aq laq
      obtain ⟨d, hd, hb, hc⟩ := firstP (fun j => (B aq (Pl q + j)) &&& nI 255 = p1) (Ln aq - Pl q)
      have hnv : ∀ j, j < d → ¬ (C aq (Pl q + j)) &&& nI 255 = p1 := fun j hj => by
        rw [caq _ (by omega)]; exact hb j hj
      rcases hc with hc | ⟨hc, hv⟩
      · skip
        refine ⟨0, (-1 : Int32) - (nI d), B, Ln, Rm, Rd, va_up Pl q (Pl q + d), Mk, G, Sz, by decide, Or.inl ⟨rfl, vCt.weak ((cb_findA l D k sb L f x aW aG aR tr tg gW gG gR q (R q) (A aq) (AB aq) (Ln aq) 1 (Pl q) (Mk q) (Pl q) (Mk q) (C aq) d p1 hx.1 fx haW.1 faW haG.1 faG haR.1 faR hqq q1q q2q.1 frq qaq.1.1 qaq.2.1 qaq.2.2.1.1 qaq.2.2.2.1 qaq.2.2.2.2.1 hPq rfl hd hnv hc)) (fun v9 w9 hp9 => ?_)⟩, fun o Kp th => ⟨_, fun pl => (mm_find0a l D k o pl sb B Ln Rm Rd Pl Mk G Sz Kp th q aq d p1 hqq hoq haq (hM.1 aq) hPq hd hb hc)⟩⟩
        obtain ⟨rfl, rfl⟩ := hp9
        exact ⟨_, _, rfl, rfl, (kKp.rf.up q2q.2), _, _, _, _, _, _, _, _, _, _, _, _, _, _, _, _, (cI.go hI hqq hoq (fun t _ n9 => va_up_nq _ n9) (va_up_eq _ _ _) (by omega))⟩
      · skip
        refine ⟨0, nI (d + 1), B, Ln, Rm, Rd, va_up Pl q (Pl q + (d + 1)), Mk, G, Sz, by decide, Or.inl ⟨rfl, vCt.weak ((cb_findB l D k sb L f x aW aG aR tr tg gW gG gR q (R q) (A aq) (AB aq) (Ln aq) 1 (Pl q) (Mk q) (Pl q) (Mk q) (C aq) d p1 hx.1 fx haW.1 faW haG.1 faG haR.1 faR hqq q1q q2q.1 frq qaq.1.1 qaq.2.1 qaq.2.2.1.1 qaq.2.2.2.1 qaq.2.2.2.2.1 hPq rfl hd hnv hc (by rw [caq _ (by omega)]; exact hv))) (fun v9 w9 hp9 => ?_)⟩, fun o Kp th => ⟨_, fun pl => (mm_find0b l D k o pl sb B Ln Rm Rd Pl Mk G Sz Kp th q aq d p1 hqq hoq haq (hM.1 aq) hPq hd hb hc hv)⟩⟩
        obtain ⟨rfl, rfl⟩ := hp9
        exact ⟨_, _, rfl, rfl, (kKp.rf.up q2q.2), _, _, _, _, _, _, _, _, _, _, _, _, _, _, _, _, (cI.go hI hqq hoq (fun t _ n9 => va_up_nq _ n9) (va_up_eq _ _ _) (by omega))⟩
  · skip
    exact ⟨1, nI 0, B, Ln, Rm, Rd, Pl, Mk, G, Sz, by decide, Or.inr ⟨by decide, (ct_find1 l D k sb L f x aW aG aR tr tg gW gG gR p0 p1 hl hx.1 fx haW.1 faW haG.1 faG haR.1 faR hvq), h0⟩, fun o Kp th => ⟨Kp, fun pl => (mm_find1 l D k o pl sb B Ln Rm Rd Pl Mk G Sz Kp th p0 p1 hvq)⟩⟩
set_option maxHeartbeats 4000000 in
theorem cl_skip (l : Launch) (D : va_G) (k : Nat → ClassId) (sb : Nat) (L : List Nat) (f : Nat → va_E) (Z : Nat → Prop) (x : Nat) (B : Nat → Nat → Int32) (Ln Rm : Nat → Nat) (Rd : Nat → Option Nat) (Pl Mk : Nat → Nat) (G : Nat → Nat → Int32) (Sz : Nat → Nat) (hl : l.stackTraces = false) (h : cInv k L f Z x B Ln Rm Rd Pl Mk G Sz) (hZ : ∀ a, Z a → a ∈ L) (p0 : Int32) (p1 : Int64) : ∃ (kk : Nat) (v : Int64) (B' : Nat → Nat → Int32) (Ln' Rm' : Nat → Nat) (Rd' : Nat → Option Nat) (Pl' Mk' : Nat → Nat) (G' : Nat → Nat → Int32) (Sz' : Nat → Nat), kk ≤ 3 ∧ ((kk = 0 ∧ vCt l yX3_skip cX3_skip 5 (some .long) 9 131 0 0 D vCl (vTy k) sb [.ref x, .int p0, .long p1] (va_pl L f) (kPost k L f Z x (.long v) B' Ln' Rm' Rd' Pl' Mk' G' Sz')) ∨ (0 < kk ∧ vCtX l yX3_skip cX3_skip 5 (some .long) 9 131 1 6 D vCl (vTy k) sb [.ref x, .int p0, .long p1] (va_pl L f) (["java/lang/IndexOutOfBoundsException", "java/lang/IllegalArgumentException", "java/lang/UnsupportedOperationException"].getD (kk - 1) "") ∧ cInv k L f Z x B' Ln' Rm' Rd' Pl' Mk' G' Sz')) ∧ ∀ (o : Nat → Nat) (Kp : Nat → Int32) (th : Int32), ∃ Kp' : Nat → Int32, ∀ pl : va_W, vCt l yX4_skip cX4_skip 5 (some .long) 1 21 0 0 D vCl (vTy k) sb [.ref (o 0), .int p0, .long p1] (mW k o pl B Ln Rm Rd Pl Mk G Sz Kp th) (vDet (some (.long v)) (mW k o pl B' Ln' Rm' Rd' Pl' Mk' G' Sz' Kp' (nI kk))) := by
  have h0 := h
  obtain ⟨aW, aG, aR, tr, tg, gW, gG, gR, A, AB, U, UR, UB, R, C, GU, hI⟩ := h
  obtain ⟨⟨hx, fx, haW, faW, haG, faG, haR, faR⟩, hRo, hL, hJ, hG, hU, hQ, hQ1, hT, hV, hM⟩ := id hI
  have hRm : ∀ r, r < 4 → Rm r < 8 := fun r hr => (hRo r hr).1
  have hRd : ∀ g, g < 3 → ∀ b, Rd g = some b → b < 8 := fun g hg b e => (hL b (Or.inr ⟨g, hg, e⟩)).1
  by_cases hvq : vOther p0
  · obtain ⟨q, hqq, rfl⟩ := vOther_of hvq
    obtain ⟨q1q, q2q, q3q, q4q⟩ := hQ q hqq
    by_cases h1 : ¬ p1 < lN 0
    · skip
      obtain ⟨m, hm, rfl⟩ := lN_of h1
      rcases hoq : Rd q with _ | aq
      · obtain ⟨wq, bq, nq, Pq, Mq, Tq, Mtq, gq, frq, qcq, hPq⟩ := q4q hoq
        exact ⟨3, lN 0, B, Ln, Rm, Rd, Pl, Mk, G, Sz, by decide, Or.inr ⟨by decide, (ct_skip3 l D k sb L f x aW aG aR tr tg gW gG gR q (R q) wq bq nq 0 Pq Mq Tq Mtq gq m hl hx.1 fx haW.1 faW haG.1 faG haR.1 faR hqq q1q q2q.1 frq qcq.1.1 qcq.2.1 qcq.2.2.1.1 qcq.2.2.2.1 qcq.2.2.2.2.1 hPq hm rfl), h0⟩, fun o Kp th => ⟨Kp, fun pl => (mm_skip3 l D k o pl sb B Ln Rm Rd Pl Mk G Sz Kp th q m hqq hm hoq)⟩⟩
      · obtain ⟨frq, hPq, hMq⟩ := q3q aq hoq
        have laq : mLive Rm Rd aq := Or.inr ⟨q, hqq, hoq⟩
        obtain ⟨haq, qaq, caq⟩ := hL aq laq
        by_cases e : m < Ln aq - Pl q
        · skip
          refine ⟨0, lN m, B, Ln, Rm, Rd, va_up Pl q (Pl q + m), Mk, G, Sz, by decide, Or.inl ⟨rfl, vCt.weak ((cb_skip l D k sb L f x aW aG aR tr tg gW gG gR q (R q) (A aq) (AB aq) (Ln aq) 1 (Pl q) (Mk q) (Pl q) (Mk q) (C aq) m m hx.1 fx haW.1 faW haG.1 faG haR.1 faR hqq q1q q2q.1 frq qaq.1.1 qaq.2.1 qaq.2.2.1.1 qaq.2.2.2.1 qaq.2.2.2.2.1 hPq rfl hm (by omega))) (fun v9 w9 hp9 => ?_)⟩, fun o Kp th => ⟨_, fun pl => (mm_skip0a l D k o pl sb B Ln Rm Rd Pl Mk G Sz Kp th q aq m hqq hoq haq (hM.1 aq) hPq hm e)⟩⟩
          obtain ⟨rfl, rfl⟩ := hp9
          exact ⟨_, _, rfl, rfl, (kKp.rf.up q2q.2), _, _, _, _, _, _, _, _, _, _, _, _, _, _, _, _, (cI.go hI hqq hoq (fun t _ n9 => va_up_nq _ n9) (va_up_eq _ _ _) (by omega))⟩
        · skip
          refine ⟨0, lN (Ln aq - Pl q), B, Ln, Rm, Rd, va_up Pl q (Pl q + (Ln aq - Pl q)), Mk, G, Sz, by decide, Or.inl ⟨rfl, vCt.weak ((cb_skip l D k sb L f x aW aG aR tr tg gW gG gR q (R q) (A aq) (AB aq) (Ln aq) 1 (Pl q) (Mk q) (Pl q) (Mk q) (C aq) m (Ln aq - Pl q) hx.1 fx haW.1 faW haG.1 faG haR.1 faR hqq q1q q2q.1 frq qaq.1.1 qaq.2.1 qaq.2.2.1.1 qaq.2.2.2.1 qaq.2.2.2.2.1 hPq rfl hm (by omega))) (fun v9 w9 hp9 => ?_)⟩, fun o Kp th => ⟨_, fun pl => (mm_skip0b l D k o pl sb B Ln Rm Rd Pl Mk G Sz Kp th q aq m hqq hoq haq (hM.1 aq) hPq hm (by omega))⟩⟩
          obtain ⟨rfl, rfl⟩ := hp9
          exact ⟨_, _, rfl, rfl, (kKp.rf.up q2q.2), _, _, _, _, _, _, _, _, _, _, _, _, _, _, _, _, (cI.go hI hqq hoq (fun t _ n9 => va_up_nq _ n9) (va_up_eq _ _ _) (by omega))⟩
    · skip
      obtain ⟨wq, bq, nq, sq, Pq, Mq, Tq, Mtq, gq, frq, qcq, hPq⟩ := hI.anyR hqq
      exact ⟨2, lN 0, B, Ln, Rm, Rd, Pl, Mk, G, Sz, by decide, Or.inr ⟨by decide, (ct_skip2 l D k sb L f x aW aG aR tr tg gW gG gR q (R q) wq bq nq sq Pq Mq Tq Mtq gq p1 hl hx.1 fx haW.1 faW haG.1 faG haR.1 faR hqq q1q q2q.1 frq qcq.1.1 qcq.2.1 qcq.2.2.1.1 qcq.2.2.2.1 qcq.2.2.2.2.1 hPq (Classical.not_not.mp h1)), h0⟩, fun o Kp th => ⟨Kp, fun pl => (mm_skip2 l D k o pl sb B Ln Rm Rd Pl Mk G Sz Kp th q p1 hqq (Classical.not_not.mp h1))⟩⟩
  · skip
    exact ⟨1, lN 0, B, Ln, Rm, Rd, Pl, Mk, G, Sz, by decide, Or.inr ⟨by decide, (ct_skip1 l D k sb L f x aW aG aR tr tg gW gG gR p0 p1 hl hx.1 fx haW.1 faW haG.1 faG haR.1 faR hvq), h0⟩, fun o Kp th => ⟨Kp, fun pl => (mm_skip1 l D k o pl sb B Ln Rm Rd Pl Mk G Sz Kp th p0 p1 hvq)⟩⟩
set_option maxHeartbeats 4000000 in
theorem cl_left (l : Launch) (D : va_G) (k : Nat → ClassId) (sb : Nat) (L : List Nat) (f : Nat → va_E) (Z : Nat → Prop) (x : Nat) (B : Nat → Nat → Int32) (Ln Rm : Nat → Nat) (Rd : Nat → Option Nat) (Pl Mk : Nat → Nat) (G : Nat → Nat → Int32) (Sz : Nat → Nat) (hl : l.stackTraces = false) (h : cInv k L f Z x B Ln Rm Rd Pl Mk G Sz) (hZ : ∀ a, Z a → a ∈ L) (p0 : Int32) : ∃ (kk : Nat) (v : Int32) (B' : Nat → Nat → Int32) (Ln' Rm' : Nat → Nat) (Rd' : Nat → Option Nat) (Pl' Mk' : Nat → Nat) (G' : Nat → Nat → Int32) (Sz' : Nat → Nat), kk ≤ 2 ∧ ((kk = 0 ∧ vCt l yX3_left cX3_left 3 (some .int) 9 131 0 0 D vCl (vTy k) sb [.ref x, .int p0] (va_pl L f) (kPost k L f Z x (.int v) B' Ln' Rm' Rd' Pl' Mk' G' Sz')) ∨ (0 < kk ∧ vCtX l yX3_left cX3_left 3 (some .int) 9 131 1 6 D vCl (vTy k) sb [.ref x, .int p0] (va_pl L f) (["java/lang/IndexOutOfBoundsException", "java/lang/UnsupportedOperationException"].getD (kk - 1) "") ∧ cInv k L f Z x B' Ln' Rm' Rd' Pl' Mk' G' Sz')) ∧ ∀ (o : Nat → Nat) (Kp : Nat → Int32) (th : Int32), ∃ Kp' : Nat → Int32, ∀ pl : va_W, vCt l yX4_left cX4_left 2 (some .int) 2 42 0 0 D vCl (vTy k) sb [.ref (o 0), .int p0] (mW k o pl B Ln Rm Rd Pl Mk G Sz Kp th) (vDet (some (.int v)) (mW k o pl B' Ln' Rm' Rd' Pl' Mk' G' Sz' Kp' (nI kk))) := by
  have h0 := h
  obtain ⟨aW, aG, aR, tr, tg, gW, gG, gR, A, AB, U, UR, UB, R, C, GU, hI⟩ := h
  obtain ⟨⟨hx, fx, haW, faW, haG, faG, haR, faR⟩, hRo, hL, hJ, hG, hU, hQ, hQ1, hT, hV, hM⟩ := id hI
  have hRm : ∀ r, r < 4 → Rm r < 8 := fun r hr => (hRo r hr).1
  have hRd : ∀ g, g < 3 → ∀ b, Rd g = some b → b < 8 := fun g hg b e => (hL b (Or.inr ⟨g, hg, e⟩)).1
  by_cases hvq : vOther p0
  · obtain ⟨q, hqq, rfl⟩ := vOther_of hvq
    obtain ⟨q1q, q2q, q3q, q4q⟩ := hQ q hqq
    rcases hoq : Rd q with _ | aq
    · obtain ⟨wq, bq, nq, Pq, Mq, Tq, Mtq, gq, frq, qcq, hPq⟩ := q4q hoq
      exact ⟨2, nI 0, B, Ln, Rm, Rd, Pl, Mk, G, Sz, by decide, Or.inr ⟨by decide, (ct_left2 l D k sb L f x aW aG aR tr tg gW gG gR q (R q) wq bq nq 0 Pq Mq Tq Mtq gq hl hx.1 fx haW.1 faW haG.1 faG haR.1 faR hqq q1q q2q.1 frq qcq.1.1 qcq.2.1 qcq.2.2.1.1 qcq.2.2.2.1 qcq.2.2.2.2.1 hPq rfl), h0⟩, fun o Kp th => ⟨Kp, fun pl => (mm_left2 l D k o pl sb B Ln Rm Rd Pl Mk G Sz Kp th q hqq hoq)⟩⟩
    · obtain ⟨frq, hPq, hMq⟩ := q3q aq hoq
      have laq : mLive Rm Rd aq := Or.inr ⟨q, hqq, hoq⟩
      obtain ⟨haq, qaq, caq⟩ := hL aq laq
      refine ⟨0, nI (Ln aq - Pl q), B, Ln, Rm, Rd, Pl, Mk, G, Sz, by decide, Or.inl ⟨rfl, vCt.weak ((cb_left l D k sb L f x aW aG aR tr tg gW gG gR q (R q) (A aq) (AB aq) (Ln aq) 1 (Pl q) (Mk q) (Pl q) (Mk q) (C aq) hx.1 fx haW.1 faW haG.1 faG haR.1 faR hqq q1q q2q.1 frq qaq.1.1 qaq.2.1 qaq.2.2.1.1 qaq.2.2.2.1 qaq.2.2.2.2.1 hPq rfl)) (fun v9 w9 hp9 => ?_)⟩, fun o Kp th => ⟨_, fun pl => (mm_left0 l D k o pl sb B Ln Rm Rd Pl Mk G Sz Kp th q aq hqq hoq haq (hM.1 aq) hPq)⟩⟩
      obtain ⟨rfl, rfl⟩ := hp9
      exact ⟨_, _, rfl, rfl, kKp.rf, _, _, _, _, _, _, _, _, _, _, _, _, _, _, _, _, hI⟩
  · skip
    exact ⟨1, nI 0, B, Ln, Rm, Rd, Pl, Mk, G, Sz, by decide, Or.inr ⟨by decide, (ct_left1 l D k sb L f x aW aG aR tr tg gW gG gR p0 hl hx.1 fx haW.1 faW haG.1 faG haR.1 faR hvq), h0⟩, fun o Kp th => ⟨Kp, fun pl => (mm_left1 l D k o pl sb B Ln Rm Rd Pl Mk G Sz Kp th p0 hvq)⟩⟩
set_option maxHeartbeats 4000000 in
theorem cl_mark (l : Launch) (D : va_G) (k : Nat → ClassId) (sb : Nat) (L : List Nat) (f : Nat → va_E) (Z : Nat → Prop) (x : Nat) (B : Nat → Nat → Int32) (Ln Rm : Nat → Nat) (Rd : Nat → Option Nat) (Pl Mk : Nat → Nat) (G : Nat → Nat → Int32) (Sz : Nat → Nat) (hl : l.stackTraces = false) (h : cInv k L f Z x B Ln Rm Rd Pl Mk G Sz) (hZ : ∀ a, Z a → a ∈ L) (p0 : Int32) (p1 : Int32) : ∃ (kk : Nat) (v : Int32) (B' : Nat → Nat → Int32) (Ln' Rm' : Nat → Nat) (Rd' : Nat → Option Nat) (Pl' Mk' : Nat → Nat) (G' : Nat → Nat → Int32) (Sz' : Nat → Nat), kk ≤ 2 ∧ ((kk = 0 ∧ vCt l yX3_mark cX3_mark 4 (some .int) 9 131 0 0 D vCl (vTy k) sb [.ref x, .int p0, .int p1] (va_pl L f) (kPost k L f Z x (.int v) B' Ln' Rm' Rd' Pl' Mk' G' Sz')) ∨ (0 < kk ∧ vCtX l yX3_mark cX3_mark 4 (some .int) 9 131 1 6 D vCl (vTy k) sb [.ref x, .int p0, .int p1] (va_pl L f) (["java/lang/IndexOutOfBoundsException", "java/lang/UnsupportedOperationException"].getD (kk - 1) "") ∧ cInv k L f Z x B' Ln' Rm' Rd' Pl' Mk' G' Sz')) ∧ ∀ (o : Nat → Nat) (Kp : Nat → Int32) (th : Int32), ∃ Kp' : Nat → Int32, ∀ pl : va_W, vCt l yX4_mark cX4_mark 3 (some .int) 2 42 0 0 D vCl (vTy k) sb [.ref (o 0), .int p0, .int p1] (mW k o pl B Ln Rm Rd Pl Mk G Sz Kp th) (vDet (some (.int v)) (mW k o pl B' Ln' Rm' Rd' Pl' Mk' G' Sz' Kp' (nI kk))) := by
  have h0 := h
  obtain ⟨aW, aG, aR, tr, tg, gW, gG, gR, A, AB, U, UR, UB, R, C, GU, hI⟩ := h
  obtain ⟨⟨hx, fx, haW, faW, haG, faG, haR, faR⟩, hRo, hL, hJ, hG, hU, hQ, hQ1, hT, hV, hM⟩ := id hI
  have hRm : ∀ r, r < 4 → Rm r < 8 := fun r hr => (hRo r hr).1
  have hRd : ∀ g, g < 3 → ∀ b, Rd g = some b → b < 8 := fun g hg b e => (hL b (Or.inr ⟨g, hg, e⟩)).1
  by_cases hvq : vOther p0
  · obtain ⟨q, hqq, rfl⟩ := vOther_of hvq
    obtain ⟨q1q, q2q, q3q, q4q⟩ := hQ q hqq
    rcases hoq : Rd q with _ | aq
    · obtain ⟨wq, bq, nq, Pq, Mq, Tq, Mtq, gq, frq, qcq, hPq⟩ := q4q hoq
      exact ⟨2, nI 0, B, Ln, Rm, Rd, Pl, Mk, G, Sz, by decide, Or.inr ⟨by decide, (ct_mark2 l D k sb L f x aW aG aR tr tg gW gG gR q (R q) wq bq nq 0 Pq Mq Tq Mtq gq p1 hl hx.1 fx haW.1 faW haG.1 faG haR.1 faR hqq q1q q2q.1 frq qcq.1.1 qcq.2.1 qcq.2.2.1.1 qcq.2.2.2.1 qcq.2.2.2.2.1 hPq rfl), h0⟩, fun o Kp th => ⟨Kp, fun pl => (mm_mark2 l D k o pl sb B Ln Rm Rd Pl Mk G Sz Kp th q p1 hqq hoq)⟩⟩
    · obtain ⟨frq, hPq, hMq⟩ := q3q aq hoq
      have laq : mLive Rm Rd aq := Or.inr ⟨q, hqq, hoq⟩
      obtain ⟨haq, qaq, caq⟩ := hL aq laq
      refine ⟨0, nI (Ln aq - Pl q), B, Ln, Rm, Rd, Pl, va_up Mk q (Pl q), G, Sz, by decide, Or.inl ⟨rfl, vCt.weak ((cb_mark l D k sb L f x aW aG aR tr tg gW gG gR q (R q) (A aq) (AB aq) (Ln aq) 1 (Pl q) (Mk q) (Pl q) (Mk q) (C aq) p1 hx.1 fx haW.1 faW haG.1 faG haR.1 faR hqq q1q q2q.1 frq qaq.1.1 qaq.2.1 qaq.2.2.1.1 qaq.2.2.2.1 qaq.2.2.2.2.1 hPq rfl)) (fun v9 w9 hp9 => ?_)⟩, fun o Kp th => ⟨_, fun pl => (mm_mark0 l D k o pl sb B Ln Rm Rd Pl Mk G Sz Kp th q aq p1 hqq hoq haq (hM.1 aq) hPq)⟩⟩
      obtain ⟨rfl, rfl⟩ := hp9
      exact ⟨_, _, rfl, rfl, (kKp.rf.up q2q.2), _, _, _, _, _, _, _, _, _, _, _, _, _, _, _, _, (cI.goK hI hqq hoq (fun t _ n9 => va_up_nq _ n9) (va_up_eq _ _ _) hPq)⟩
  · skip
    exact ⟨1, nI 0, B, Ln, Rm, Rd, Pl, Mk, G, Sz, by decide, Or.inr ⟨by decide, (ct_mark1 l D k sb L f x aW aG aR tr tg gW gG gR p0 p1 hl hx.1 fx haW.1 faW haG.1 faG haR.1 faR hvq), h0⟩, fun o Kp th => ⟨Kp, fun pl => (mm_mark1 l D k o pl sb B Ln Rm Rd Pl Mk G Sz Kp th p0 p1 hvq)⟩⟩
set_option maxHeartbeats 4000000 in
theorem cl_back (l : Launch) (D : va_G) (k : Nat → ClassId) (sb : Nat) (L : List Nat) (f : Nat → va_E) (Z : Nat → Prop) (x : Nat) (B : Nat → Nat → Int32) (Ln Rm : Nat → Nat) (Rd : Nat → Option Nat) (Pl Mk : Nat → Nat) (G : Nat → Nat → Int32) (Sz : Nat → Nat) (hl : l.stackTraces = false) (h : cInv k L f Z x B Ln Rm Rd Pl Mk G Sz) (hZ : ∀ a, Z a → a ∈ L) (p0 : Int32) : ∃ (kk : Nat) (v : Int32) (B' : Nat → Nat → Int32) (Ln' Rm' : Nat → Nat) (Rd' : Nat → Option Nat) (Pl' Mk' : Nat → Nat) (G' : Nat → Nat → Int32) (Sz' : Nat → Nat), kk ≤ 2 ∧ ((kk = 0 ∧ vCt l yX3_back cX3_back 3 (some .int) 9 131 0 0 D vCl (vTy k) sb [.ref x, .int p0] (va_pl L f) (kPost k L f Z x (.int v) B' Ln' Rm' Rd' Pl' Mk' G' Sz')) ∨ (0 < kk ∧ vCtX l yX3_back cX3_back 3 (some .int) 9 131 1 6 D vCl (vTy k) sb [.ref x, .int p0] (va_pl L f) (["java/lang/IndexOutOfBoundsException", "java/lang/UnsupportedOperationException"].getD (kk - 1) "") ∧ cInv k L f Z x B' Ln' Rm' Rd' Pl' Mk' G' Sz')) ∧ ∀ (o : Nat → Nat) (Kp : Nat → Int32) (th : Int32), ∃ Kp' : Nat → Int32, ∀ pl : va_W, vCt l yX4_back cX4_back 2 (some .int) 2 42 0 0 D vCl (vTy k) sb [.ref (o 0), .int p0] (mW k o pl B Ln Rm Rd Pl Mk G Sz Kp th) (vDet (some (.int v)) (mW k o pl B' Ln' Rm' Rd' Pl' Mk' G' Sz' Kp' (nI kk))) := by
  have h0 := h
  obtain ⟨aW, aG, aR, tr, tg, gW, gG, gR, A, AB, U, UR, UB, R, C, GU, hI⟩ := h
  obtain ⟨⟨hx, fx, haW, faW, haG, faG, haR, faR⟩, hRo, hL, hJ, hG, hU, hQ, hQ1, hT, hV, hM⟩ := id hI
  have hRm : ∀ r, r < 4 → Rm r < 8 := fun r hr => (hRo r hr).1
  have hRd : ∀ g, g < 3 → ∀ b, Rd g = some b → b < 8 := fun g hg b e => (hL b (Or.inr ⟨g, hg, e⟩)).1
  by_cases hvq : vOther p0
  · obtain ⟨q, hqq, rfl⟩ := vOther_of hvq
    obtain ⟨q1q, q2q, q3q, q4q⟩ := hQ q hqq
    rcases hoq : Rd q with _ | aq
    · obtain ⟨wq, bq, nq, Pq, Mq, Tq, Mtq, gq, frq, qcq, hPq⟩ := q4q hoq
      exact ⟨2, nI 0, B, Ln, Rm, Rd, Pl, Mk, G, Sz, by decide, Or.inr ⟨by decide, (ct_back2 l D k sb L f x aW aG aR tr tg gW gG gR q (R q) wq bq nq 0 Pq Mq Tq Mtq gq hl hx.1 fx haW.1 faW haG.1 faG haR.1 faR hqq q1q q2q.1 frq qcq.1.1 qcq.2.1 qcq.2.2.1.1 qcq.2.2.2.1 qcq.2.2.2.2.1 hPq rfl), h0⟩, fun o Kp th => ⟨Kp, fun pl => (mm_back2 l D k o pl sb B Ln Rm Rd Pl Mk G Sz Kp th q hqq hoq)⟩⟩
    · obtain ⟨frq, hPq, hMq⟩ := q3q aq hoq
      have laq : mLive Rm Rd aq := Or.inr ⟨q, hqq, hoq⟩
      obtain ⟨haq, qaq, caq⟩ := hL aq laq
      refine ⟨0, nI (Ln aq - Mk q), B, Ln, Rm, Rd, va_up Pl q (Mk q), Mk, G, Sz, by decide, Or.inl ⟨rfl, vCt.weak ((cb_back l D k sb L f x aW aG aR tr tg gW gG gR q (R q) (A aq) (AB aq) (Ln aq) 1 (Pl q) (Mk q) (Pl q) (Mk q) (C aq) hx.1 fx haW.1 faW haG.1 faG haR.1 faR hqq q1q q2q.1 frq qaq.1.1 qaq.2.1 qaq.2.2.1.1 qaq.2.2.2.1 qaq.2.2.2.2.1 hPq rfl hMq)) (fun v9 w9 hp9 => ?_)⟩, fun o Kp th => ⟨_, fun pl => (mm_back0 l D k o pl sb B Ln Rm Rd Pl Mk G Sz Kp th q aq hqq hoq haq (hM.1 aq) hPq hMq)⟩⟩
      obtain ⟨rfl, rfl⟩ := hp9
      exact ⟨_, _, rfl, rfl, (kKp.rf.up q2q.2), _, _, _, _, _, _, _, _, _, _, _, _, _, _, _, _, (cI.go hI hqq hoq (fun t _ n9 => va_up_nq _ n9) (va_up_eq _ _ _) hMq)⟩
  · skip
    exact ⟨1, nI 0, B, Ln, Rm, Rd, Pl, Mk, G, Sz, by decide, Or.inr ⟨by decide, (ct_back1 l D k sb L f x aW aG aR tr tg gW gG gR p0 hl hx.1 fx haW.1 faW haG.1 faG haR.1 faR hvq), h0⟩, fun o Kp th => ⟨Kp, fun pl => (mm_back1 l D k o pl sb B Ln Rm Rd Pl Mk G Sz Kp th p0 hvq)⟩⟩
set_option maxHeartbeats 4000000 in
theorem cl_pour (l : Launch) (D : va_G) (k : Nat → ClassId) (sb : Nat) (L : List Nat) (f : Nat → va_E) (Z : Nat → Prop) (x : Nat) (B : Nat → Nat → Int32) (Ln Rm : Nat → Nat) (Rd : Nat → Option Nat) (Pl Mk : Nat → Nat) (G : Nat → Nat → Int32) (Sz : Nat → Nat) (hl : l.stackTraces = false) (h : cInv k L f Z x B Ln Rm Rd Pl Mk G Sz) (hZ : ∀ a, Z a → a ∈ L) (p0 : Int32) (p1 : Int32) : ∃ (kk : Nat) (v : Int32) (B' : Nat → Nat → Int32) (Ln' Rm' : Nat → Nat) (Rd' : Nat → Option Nat) (Pl' Mk' : Nat → Nat) (G' : Nat → Nat → Int32) (Sz' : Nat → Nat), kk ≤ 3 ∧ ((kk = 0 ∧ vCt l yX3_pour cX3_pour 5 (some .int) 9 131 0 0 D vCl (vTy k) sb [.ref x, .int p0, .int p1] (va_pl L f) (kPost k L f Z x (.int v) B' Ln' Rm' Rd' Pl' Mk' G' Sz')) ∨ (0 < kk ∧ vCtX l yX3_pour cX3_pour 5 (some .int) 9 131 1 6 D vCl (vTy k) sb [.ref x, .int p0, .int p1] (va_pl L f) (["java/lang/IndexOutOfBoundsException", "java/lang/UnsupportedOperationException", "java/lang/IllegalStateException"].getD (kk - 1) "") ∧ cInv k L f Z x B' Ln' Rm' Rd' Pl' Mk' G' Sz')) ∧ ∀ (o : Nat → Nat) (Kp : Nat → Int32) (th : Int32), ∃ Kp' : Nat → Int32, ∀ pl : va_W, vCt l yX4_pour cX4_pour 5 (some .int) 2 46 0 0 D vCl (vTy k) sb [.ref (o 0), .int p0, .int p1] (mW k o pl B Ln Rm Rd Pl Mk G Sz Kp th) (vDet (some (.int v)) (mW k o pl B' Ln' Rm' Rd' Pl' Mk' G' Sz' Kp' (nI kk))) := by
  have h0 := h
  obtain ⟨aW, aG, aR, tr, tg, gW, gG, gR, A, AB, U, UR, UB, R, C, GU, hI⟩ := h
  obtain ⟨⟨hx, fx, haW, faW, haG, faG, haR, faR⟩, hRo, hL, hJ, hG, hU, hQ, hQ1, hT, hV, hM⟩ := id hI
  have hRm : ∀ r, r < 4 → Rm r < 8 := fun r hr => (hRo r hr).1
  have hRd : ∀ g, g < 3 → ∀ b, Rd g = some b → b < 8 := fun g hg b e => (hL b (Or.inr ⟨g, hg, e⟩)).1
  by_cases hvq : vOther p0
  · obtain ⟨q, hqq, rfl⟩ := vOther_of hvq
    obtain ⟨q1q, q2q, q3q, q4q⟩ := hQ q hqq
    by_cases hvy : vOther p1
    · obtain ⟨y, hyy, rfl⟩ := vOther_of hvy
      obtain ⟨euy, ggy, cgy, ngy⟩ := hG y hyy
      rcases hoq : Rd q with _ | aq
      · obtain ⟨wq, bq, nq, Pq, Mq, Tq, Mtq, gq, frq, qcq, hPq⟩ := q4q hoq
        exact ⟨2, nI 0, B, Ln, Rm, Rd, Pl, Mk, G, Sz, by decide, Or.inr ⟨by decide, (ct_pour3 l D k sb L f x aW aG aR tr tg gW gG gR q (R q) wq bq nq 0 Pq Mq Tq Mtq gq y (U y) (UR y) (UB y) (Sz y) (GU y) hl hx.1 fx haW.1 faW haG.1 faG haR.1 faR hqq q1q q2q.1 frq qcq.1.1 qcq.2.1 qcq.2.2.1.1 qcq.2.2.2.1 qcq.2.2.2.2.1 hPq hyy euy ggy.1.1 ggy.2.1 ggy.2.2.1.1.1 ggy.2.2.1.2.1 ggy.2.2.1.2.2.1.1 ggy.2.2.1.2.2.2.1 ggy.2.2.2 rfl), h0⟩, fun o Kp th => ⟨Kp, fun pl => (mm_pour2 l D k o pl sb B Ln Rm Rd Pl Mk G Sz Kp th q y hqq hyy hoq)⟩⟩
      · obtain ⟨frq, hPq, hMq⟩ := q3q aq hoq
        have laq : mLive Rm Rd aq := Or.inr ⟨q, hqq, hoq⟩
        obtain ⟨haq, qaq, caq⟩ := hL aq laq
        by_cases hs : Sz y + (Ln aq - Pl q) ≤ 256
        · skip
          refine ⟨0, nI (Ln aq - Pl q), B, Ln, Rm, Rd, va_up Pl q (Pl q + (Ln aq - Pl q)), Mk, cpG G y (Sz y) (Ln aq - Pl q) (fun j => B aq (Pl q + j)), va_up Sz y (Sz y + (Ln aq - Pl q)), by decide, Or.inl ⟨rfl, vCt.weak ((cb_pour l D k sb L f x aW aG aR tr tg gW gG gR q (R q) (A aq) (AB aq) (Ln aq) 1 (Pl q) (Mk q) (Pl q) (Mk q) (C aq) y (U y) (UR y) (UB y) (Sz y) (GU y) (Ln aq - Pl q) hx.1 fx haW.1 faW haG.1 faG haR.1 faR hqq q1q q2q.1 frq qaq.1.1 qaq.2.1 qaq.2.2.1.1 qaq.2.2.2.1 qaq.2.2.2.2.1 hPq hyy euy ggy.1.1 ggy.2.1 ggy.2.2.1.1.1 ggy.2.2.1.2.1 ggy.2.2.1.2.2.1.1 ggy.2.2.1.2.2.2.1 ggy.2.2.2 rfl (ngy aq laq) rfl hs qaq.2.2.2.2.2)) (fun v9 w9 hp9 => ?_)⟩, fun o Kp th => ⟨_, fun pl => (mm_pour0 l D k o pl sb B Ln Rm Rd Pl Mk G Sz Kp th q aq y (Ln aq - Pl q) hqq hoq haq (hM.1 aq) hPq hyy rfl hs hM.2)⟩⟩
          obtain ⟨rfl, rfl⟩ := hp9
          exact ⟨_, _, rfl, rfl, (((kKp.rf.up ggy.2.2.1.2.2.1.2).up ggy.1.2).up q2q.2), _, _, _, _, _, _, _, _, _, _, _, _, _, _, _, _, (cI.go (cI.gat hI hyy (fun t _ n1 n2 => (va_up_nq _ n1).trans (va_up_nq _ n2)) (va_up_eq _ _ _) ((va_up_nq _ (ne_of ggy.2.2.1.2.2.2.1 ggy.2.1 (by simp))).trans (va_up_eq _ _ _)) hs (cpyfl qaq.2.2.2.2.2 ggy.2.2.1.2.2.2.2.2) (fun i hi => cpy_cpG hi (fun i hi ho => cgy i (by omega)) (fun j hj => caq (Pl q + j) (by omega))) (fun z hz j => cpG_out hz j)) hqq hoq (fun t _ n9 => va_up_nq _ n9) (va_up_eq _ _ _) (by omega))⟩
        · skip
          exact ⟨3, nI 0, B, Ln, Rm, Rd, Pl, Mk, G, Sz, by decide, Or.inr ⟨by decide, (ct_pour4 l D k sb L f x aW aG aR tr tg gW gG gR q (R q) (A aq) (AB aq) (Ln aq) 1 (Pl q) (Mk q) (Pl q) (Mk q) (C aq) y (U y) (UR y) (UB y) (Sz y) (GU y) hl hx.1 fx haW.1 faW haG.1 faG haR.1 faR hqq q1q q2q.1 frq qaq.1.1 qaq.2.1 qaq.2.2.1.1 qaq.2.2.2.1 qaq.2.2.2.2.1 hPq hyy euy ggy.1.1 ggy.2.1 ggy.2.2.1.1.1 ggy.2.2.1.2.1 ggy.2.2.1.2.2.1.1 ggy.2.2.1.2.2.2.1 ggy.2.2.2 rfl (by omega)), h0⟩, fun o Kp th => ⟨Kp, fun pl => (mm_pour3 l D k o pl sb B Ln Rm Rd Pl Mk G Sz Kp th q aq y hqq hoq haq (hM.1 aq) hPq hyy ggy.2.2.2 (by omega))⟩⟩
    · skip
      obtain ⟨wq, bq, nq, sq, Pq, Mq, Tq, Mtq, gq, frq, qcq, hPq⟩ := hI.anyR hqq
      exact ⟨1, nI 0, B, Ln, Rm, Rd, Pl, Mk, G, Sz, by decide, Or.inr ⟨by decide, (ct_pour2 l D k sb L f x aW aG aR tr tg gW gG gR q (R q) wq bq nq sq Pq Mq Tq Mtq gq p1 hl hx.1 fx haW.1 faW haG.1 faG haR.1 faR hqq q1q q2q.1 frq qcq.1.1 qcq.2.1 qcq.2.2.1.1 qcq.2.2.2.1 qcq.2.2.2.2.1 hPq hvy), h0⟩, fun o Kp th => ⟨Kp, fun pl => (mm_pour1b l D k o pl sb B Ln Rm Rd Pl Mk G Sz Kp th q p1 hqq hvy)⟩⟩
  · skip
    exact ⟨1, nI 0, B, Ln, Rm, Rd, Pl, Mk, G, Sz, by decide, Or.inr ⟨by decide, (ct_pour1 l D k sb L f x aW aG aR tr tg gW gG gR p0 p1 hl hx.1 fx haW.1 faW haG.1 faG haR.1 faR hvq), h0⟩, fun o Kp th => ⟨Kp, fun pl => (mm_pour1a l D k o pl sb B Ln Rm Rd Pl Mk G Sz Kp th p0 p1 hvq)⟩⟩
set_option maxHeartbeats 4000000 in
theorem cl_pourParts (l : Launch) (D : va_G) (k : Nat → ClassId) (sb : Nat) (L : List Nat) (f : Nat → va_E) (Z : Nat → Prop) (x : Nat) (B : Nat → Nat → Int32) (Ln Rm : Nat → Nat) (Rd : Nat → Option Nat) (Pl Mk : Nat → Nat) (G : Nat → Nat → Int32) (Sz : Nat → Nat) (hl : l.stackTraces = false) (h : cInv k L f Z x B Ln Rm Rd Pl Mk G Sz) (hZ : ∀ a, Z a → a ∈ L) (p0 : Int32) (p1 : Int32) (p2 : Int32) : ∃ (kk : Nat) (v : Int32) (B' : Nat → Nat → Int32) (Ln' Rm' : Nat → Nat) (Rd' : Nat → Option Nat) (Pl' Mk' : Nat → Nat) (G' : Nat → Nat → Int32) (Sz' : Nat → Nat), kk ≤ 4 ∧ ((kk = 0 ∧ vCt l yX3_pourParts cX3_pourParts 6 (some .int) 9 153 0 0 D vCl (vTy k) sb [.ref x, .int p0, .int p1, .int p2] (va_pl L f) (kPost k L f Z x (.int v) B' Ln' Rm' Rd' Pl' Mk' G' Sz')) ∨ (0 < kk ∧ vCtX l yX3_pourParts cX3_pourParts 6 (some .int) 9 153 1 6 D vCl (vTy k) sb [.ref x, .int p0, .int p1, .int p2] (va_pl L f) (["java/lang/IndexOutOfBoundsException", "java/lang/IllegalArgumentException", "java/lang/UnsupportedOperationException", "java/lang/IllegalStateException"].getD (kk - 1) "") ∧ cInv k L f Z x B' Ln' Rm' Rd' Pl' Mk' G' Sz')) ∧ ∀ (o : Nat → Nat) (Kp : Nat → Int32) (th : Int32), ∃ Kp' : Nat → Int32, ∀ pl : va_W, vCt l yX4_pourParts cX4_pourParts 4 (some .int) 3 70 0 0 D vCl (vTy k) sb [.ref (o 0), .int p0, .int p1, .int p2] (mW k o pl B Ln Rm Rd Pl Mk G Sz Kp th) (vDet (some (.int v)) (mW k o pl B' Ln' Rm' Rd' Pl' Mk' G' Sz' Kp' (nI kk))) := by
  have h0 := h
  obtain ⟨aW, aG, aR, tr, tg, gW, gG, gR, A, AB, U, UR, UB, R, C, GU, hI⟩ := h
  obtain ⟨⟨hx, fx, haW, faW, haG, faG, haR, faR⟩, hRo, hL, hJ, hG, hU, hQ, hQ1, hT, hV, hM⟩ := id hI
  have hRm : ∀ r, r < 4 → Rm r < 8 := fun r hr => (hRo r hr).1
  have hRd : ∀ g, g < 3 → ∀ b, Rd g = some b → b < 8 := fun g hg b e => (hL b (Or.inr ⟨g, hg, e⟩)).1
  by_cases hvq : vOther p0
  · obtain ⟨q, hqq, rfl⟩ := vOther_of hvq
    obtain ⟨q1q, q2q, q3q, q4q⟩ := hQ q hqq
    by_cases hvy : vOther p1
    · obtain ⟨y, hyy, rfl⟩ := vOther_of hvy
      obtain ⟨euy, ggy, cgy, ngy⟩ := hG y hyy
      by_cases h1 : ¬ p2 < nI 1
      · skip
        by_cases h2 : ¬ nI 64 < p2
        · skip
          obtain ⟨t, ht2, rfl⟩ := nI_of2 (M := nI 64) (n := 64) (by decide) (fun z => h1 (Int32.lt_trans z (by decide))) (Int32.not_lt.mp h2)
          have ht : 0 < t := by
            have := (nI_leI (a := 1) (b := t) (by decide) (by omega)).mp (Int32.not_lt.mp h1)
            omega
          rcases hoq : Rd q with _ | aq
          · obtain ⟨wq, bq, nq, Pq, Mq, Tq, Mtq, gq, frq, qcq, hPq⟩ := q4q hoq
            exact ⟨3, nI 0, B, Ln, Rm, Rd, Pl, Mk, G, Sz, by decide, Or.inr ⟨by decide, (ct_pourParts4 l D k sb L f x aW aG aR tr tg gW gG gR q (R q) wq bq nq 0 Pq Mq Tq Mtq gq y (U y) (UR y) (UB y) (Sz y) (GU y) t hl hx.1 fx haW.1 faW haG.1 faG haR.1 faR hqq q1q q2q.1 frq qcq.1.1 qcq.2.1 qcq.2.2.1.1 qcq.2.2.2.1 qcq.2.2.2.2.1 hPq hyy euy ggy.1.1 ggy.2.1 ggy.2.2.1.1.1 ggy.2.2.1.2.1 ggy.2.2.1.2.2.1.1 ggy.2.2.1.2.2.2.1 ggy.2.2.2 ht ht2 rfl), h0⟩, fun o Kp th => ⟨Kp, fun pl => (mm_pourParts3 l D k o pl sb B Ln Rm Rd Pl Mk G Sz Kp th q y t hqq hyy ht ht2 hoq)⟩⟩
          · obtain ⟨frq, hPq, hMq⟩ := q3q aq hoq
            have laq : mLive Rm Rd aq := Or.inr ⟨q, hqq, hoq⟩
            obtain ⟨haq, qaq, caq⟩ := hL aq laq
            by_cases hs : Sz y + (Ln aq - Pl q) ≤ 256
            · skip
              refine ⟨0, nI ((Ln aq - Pl q + t - 1) / t), B, Ln, Rm, Rd, va_up Pl q (Pl q + (Ln aq - Pl q)), Mk, cpG G y (Sz y) (Ln aq - Pl q) (fun j => B aq (Pl q + j)), va_up Sz y (Sz y + (Ln aq - Pl q)), by decide, Or.inl ⟨rfl, vCt.weak ((cb_pourParts l D k sb L f x aW aG aR tr tg gW gG gR q (R q) (A aq) (AB aq) (Ln aq) 1 (Pl q) (Mk q) (Pl q) (Mk q) (C aq) y (U y) (UR y) (UB y) (Sz y) (GU y) t hx.1 fx haW.1 faW haG.1 faG haR.1 faR hqq q1q q2q.1 frq qaq.1.1 qaq.2.1 qaq.2.2.1.1 qaq.2.2.2.1 qaq.2.2.2.2.1 hPq hyy euy ggy.1.1 ggy.2.1 ggy.2.2.1.1.1 ggy.2.2.1.2.1 ggy.2.2.1.2.2.1.1 ggy.2.2.1.2.2.2.1 ggy.2.2.2 ht ht2 rfl (ngy aq laq) hs qaq.2.2.2.2.2)) (fun v9 w9 hp9 => ?_)⟩, fun o Kp th => ⟨_, fun pl => (mm_pourParts0 l D k o pl sb B Ln Rm Rd Pl Mk G Sz Kp th q aq y (Ln aq - Pl q) t hqq hoq haq (hM.1 aq) hPq hyy ht ht2 rfl hs hM.2)⟩⟩
              obtain ⟨rfl, rfl⟩ := hp9
              exact ⟨_, _, rfl, rfl, (((kKp.rf.up ggy.2.2.1.2.2.1.2).up ggy.1.2).up q2q.2), _, _, _, _, _, _, _, _, _, _, _, _, _, _, _, _, (cI.go (cI.gat hI hyy (fun t _ n1 n2 => (va_up_nq _ n1).trans (va_up_nq _ n2)) (va_up_eq _ _ _) ((va_up_nq _ (ne_of ggy.2.2.1.2.2.2.1 ggy.2.1 (by simp))).trans (va_up_eq _ _ _)) hs (cpyfl qaq.2.2.2.2.2 ggy.2.2.1.2.2.2.2.2) (fun i hi => cpy_cpG hi (fun i hi ho => cgy i (by omega)) (fun j hj => caq (Pl q + j) (by omega))) (fun z hz j => cpG_out hz j)) hqq hoq (fun t _ n9 => va_up_nq _ n9) (va_up_eq _ _ _) (by omega))⟩
            · skip
              exact ⟨4, nI 0, B, Ln, Rm, Rd, Pl, Mk, G, Sz, by decide, Or.inr ⟨by decide, (ct_pourParts5 l D k sb L f x aW aG aR tr tg gW gG gR q (R q) (A aq) (AB aq) (Ln aq) 1 (Pl q) (Mk q) (Pl q) (Mk q) (C aq) y (U y) (UR y) (UB y) (Sz y) (GU y) t hl hx.1 fx haW.1 faW haG.1 faG haR.1 faR hqq q1q q2q.1 frq qaq.1.1 qaq.2.1 qaq.2.2.1.1 qaq.2.2.2.1 qaq.2.2.2.2.1 hPq hyy euy ggy.1.1 ggy.2.1 ggy.2.2.1.1.1 ggy.2.2.1.2.1 ggy.2.2.1.2.2.1.1 ggy.2.2.1.2.2.2.1 ggy.2.2.2 ht ht2 rfl (by omega)), h0⟩, fun o Kp th => ⟨Kp, fun pl => (mm_pourParts4 l D k o pl sb B Ln Rm Rd Pl Mk G Sz Kp th q aq y t hqq hoq haq (hM.1 aq) hPq hyy ht ht2 ggy.2.2.2 (by omega))⟩⟩
        · skip
          obtain ⟨wq, bq, nq, sq, Pq, Mq, Tq, Mtq, gq, frq, qcq, hPq⟩ := hI.anyR hqq
          exact ⟨2, nI 0, B, Ln, Rm, Rd, Pl, Mk, G, Sz, by decide, Or.inr ⟨by decide, (ct_pourParts3b l D k sb L f x aW aG aR tr tg gW gG gR q (R q) wq bq nq sq Pq Mq Tq Mtq gq y (U y) (UR y) (UB y) (Sz y) (GU y) p2 hl hx.1 fx haW.1 faW haG.1 faG haR.1 faR hqq q1q q2q.1 frq qcq.1.1 qcq.2.1 qcq.2.2.1.1 qcq.2.2.2.1 qcq.2.2.2.2.1 hPq hyy euy ggy.1.1 ggy.2.1 ggy.2.2.1.1.1 ggy.2.2.1.2.1 ggy.2.2.1.2.2.1.1 ggy.2.2.1.2.2.2.1 ggy.2.2.2 (Int32.not_lt.mp h1) (Classical.not_not.mp h2)), h0⟩, fun o Kp th => ⟨Kp, fun pl => (mm_pourParts2b l D k o pl sb B Ln Rm Rd Pl Mk G Sz Kp th q y p2 hqq hyy (Int32.not_lt.mp h1) (Classical.not_not.mp h2))⟩⟩
      · skip
        obtain ⟨wq, bq, nq, sq, Pq, Mq, Tq, Mtq, gq, frq, qcq, hPq⟩ := hI.anyR hqq
        exact ⟨2, nI 0, B, Ln, Rm, Rd, Pl, Mk, G, Sz, by decide, Or.inr ⟨by decide, (ct_pourParts3a l D k sb L f x aW aG aR tr tg gW gG gR q (R q) wq bq nq sq Pq Mq Tq Mtq gq y (U y) (UR y) (UB y) (Sz y) (GU y) p2 hl hx.1 fx haW.1 faW haG.1 faG haR.1 faR hqq q1q q2q.1 frq qcq.1.1 qcq.2.1 qcq.2.2.1.1 qcq.2.2.2.1 qcq.2.2.2.2.1 hPq hyy euy ggy.1.1 ggy.2.1 ggy.2.2.1.1.1 ggy.2.2.1.2.1 ggy.2.2.1.2.2.1.1 ggy.2.2.1.2.2.2.1 ggy.2.2.2 (Classical.not_not.mp h1)), h0⟩, fun o Kp th => ⟨Kp, fun pl => (mm_pourParts2a l D k o pl sb B Ln Rm Rd Pl Mk G Sz Kp th q y p2 hqq hyy (Classical.not_not.mp h1))⟩⟩
    · skip
      obtain ⟨wq, bq, nq, sq, Pq, Mq, Tq, Mtq, gq, frq, qcq, hPq⟩ := hI.anyR hqq
      exact ⟨1, nI 0, B, Ln, Rm, Rd, Pl, Mk, G, Sz, by decide, Or.inr ⟨by decide, (ct_pourParts2 l D k sb L f x aW aG aR tr tg gW gG gR q (R q) wq bq nq sq Pq Mq Tq Mtq gq p1 p2 hl hx.1 fx haW.1 faW haG.1 faG haR.1 faR hqq q1q q2q.1 frq qcq.1.1 qcq.2.1 qcq.2.2.1.1 qcq.2.2.2.1 qcq.2.2.2.2.1 hPq hvy), h0⟩, fun o Kp th => ⟨Kp, fun pl => (mm_pourParts1b l D k o pl sb B Ln Rm Rd Pl Mk G Sz Kp th q p1 p2 hqq hvy)⟩⟩
  · skip
    exact ⟨1, nI 0, B, Ln, Rm, Rd, Pl, Mk, G, Sz, by decide, Or.inr ⟨by decide, (ct_pourParts1 l D k sb L f x aW aG aR tr tg gW gG gR p0 p1 p2 hl hx.1 fx haW.1 faW haG.1 faG haR.1 faR hvq), h0⟩, fun o Kp th => ⟨Kp, fun pl => (mm_pourParts1a l D k o pl sb B Ln Rm Rd Pl Mk G Sz Kp th p0 p1 p2 hvq)⟩⟩
set_option maxHeartbeats 4000000 in
theorem cl_alike (l : Launch) (D : va_G) (k : Nat → ClassId) (sb : Nat) (L : List Nat) (f : Nat → va_E) (Z : Nat → Prop) (x : Nat) (B : Nat → Nat → Int32) (Ln Rm : Nat → Nat) (Rd : Nat → Option Nat) (Pl Mk : Nat → Nat) (G : Nat → Nat → Int32) (Sz : Nat → Nat) (hl : l.stackTraces = false) (h : cInv k L f Z x B Ln Rm Rd Pl Mk G Sz) (hZ : ∀ a, Z a → a ∈ L) (p0 : Int32) (p1 : Int32) : ∃ (kk : Nat) (v : Int32) (B' : Nat → Nat → Int32) (Ln' Rm' : Nat → Nat) (Rd' : Nat → Option Nat) (Pl' Mk' : Nat → Nat) (G' : Nat → Nat → Int32) (Sz' : Nat → Nat), kk ≤ 3 ∧ ((kk = 0 ∧ vCt l yX3_alike cX3_alike 7 (some .int) 9 131 0 0 D vCl (vTy k) sb [.ref x, .int p0, .int p1] (va_pl L f) (kPost k L f Z x (.int v) B' Ln' Rm' Rd' Pl' Mk' G' Sz')) ∨ (0 < kk ∧ vCtX l yX3_alike cX3_alike 7 (some .int) 9 131 1 6 D vCl (vTy k) sb [.ref x, .int p0, .int p1] (va_pl L f) (["java/lang/IndexOutOfBoundsException", "java/lang/IllegalArgumentException", "java/lang/UnsupportedOperationException"].getD (kk - 1) "") ∧ cInv k L f Z x B' Ln' Rm' Rd' Pl' Mk' G' Sz')) ∧ ∀ (o : Nat → Nat) (Kp : Nat → Int32) (th : Int32), ∃ Kp' : Nat → Int32, ∀ pl : va_W, vCt l yX4_alike cX4_alike 4 (some .int) 1 21 0 0 D vCl (vTy k) sb [.ref (o 0), .int p0, .int p1] (mW k o pl B Ln Rm Rd Pl Mk G Sz Kp th) (vDet (some (.int v)) (mW k o pl B' Ln' Rm' Rd' Pl' Mk' G' Sz' Kp' (nI kk))) := by
  have h0 := h
  obtain ⟨aW, aG, aR, tr, tg, gW, gG, gR, A, AB, U, UR, UB, R, C, GU, hI⟩ := h
  obtain ⟨⟨hx, fx, haW, faW, haG, faG, haR, faR⟩, hRo, hL, hJ, hG, hU, hQ, hQ1, hT, hV, hM⟩ := id hI
  have hRm : ∀ r, r < 4 → Rm r < 8 := fun r hr => (hRo r hr).1
  have hRd : ∀ g, g < 3 → ∀ b, Rd g = some b → b < 8 := fun g hg b e => (hL b (Or.inr ⟨g, hg, e⟩)).1
  by_cases hvq : vOther p0
  · obtain ⟨q, hqq, rfl⟩ := vOther_of hvq
    obtain ⟨q1q, q2q, q3q, q4q⟩ := hQ q hqq
    by_cases hvu : vOther p1
    · obtain ⟨u, hqu, rfl⟩ := vOther_of hvu
      obtain ⟨q1u, q2u, q3u, q4u⟩ := hQ u hqu
      by_cases e : ¬ q = u
      · skip
        have hrr : R q ≠ R u := fun z => e (hQ1 q u hqq hqu z)
        rcases hoq : Rd q with _ | aq
        · obtain ⟨wq, bq, nq, Pq, Mq, Tq, Mtq, gq, frq, qcq, hPq⟩ := q4q hoq
          obtain ⟨wu, bu, nu, su, Pu, Mu, Tu, Mtu, gu, fru, qcu, hPu⟩ := hI.anyR hqu
          exact ⟨3, nI 0, B, Ln, Rm, Rd, Pl, Mk, G, Sz, by decide, Or.inr ⟨by decide, (ct_alike4 l D k sb L f x aW aG aR tr tg gW gG gR q (R q) wq bq nq 0 Pq Mq Tq Mtq gq u (R u) wu bu nu su Pu Mu Tu Mtu gu hl hx.1 fx haW.1 faW haG.1 faG haR.1 faR hqq q1q q2q.1 frq qcq.1.1 qcq.2.1 qcq.2.2.1.1 qcq.2.2.2.1 qcq.2.2.2.2.1 hPq hqu q1u q2u.1 fru qcu.1.1 qcu.2.1 qcu.2.2.1.1 qcu.2.2.2.1 qcu.2.2.2.2.1 hPu hrr e rfl), h0⟩, fun o Kp th => ⟨Kp, fun pl => (mm_alike3a l D k o pl sb B Ln Rm Rd Pl Mk G Sz Kp th q u hqq hqu e hoq)⟩⟩
        · obtain ⟨frq, hPq, hMq⟩ := q3q aq hoq
          have laq : mLive Rm Rd aq := Or.inr ⟨q, hqq, hoq⟩
          obtain ⟨haq, qaq, caq⟩ := hL aq laq
          rcases hou : Rd u with _ | au
          · obtain ⟨wu, bu, nu, Pu, Mu, Tu, Mtu, gu, fru, qcu, hPu⟩ := q4u hou
            exact ⟨3, nI 0, B, Ln, Rm, Rd, Pl, Mk, G, Sz, by decide, Or.inr ⟨by decide, (ct_alike5 l D k sb L f x aW aG aR tr tg gW gG gR q (R q) (A aq) (AB aq) (Ln aq) 1 (Pl q) (Mk q) (Pl q) (Mk q) (C aq) u (R u) wu bu nu 0 Pu Mu Tu Mtu gu hl hx.1 fx haW.1 faW haG.1 faG haR.1 faR hqq q1q q2q.1 frq qaq.1.1 qaq.2.1 qaq.2.2.1.1 qaq.2.2.2.1 qaq.2.2.2.2.1 hPq hqu q1u q2u.1 fru qcu.1.1 qcu.2.1 qcu.2.2.1.1 qcu.2.2.2.1 qcu.2.2.2.2.1 hPu hrr e rfl rfl), h0⟩, fun o Kp th => ⟨Kp, fun pl => (mm_alike3b l D k o pl sb B Ln Rm Rd Pl Mk G Sz Kp th q u aq hqq hqu e hoq haq hou)⟩⟩
          · obtain ⟨fru, hPu, hMu⟩ := q3u au hou
            have lau : mLive Rm Rd au := Or.inr ⟨u, hqu, hou⟩
            obtain ⟨hau, qau, cau⟩ := hL au lau
            obtain ⟨d, hd, hb, hc⟩ := firstP (fun j => ¬ B aq (Pl q + j) = B au (Pl u + j)) (min (Ln aq - Pl q) (Ln au - Pl u))
            have hbe : ∀ j, j < d → B aq (Pl q + j) = B au (Pl u + j) := fun j hj => Classical.not_not.mp (hb j hj)
            have hnv : ∀ j, j < d → (C aq (Pl q + j)) &&& nI 255 = (C au (Pl u + j)) &&& nI 255 := fun j hj => by
              rw [caq _ (by omega), cau _ (by omega), hbe j hj]
            rcases hc with hc | ⟨hc, hv⟩
            · by_cases e5 : d = Ln aq - Pl q
              · skip
                refine ⟨0, nI d, B, Ln, Rm, Rd, va_up (va_up Pl q (Pl q + d)) u (Pl u + d), va_up (va_up Mk q (Pl q + d)) u (Pl u + d), G, Sz, by decide, Or.inl ⟨rfl, vCt.weak ((cb_alikeA l D k sb L f x aW aG aR tr tg gW gG gR q (R q) (A aq) (AB aq) (Ln aq) 1 (Pl q) (Mk q) (Pl q) (Mk q) (C aq) u (R u) (A au) (AB au) (Ln au) 1 (Pl u) (Mk u) (Pl u) (Mk u) (C au) d hx.1 fx haW.1 faW haG.1 faG haR.1 faR hqq q1q q2q.1 frq qaq.1.1 qaq.2.1 qaq.2.2.1.1 qaq.2.2.2.1 qaq.2.2.2.2.1 hPq hqu q1u q2u.1 fru qau.1.1 qau.2.1 qau.2.2.1.1 qau.2.2.2.1 qau.2.2.2.2.1 hPu hrr e rfl rfl (by omega) (by omega) hnv hc)) (fun v9 w9 hp9 => ?_)⟩, fun o Kp th => ⟨_, fun pl => (mm_alike0a l D k o pl sb B Ln Rm Rd Pl Mk G Sz Kp th q u aq au d hqq hqu e hoq hou haq hau (hM.1 _) (hM.1 _) hPq hPu (by omega) (by omega) hbe e5)⟩⟩
                obtain ⟨rfl, rfl⟩ := hp9
                exact ⟨_, _, rfl, rfl, ((kKp.rf.up q2q.2).up q2u.2), _, _, _, _, _, _, _, _, _, _, _, _, _, _, _, _, (cI.goM (cI.goM hI hqq hoq (fun t _ n9 => va_up_nq _ n9) (va_up_eq _ _ _) (by omega) (by omega)) hqu hou (fun t _ n9 => va_up_nq _ n9) (va_up_eq _ _ _) (by omega) (by omega))⟩
              · skip
                refine ⟨0, nI d, B, Ln, Rm, Rd, va_up (va_up Pl q (Pl q + d)) u (Pl u + d), va_up (va_up Mk q (Pl q + d)) u (Pl u + d), G, Sz, by decide, Or.inl ⟨rfl, vCt.weak ((cb_alikeA l D k sb L f x aW aG aR tr tg gW gG gR q (R q) (A aq) (AB aq) (Ln aq) 1 (Pl q) (Mk q) (Pl q) (Mk q) (C aq) u (R u) (A au) (AB au) (Ln au) 1 (Pl u) (Mk u) (Pl u) (Mk u) (C au) d hx.1 fx haW.1 faW haG.1 faG haR.1 faR hqq q1q q2q.1 frq qaq.1.1 qaq.2.1 qaq.2.2.1.1 qaq.2.2.2.1 qaq.2.2.2.2.1 hPq hqu q1u q2u.1 fru qau.1.1 qau.2.1 qau.2.2.1.1 qau.2.2.2.1 qau.2.2.2.2.1 hPu hrr e rfl rfl (by omega) (by omega) hnv hc)) (fun v9 w9 hp9 => ?_)⟩, fun o Kp th => ⟨_, fun pl => (mm_alike0b l D k o pl sb B Ln Rm Rd Pl Mk G Sz Kp th q u aq au d hqq hqu e hoq hou haq hau (hM.1 _) (hM.1 _) hPq hPu (by omega) (by omega) hbe (by omega) (by omega))⟩⟩
                obtain ⟨rfl, rfl⟩ := hp9
                exact ⟨_, _, rfl, rfl, ((kKp.rf.up q2q.2).up q2u.2), _, _, _, _, _, _, _, _, _, _, _, _, _, _, _, _, (cI.goM (cI.goM hI hqq hoq (fun t _ n9 => va_up_nq _ n9) (va_up_eq _ _ _) (by omega) (by omega)) hqu hou (fun t _ n9 => va_up_nq _ n9) (va_up_eq _ _ _) (by omega) (by omega))⟩
            · skip
              refine ⟨0, nI d, B, Ln, Rm, Rd, va_up (va_up Pl q (Pl q + d)) u (Pl u + d), va_up (va_up Mk q (Pl q + d)) u (Pl u + d), G, Sz, by decide, Or.inl ⟨rfl, vCt.weak ((cb_alikeB l D k sb L f x aW aG aR tr tg gW gG gR q (R q) (A aq) (AB aq) (Ln aq) 1 (Pl q) (Mk q) (Pl q) (Mk q) (C aq) u (R u) (A au) (AB au) (Ln au) 1 (Pl u) (Mk u) (Pl u) (Mk u) (C au) d hx.1 fx haW.1 faW haG.1 faG haR.1 faR hqq q1q q2q.1 frq qaq.1.1 qaq.2.1 qaq.2.2.1.1 qaq.2.2.2.1 qaq.2.2.2.2.1 hPq hqu q1u q2u.1 fru qau.1.1 qau.2.1 qau.2.2.1.1 qau.2.2.2.1 qau.2.2.2.2.1 hPu hrr e rfl rfl (by omega) (by omega) hnv hc (by rw [lbEq (qaq.2.2.2.2.2 _) (qau.2.2.2.2.2 _), caq _ (by omega), cau _ (by omega)]; exact hv))) (fun v9 w9 hp9 => ?_)⟩, fun o Kp th => ⟨_, fun pl => (mm_alike0c l D k o pl sb B Ln Rm Rd Pl Mk G Sz Kp th q u aq au d hqq hqu e hoq hou haq hau (hM.1 _) (hM.1 _) hPq hPu (by omega) (by omega) hbe (by omega) (by omega) hv)⟩⟩
              obtain ⟨rfl, rfl⟩ := hp9
              exact ⟨_, _, rfl, rfl, ((kKp.rf.up q2q.2).up q2u.2), _, _, _, _, _, _, _, _, _, _, _, _, _, _, _, _, (cI.goM (cI.goM hI hqq hoq (fun t _ n9 => va_up_nq _ n9) (va_up_eq _ _ _) (by omega) (by omega)) hqu hou (fun t _ n9 => va_up_nq _ n9) (va_up_eq _ _ _) (by omega) (by omega))⟩
      · skip
        have e3 := Classical.not_not.mp e
        subst e3
        obtain ⟨wq, bq, nq, sq, Pq, Mq, Tq, Mtq, gq, frq, qcq, hPq⟩ := hI.anyR hqq
        exact ⟨2, nI 0, B, Ln, Rm, Rd, Pl, Mk, G, Sz, by decide, Or.inr ⟨by decide, (ct_alike3 l D k sb L f x aW aG aR tr tg gW gG gR q (R q) wq bq nq sq Pq Mq Tq Mtq gq hl hx.1 fx haW.1 faW haG.1 faG haR.1 faR hqq q1q q2q.1 frq qcq.1.1 qcq.2.1 qcq.2.2.1.1 qcq.2.2.2.1 qcq.2.2.2.2.1 hPq), h0⟩, fun o Kp th => ⟨Kp, fun pl => (mm_alike2 l D k o pl sb B Ln Rm Rd Pl Mk G Sz Kp th q hqq)⟩⟩
    · skip
      obtain ⟨wq, bq, nq, sq, Pq, Mq, Tq, Mtq, gq, frq, qcq, hPq⟩ := hI.anyR hqq
      exact ⟨1, nI 0, B, Ln, Rm, Rd, Pl, Mk, G, Sz, by decide, Or.inr ⟨by decide, (ct_alike2 l D k sb L f x aW aG aR tr tg gW gG gR q (R q) wq bq nq sq Pq Mq Tq Mtq gq p1 hl hx.1 fx haW.1 faW haG.1 faG haR.1 faR hqq q1q q2q.1 frq qcq.1.1 qcq.2.1 qcq.2.2.1.1 qcq.2.2.2.1 qcq.2.2.2.2.1 hPq hvu), h0⟩, fun o Kp th => ⟨Kp, fun pl => (mm_alike1b l D k o pl sb B Ln Rm Rd Pl Mk G Sz Kp th q p1 hqq hvu)⟩⟩
  · skip
    exact ⟨1, nI 0, B, Ln, Rm, Rd, Pl, Mk, G, Sz, by decide, Or.inr ⟨by decide, (ct_alike1 l D k sb L f x aW aG aR tr tg gW gG gR p0 p1 hl hx.1 fx haW.1 faW haG.1 faG haR.1 faR hvq), h0⟩, fun o Kp th => ⟨Kp, fun pl => (mm_alike1a l D k o pl sb B Ln Rm Rd Pl Mk G Sz Kp th p0 p1 hvq)⟩⟩
