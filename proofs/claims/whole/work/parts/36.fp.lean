/-! the quotients that the class and the model make are numbers -/
theorem fp_d : ((List.range 769).all fun a => (List.range 4).all fun b => b == 0 || decide (FP.ddiv (FP.i2d (Int32.ofNat a)) (FP.i2d (Int32.ofNat b)) &&& 0x7fffffffffffffff ≤ 0x7ff0000000000000)) = true := by decide +kernel
def fpk (a b : Nat) : Bool := b == 0 || decide (b < a) || (decide (FP.fdiv (FP.i2f (Int32.ofNat a)) (FP.i2f (Int32.ofNat b)) &&& 0x7fffffff ≤ 0x7f800000) && decide (FP.f2d (FP.fdiv (FP.i2f (Int32.ofNat a)) (FP.i2f (Int32.ofNat b))) &&& 0x7fffffffffffffff ≤ 0x7ff0000000000000))
theorem fp_f0 : ((List.range 17).all fun a => (List.range 257).all fun b => fpk (0 + a) b) = true := by decide +kernel
theorem fp_f1 : ((List.range 17).all fun a => (List.range 257).all fun b => fpk (17 + a) b) = true := by decide +kernel
theorem fp_f2 : ((List.range 17).all fun a => (List.range 257).all fun b => fpk (34 + a) b) = true := by decide +kernel
theorem fp_f3 : ((List.range 17).all fun a => (List.range 257).all fun b => fpk (51 + a) b) = true := by decide +kernel
theorem fp_f4 : ((List.range 17).all fun a => (List.range 257).all fun b => fpk (68 + a) b) = true := by decide +kernel
theorem fp_f5 : ((List.range 17).all fun a => (List.range 257).all fun b => fpk (85 + a) b) = true := by decide +kernel
theorem fp_f6 : ((List.range 17).all fun a => (List.range 257).all fun b => fpk (102 + a) b) = true := by decide +kernel
theorem fp_f7 : ((List.range 17).all fun a => (List.range 257).all fun b => fpk (119 + a) b) = true := by decide +kernel
theorem fp_f8 : ((List.range 17).all fun a => (List.range 257).all fun b => fpk (136 + a) b) = true := by decide +kernel
theorem fp_f9 : ((List.range 17).all fun a => (List.range 257).all fun b => fpk (153 + a) b) = true := by decide +kernel
theorem fp_f10 : ((List.range 17).all fun a => (List.range 257).all fun b => fpk (170 + a) b) = true := by decide +kernel
theorem fp_f11 : ((List.range 17).all fun a => (List.range 257).all fun b => fpk (187 + a) b) = true := by decide +kernel
theorem fp_f12 : ((List.range 17).all fun a => (List.range 257).all fun b => fpk (204 + a) b) = true := by decide +kernel
theorem fp_f13 : ((List.range 17).all fun a => (List.range 257).all fun b => fpk (221 + a) b) = true := by decide +kernel
theorem fp_f14 : ((List.range 17).all fun a => (List.range 257).all fun b => fpk (238 + a) b) = true := by decide +kernel
theorem fp_f15 : ((List.range 17).all fun a => (List.range 257).all fun b => fpk (255 + a) b) = true := by decide +kernel
theorem fp_f {a b : Nat} (ha : a ≤ b) (hb : b ≤ 256) : fpk a b = true := by
  have go : ∀ i, ((List.range 17).all fun a => (List.range 257).all fun b => fpk (17 * i + a) b) = true → a / 17 = i → fpk a b = true := by
    intro i h q
    have h1 := List.all_eq_true.mp (List.all_eq_true.mp h (a % 17) (List.mem_range.mpr (by omega))) b (List.mem_range.mpr (by omega))
    rwa [show 17 * i + a % 17 = a by omega] at h1
  rcases (show a / 17 = 0 ∨ a / 17 = 1 ∨ a / 17 = 2 ∨ a / 17 = 3 ∨ a / 17 = 4 ∨ a / 17 = 5 ∨ a / 17 = 6 ∨ a / 17 = 7 ∨ a / 17 = 8 ∨ a / 17 = 9 ∨ a / 17 = 10 ∨ a / 17 = 11 ∨ a / 17 = 12 ∨ a / 17 = 13 ∨ a / 17 = 14 ∨ a / 17 = 15 by omega) with q | q | q | q | q | q | q | q | q | q | q | q | q | q | q | q
  · exact go 0 fp_f0 q
  · exact go 1 fp_f1 q
  · exact go 2 fp_f2 q
  · exact go 3 fp_f3 q
  · exact go 4 fp_f4 q
  · exact go 5 fp_f5 q
  · exact go 6 fp_f6 q
  · exact go 7 fp_f7 q
  · exact go 8 fp_f8 q
  · exact go 9 fp_f9 q
  · exact go 10 fp_f10 q
  · exact go 11 fp_f11 q
  · exact go 12 fp_f12 q
  · exact go 13 fp_f13 q
  · exact go 14 fp_f14 q
  · exact go 15 fp_f15 q
theorem fp_share {a b : Nat} (ha : a ≤ b) (hb : b ≤ 256) (h0 : 0 < b) : vf_n32 (FP.fdiv (FP.i2f (nI a)) (FP.i2f (nI b))) ∧ vf_n64 (FP.f2d (FP.fdiv (FP.i2f (nI a)) (FP.i2f (nI b)))) := by
  have h := fp_f ha hb
  simp only [fpk, Bool.or_eq_true, Bool.and_eq_true, decide_eq_true_eq, beq_iff_eq] at h
  rcases h with (h | h) | h
  · omega
  · omega
  · exact h
theorem fp_mean {a b : Nat} (ha : a ≤ 768) (hb : b ≤ 3) (h0 : 0 < b) : vf_n64 (FP.ddiv (FP.i2d (nI a)) (FP.i2d (nI b))) := by
  have h := List.all_eq_true.mp (List.all_eq_true.mp fp_d a (List.mem_range.mpr (by omega))) b (List.mem_range.mpr (by omega))
  simp only [Bool.or_eq_true, decide_eq_true_eq, beq_iff_eq] at h
  rcases h with h | h
  · omega
  · exact h
