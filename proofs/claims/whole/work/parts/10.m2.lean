/-- what isPart tells of any three numbers -/
def vPart (Ln Rm : Nat → Nat) (x f n : Int32) : Prop := ∃ r a b : Nat, x = nI r ∧ r < 4 ∧ f = nI a ∧ n = nI b ∧ a + b ≤ Ln (Rm r)
theorem vRow_of {x : Int32} (h : vRow x) : ∃ r, r < 4 ∧ x = nI r := by
  obtain ⟨j, h1, h2⟩ := nI_of2 (x := x) (M := nI 3) (n := 3) (by decide) (Int32.not_lt.mpr h.1) h.2
  exact ⟨j, by omega, h2⟩
theorem vOther_of {x : Int32} (h : vOther x) : ∃ r, r < 3 ∧ x = nI r := by
  obtain ⟨j, h1, h2⟩ := nI_of2 (x := x) (M := nI 2) (n := 2) (by decide) (Int32.not_lt.mpr h.1) h.2
  exact ⟨j, by omega, h2⟩
theorem vRow_nI {r : Nat} (h : r < 4) : vRow (nI r) := ⟨nI_le (by omega) (by omega), nI_le (by omega) (by omega)⟩
theorem vOther_nI {r : Nat} (h : r < 3) : vOther (nI r) := ⟨nI_le (by omega) (by omega), nI_le (by omega) (by omega)⟩
theorem mm_isPartF (l : Launch) (D : va_G) (k : Nat → ClassId) (o : Nat → Nat) (pl : va_W) (sb : Nat) (B : Nat → Nat → Int32) (Ln Rm : Nat → Nat) (Rd : Nat → Option Nat) (Pl Mk : Nat → Nat) (G : Nat → Nat → Int32) (Sz : Nat → Nat) (Kp : Nat → Int32) (th : Int32) (x f n : Int32) (hRm : ∀ r, r < 4 → Rm r < 8) (hLn : ∀ a, Ln a ≤ 256) (h : ¬ vPart Ln Rm x f n) : vCt l yX4_isPart cX4_isPart 4 (some .boolean) 1 21 0 0 D vCl (vTy k) sb [.ref (o 0), .int x, .int f, .int n] (mW k o pl B Ln Rm Rd Pl Mk G Sz Kp th) (vDet (some (.int (nI (0)))) (mW k o pl B Ln Rm Rd Pl Mk G Sz Kp th)) := by
  by_cases hx : vRow x
  · obtain ⟨r, hr, rfl⟩ := vRow_of hx
    by_cases hf : f < nI 0
    · exact mm_isPartF2 l D k o pl sb B Ln Rm Rd Pl Mk G Sz Kp th r f n hr hf
    · obtain ⟨a, ha, rfl⟩ := nI_of hf
      by_cases hn : n < nI 0
      · exact mm_isPartF3 l D k o pl sb B Ln Rm Rd Pl Mk G Sz Kp th r a n hr ha hn
      · obtain ⟨b, hb, rfl⟩ := nI_of hn
        exact mm_isPartF4 l D k o pl sb B Ln Rm Rd Pl Mk G Sz Kp th r a b hr (hRm r hr) (hLn _) ha hb (Nat.not_le.mp (fun q => h ⟨r, a, b, rfl, hr, rfl, rfl, q⟩))
  · exact mm_isPartF1 l D k o pl sb B Ln Rm Rd Pl Mk G Sz Kp th x f n hx
/-- a room that a row or a reader has -/
def mLive (Rm : Nat → Nat) (Rd : Nat → Option Nat) (a : Nat) : Prop := (∃ r, r < 4 ∧ Rm r = a) ∨ ∃ g, g < 3 ∧ Rd g = some a
/-- the first room that none has -/
def mFree (Rm : Nat → Nat) (Rd : Nat → Option Nat) (F : Nat) : Prop := F < 8 ∧ ¬ mLive Rm Rd F ∧ ∀ a, a < F → mLive Rm Rd a
def cpB (B : Nat → Nat → Int32) (F i : Nat) (Kp : Nat → Int32) : Nat → Nat → Int32 := fun a b => if a = F ∧ b < i then Kp b else B a b
theorem cpB_0 (B : Nat → Nat → Int32) (F : Nat) (Kp : Nat → Int32) : B = cpB B F 0 Kp := by
  funext a b; simp [cpB]
theorem cpB_1 (B : Nat → Nat → Int32) (F i : Nat) (Kp : Nat → Int32) : up2 (cpB B F i Kp) F i (Kp i) = cpB B F (i + 1) Kp := by
  funext a b
  simp only [up2, cpB]
  by_cases h1 : a = F <;> by_cases h2 : b = i
  · subst h2; simp [h1]
  · have : (b < i + 1) = (b < i) := by simp only [eq_iff_iff]; omega
    simp [h1, h2, this]
  · simp [h1]
  · simp [h1]
theorem cpB_congr {B : Nat → Nat → Int32} {F n : Nat} {K1 K2 : Nat → Int32} (h : ∀ j, j < n → K1 j = K2 j) : cpB B F n K1 = cpB B F n K2 := by
  funext a b
  simp only [cpB]
  by_cases q : a = F ∧ b < n
  · rw [if_pos q, if_pos q, h b q.2]
  · rw [if_neg q, if_neg q]
set_option maxHeartbeats 4000000 in
set_option maxRecDepth 100000 in
theorem mL_becomes {p9 : Program} {l : Launch} {e9 : Env} {s9 : State} {m9 : MethodId} {args9 : Array Value} {below9 : List Frame} {meth9 : Method} {c9 : Code} {Q9 : State → Prop} (D : va_G) (k : Nat → ClassId) (o : Nat → Nat) (pl : va_W) (sb : Nat) (B : Nat → Nat → Int32) (Ln Rm : Nat → Nat) (Rd : Nat → Option Nat) (Pl Mk : Nat → Nat) (G : Nat → Nat → Int32) (Sz : Nat → Nat) (Kp : Nat → Int32) (th : Int32) (r n F : Nat) (hF : F < 8) (hn : n ≤ 256) (X : vCX p9 s9 m9 args9 meth9 c9 cX4_becomes 5 yX4_becomes.cls (Cond.code yX4_becomes cX4_becomes 5 none :: vGW) D vCl (vTy k) sb) (hex : vV p9 l e9 ({ frames := 1, cells := 0, slots := 0, locals := 23 }) s9 m9 args9 below9 meth9 c9 5 D vCl sb Q9 (mW k o pl (cpB B F n Kp) Ln Rm Rd Pl Mk G Sz Kp th) 0 0 40 [(4, .int (nI (n))), (3, .int (nI (F))), (0, .ref (o 0)), (1, .int (nI (r))), (2, .int (nI (n)))] []) : ∀ (z i : Nat) (B1 : Nat → Nat → Int32), i + z = n → B1 = cpB B F i Kp → vV p9 l e9 ({ frames := 1, cells := 0, slots := 0, locals := 23 }) s9 m9 args9 below9 meth9 c9 5 D vCl sb Q9 (mW k o pl B1 Ln Rm Rd Pl Mk G Sz Kp th) 0 0 8 [(4, .int (nI (i))), (3, .int (nI (F))), (0, .ref (o 0)), (1, .int (nI (r))), (2, .int (nI (n)))] [] := by
  intro z
  induction z with
  | zero =>
    intro i B1 hi hB1
    have hin : n = i := by omega
    subst hin
    subst hB1
    refine vIload X dX4_becomes_8 0 rfl ?_
    refine vIloadN X dX4_becomes_10 4 rfl ?_
    refine vIcmpN_geT X 40 dX4_becomes_11 (by decide) (by omega) (by omega) (by omega) ?_
    refine vSub [0, 1, 2, 3, 4] [(4, .int (nI (n))), (3, .int (nI (F))), (0, .ref (o 0)), (1, .int (nI (r))), (2, .int (nI (n)))] rfl ?_
    exact hex
  | succ z ih =>
    intro i B1 hi hB1
    refine vIload X dX4_becomes_8 0 rfl ?_
    refine vIloadN X dX4_becomes_10 4 rfl ?_
    refine vIcmpN_geF X 40 dX4_becomes_11 (by decide) (by omega) (by omega) (by omega) ?_
    refine vAloadN X dX4_becomes_14 2 rfl ?_
    refine vGet X (C := RX4) (T := TX4) (N := 10) (ci := 4) (vcons inM) rfl 0 rfl 0 (by decide) (List.mem_cons_of_mem _ q_742) (fun _ h => h) rfl dX4_becomes_15 ?_
    refine vSipush X dX4_becomes_18 (v := nI (256)) (by decide) ?_
    refine vIloadN X dX4_becomes_21 1 rfl ?_
    refine vImul X dX4_becomes_22 (v := nI ((256) * (F))) (pk_mul _ _) ?_
    refine vIload X dX4_becomes_23 0 rfl ?_
    refine vIadd X dX4_becomes_25 (v := nI (((256) * (F)) + (i))) (nI_add _ _) ?_
    refine vAloadN X dX4_becomes_26 2 rfl ?_
    refine vGet X (C := RX4) (T := TX4) (N := 10) (ci := 4) (vcons inM) rfl 0 rfl 8 (by decide) (List.mem_cons_of_mem _ q_750) (fun _ h => h) rfl dX4_becomes_27 ?_
    refine vIload X dX4_becomes_30 0 rfl ?_
    refine vIaload X (v := Kp (i)) 9 1 rfl rfl rfl (by omega) (by decide) rfl dX4_becomes_32 ?_
    refine vIastore X (g := fl2 (up2 B1 (F) (i) (Kp (i)))) 1 1 rfl rfl rfl (by omega) (by decide) (fl2_up _ _ (X := F) (Y := i) (by omega) (by omega)) dX4_becomes_33 ?_
    refine vWs (ws' := mW k o pl (up2 B1 (F) (i) (Kp (i))) Ln Rm Rd Pl Mk G Sz Kp th) rfl ?_
    refine vIinc X [(4, .int (nI (i + 1))), (3, .int (nI (F))), (0, .ref (o 0)), (1, .int (nI (r))), (2, .int (nI (n)))] dX4_becomes_34 0 rfl (nI_inc _) (by decide) rfl ?_
    refine vGoto X 8 dX4_becomes_37 (by decide) ?_
    refine vSub [0, 1, 2, 3, 4] [(4, .int (nI (i + 1))), (3, .int (nI (F))), (0, .ref (o 0)), (1, .int (nI (r))), (2, .int (nI (n)))] rfl ?_
    exact ih (i + 1) _ (by omega) (by rw [hB1]; exact cpB_1 _ _ _ _)
def bI (b : Bool) : Int32 := if b then nI 1 else nI 0
theorem nar_bI (b : Bool) : narrow .boolean (.int (bI b)) = .int (bI b) := by cases b <;> rfl
theorem bI_1 (b : Bool) : bI b &&& nI 1 = bI b := by cases b <;> rfl
theorem bI_0 (b : Bool) : bI b &&& nI 0 = bI false := by cases b <;> rfl
def rowsHas (Rm : Nat → Nat) (a : Nat) : Nat → Bool
  | 0 => false
  | i + 1 => rowsHas Rm a i || decide (Rm i = a)
def rdsHas (Rd : Nat → Option Nat) (a : Nat) : Nat → Bool
  | 0 => false
  | i + 1 => rdsHas Rd a i || decide (Rd i = some a)
theorem rowsHas_iff (Rm : Nat → Nat) (a : Nat) : ∀ i, rowsHas Rm a i = true ↔ ∃ r, r < i ∧ Rm r = a
  | 0 => by simp [rowsHas]
  | i + 1 => by
    rw [rowsHas, Bool.or_eq_true, rowsHas_iff Rm a i, decide_eq_true_eq]
    constructor
    · rintro (⟨r, h1, h2⟩ | h)
      · exact ⟨r, by omega, h2⟩
      · exact ⟨i, by omega, h⟩
    · rintro ⟨r, h1, h2⟩
      rcases Nat.lt_or_ge r i with q | q
      · exact Or.inl ⟨r, q, h2⟩
      · have : r = i := by omega
        subst this
        exact Or.inr h2
theorem rdsHas_iff (Rd : Nat → Option Nat) (a : Nat) : ∀ i, rdsHas Rd a i = true ↔ ∃ r, r < i ∧ Rd r = some a
  | 0 => by simp [rdsHas]
  | i + 1 => by
    rw [rdsHas, Bool.or_eq_true, rdsHas_iff Rd a i, decide_eq_true_eq]
    constructor
    · rintro (⟨r, h1, h2⟩ | h)
      · exact ⟨r, by omega, h2⟩
      · exact ⟨i, by omega, h⟩
    · rintro ⟨r, h1, h2⟩
      rcases Nat.lt_or_ge r i with q | q
      · exact Or.inl ⟨r, q, h2⟩
      · have : r = i := by omega
        subst this
        exact Or.inr h2
theorem oI_eq {r : Option Nat} {a : Nat} (h : oI r = nI a) (hr : ∀ b, r = some b → b < 8) (ha : a < 2 ^ 31) : r = some a := by
  cases r with
  | none =>
    have h1 : (oI none).toInt = (nI a).toInt := congrArg Int32.toInt h
    rw [nI_toInt ha] at h1
    have h2 : (oI none).toInt = -1 := by decide
    omega
  | some b =>
    have := hr b rfl
    rw [(nI_eq (by omega) ha).mp h]
theorem oI_ne {r : Option Nat} {a : Nat} (h : ¬ oI r = nI a) : ¬ r = some a := fun q => h (by rw [q]; rfl)
set_option maxHeartbeats 4000000 in
set_option maxRecDepth 100000 in
theorem mL_free1 {p9 : Program} {l : Launch} {e9 : Env} {s9 : State} {m9 : MethodId} {args9 : Array Value} {below9 : List Frame} {meth9 : Method} {c9 : Code} {Q9 : State → Prop} (D : va_G) (k : Nat → ClassId) (o : Nat → Nat) (pl : va_W) (sb : Nat) (B : Nat → Nat → Int32) (Ln Rm : Nat → Nat) (Rd : Nat → Option Nat) (Pl Mk : Nat → Nat) (G : Nat → Nat → Int32) (Sz : Nat → Nat) (Kp : Nat → Int32) (th : Int32) (a : Nat) (ha : a < 8) (hRm : ∀ r, r < 4 → Rm r < 8) (X : vCX p9 s9 m9 args9 meth9 c9 cX4_free 4 yX4_free.cls (Cond.code yX4_free cX4_free 4 (some .int) :: vGW) D vCl (vTy k) sb) (hex : vV p9 l e9 ({ frames := 0, cells := 0, slots := 0, locals := 0 }) s9 m9 args9 below9 meth9 c9 4 D vCl sb Q9 (mW k o pl B Ln Rm Rd Pl Mk G Sz Kp th) 0 0 41 [(2, .int (bI (!rowsHas Rm a 4))), (1, .int (nI (a))), (0, .ref (o 0))] []) : ∀ (z i : Nat) (v1 : Int32), i + z = 4 → v1 = bI (!rowsHas Rm a i) → vV p9 l e9 ({ frames := 0, cells := 0, slots := 0, locals := 0 }) s9 m9 args9 below9 meth9 c9 4 D vCl sb Q9 (mW k o pl B Ln Rm Rd Pl Mk G Sz Kp th) 0 0 12 [(3, .int (nI (i))), (2, .int (v1)), (1, .int (nI (a))), (0, .ref (o 0))] [] := by
  intro z
  induction z with
  | zero =>
    intro i v1 hi hv1
    have hin : 4 = i := by omega
    subst hin
    subst hv1
    refine vIloadN X dX4_free_12 0 rfl ?_
    refine vIconst X dX4_free_13 (v := nI (4)) (by decide) ?_
    refine vIcmpN_geT X 41 dX4_free_14 (by decide) (by omega) (by omega) (by omega) ?_
    refine vSub [1, 2, 3] [(2, .int (bI (!rowsHas Rm a 4))), (1, .int (nI (a))), (0, .ref (o 0))] rfl ?_
    exact hex
  | succ z ih =>
    intro i v1 hi hv1
    have hRi := hRm i (by omega)
    refine vIloadN X dX4_free_12 0 rfl ?_
    refine vIconst X dX4_free_13 (v := nI (4)) (by decide) ?_
    refine vIcmpN_geF X 41 dX4_free_14 (by decide) (by omega) (by omega) (by omega) ?_
    refine vIloadN X dX4_free_17 1 rfl ?_
    refine vAloadN X dX4_free_18 3 rfl ?_
    refine vGet X (C := RX4) (T := TX4) (N := 10) (ci := 4) (vcons inM) rfl 0 rfl 2 (by decide) (List.mem_cons_of_mem _ q_744) (fun _ h => h) rfl dX4_free_19 ?_
    refine vIloadN X dX4_free_22 0 rfl ?_
    refine vIaload X (v := nI (Rm (i))) 3 1 rfl rfl rfl (by omega) (by decide) rfl dX4_free_23 ?_
    refine vIloadN X dX4_free_24 2 rfl ?_
    refine vIcmp_eq X 32 dX4_free_25 (by decide) (fun hc25 => ?_) (fun hc25 => ?_)
    · have hc25 := (nI_eq (by omega) (by omega)).mp hc25
      refine vIconst X dX4_free_32 (v := nI (0)) (by decide) ?_
      refine vIand X dX4_free_33 (v := (v1) &&& (nI (0))) rfl ?_
      refine vIstoreN X [(2, .int ((v1) &&& (nI (0)))), (3, .int (nI (i))), (1, .int (nI (a))), (0, .ref (o 0))] dX4_free_34 (by decide) rfl ?_
      refine vIinc X [(3, .int (nI (i + 1))), (2, .int ((v1) &&& (nI (0)))), (1, .int (nI (a))), (0, .ref (o 0))] dX4_free_35 1 rfl (nI_inc _) (by decide) rfl ?_
      refine vGoto X 12 dX4_free_38 (by decide) ?_
      refine vSub [0, 1, 2, 3] [(3, .int (nI (i + 1))), (2, .int ((v1) &&& (nI (0)))), (1, .int (nI (a))), (0, .ref (o 0))] rfl ?_
      exact ih (i + 1) _ (by omega) (by subst hv1; simp [bI_0, bI_1, rowsHas, hc25])
    · have hc25 : ¬ Rm i = a := fun q => hc25 (by rw [q])
      refine vIconst X dX4_free_28 (v := nI (1)) (by decide) ?_
      refine vGoto X 33 dX4_free_29 (by decide) ?_
      refine vIand X dX4_free_33 (v := (v1) &&& (nI (1))) rfl ?_
      refine vIstoreN X [(2, .int ((v1) &&& (nI (1)))), (3, .int (nI (i))), (1, .int (nI (a))), (0, .ref (o 0))] dX4_free_34 (by decide) rfl ?_
      refine vIinc X [(3, .int (nI (i + 1))), (2, .int ((v1) &&& (nI (1)))), (1, .int (nI (a))), (0, .ref (o 0))] dX4_free_35 1 rfl (nI_inc _) (by decide) rfl ?_
      refine vGoto X 12 dX4_free_38 (by decide) ?_
      refine vSub [0, 1, 2, 3] [(3, .int (nI (i + 1))), (2, .int ((v1) &&& (nI (1)))), (1, .int (nI (a))), (0, .ref (o 0))] rfl ?_
      exact ih (i + 1) _ (by omega) (by subst hv1; simp [bI_0, bI_1, rowsHas, hc25])
set_option maxHeartbeats 4000000 in
set_option maxRecDepth 100000 in
theorem mL_free2 {p9 : Program} {l : Launch} {e9 : Env} {s9 : State} {m9 : MethodId} {args9 : Array Value} {below9 : List Frame} {meth9 : Method} {c9 : Code} {Q9 : State → Prop} (D : va_G) (k : Nat → ClassId) (o : Nat → Nat) (pl : va_W) (sb : Nat) (B : Nat → Nat → Int32) (Ln Rm : Nat → Nat) (Rd : Nat → Option Nat) (Pl Mk : Nat → Nat) (G : Nat → Nat → Int32) (Sz : Nat → Nat) (Kp : Nat → Int32) (th : Int32) (a : Nat) (ha : a < 8) (hRd : ∀ g, g < 3 → ∀ b, Rd g = some b → b < 8) (X : vCX p9 s9 m9 args9 meth9 c9 cX4_free 4 yX4_free.cls (Cond.code yX4_free cX4_free 4 (some .int) :: vGW) D vCl (vTy k) sb) (hex : vV p9 l e9 ({ frames := 0, cells := 0, slots := 0, locals := 0 }) s9 m9 args9 below9 meth9 c9 4 D vCl sb Q9 (mW k o pl B Ln Rm Rd Pl Mk G Sz Kp th) 0 0 72 [(2, .int (bI (!rowsHas Rm a 4 && !rdsHas Rd a 3))), (1, .int (nI (a))), (0, .ref (o 0))] []) : ∀ (z i : Nat) (v1 : Int32), i + z = 3 → v1 = bI (!rowsHas Rm a 4 && !rdsHas Rd a i) → vV p9 l e9 ({ frames := 0, cells := 0, slots := 0, locals := 0 }) s9 m9 args9 below9 meth9 c9 4 D vCl sb Q9 (mW k o pl B Ln Rm Rd Pl Mk G Sz Kp th) 0 0 43 [(3, .int (nI (i))), (2, .int (v1)), (1, .int (nI (a))), (0, .ref (o 0))] [] := by
  intro z
  induction z with
  | zero =>
    intro i v1 hi hv1
    have hin : 3 = i := by omega
    subst hin
    subst hv1
    refine vIloadN X dX4_free_43 0 rfl ?_
    refine vIconst X dX4_free_44 (v := nI (3)) (by decide) ?_
    refine vIcmpN_geT X 72 dX4_free_45 (by decide) (by omega) (by omega) (by omega) ?_
    refine vSub [1, 2, 3] [(2, .int (bI (!rowsHas Rm a 4 && !rdsHas Rd a 3))), (1, .int (nI (a))), (0, .ref (o 0))] rfl ?_
    exact hex
  | succ z ih =>
    intro i v1 hi hv1
    refine vIloadN X dX4_free_43 0 rfl ?_
    refine vIconst X dX4_free_44 (v := nI (3)) (by decide) ?_
    refine vIcmpN_geF X 72 dX4_free_45 (by decide) (by omega) (by omega) (by omega) ?_
    refine vIloadN X dX4_free_48 1 rfl ?_
    refine vAloadN X dX4_free_49 3 rfl ?_
    refine vGet X (C := RX4) (T := TX4) (N := 10) (ci := 4) (vcons inM) rfl 0 rfl 3 (by decide) (List.mem_cons_of_mem _ q_745) (fun _ h => h) rfl dX4_free_50 ?_
    refine vIloadN X dX4_free_53 0 rfl ?_
    refine vIaload X (v := oI (Rd (i))) 4 1 rfl rfl rfl (by omega) (by decide) rfl dX4_free_54 ?_
    refine vIloadN X dX4_free_55 2 rfl ?_
    refine vIcmp_eq X 63 dX4_free_56 (by decide) (fun hc56 => ?_) (fun hc56 => ?_)
    · have hc56 := oI_eq hc56 (hRd i (by omega)) (by omega)
      refine vIconst X dX4_free_63 (v := nI (0)) (by decide) ?_
      refine vIand X dX4_free_64 (v := (v1) &&& (nI (0))) rfl ?_
      refine vIstoreN X [(2, .int ((v1) &&& (nI (0)))), (3, .int (nI (i))), (1, .int (nI (a))), (0, .ref (o 0))] dX4_free_65 (by decide) rfl ?_
      refine vIinc X [(3, .int (nI (i + 1))), (2, .int ((v1) &&& (nI (0)))), (1, .int (nI (a))), (0, .ref (o 0))] dX4_free_66 1 rfl (nI_inc _) (by decide) rfl ?_
      refine vGoto X 43 dX4_free_69 (by decide) ?_
      refine vSub [0, 1, 2, 3] [(3, .int (nI (i + 1))), (2, .int ((v1) &&& (nI (0)))), (1, .int (nI (a))), (0, .ref (o 0))] rfl ?_
      exact ih (i + 1) _ (by omega) (by subst hv1; cases hh : rowsHas Rm a 4 <;> simp [bI_0, bI_1, rdsHas, hc56])
    · have hc56 := oI_ne hc56
      refine vIconst X dX4_free_59 (v := nI (1)) (by decide) ?_
      refine vGoto X 64 dX4_free_60 (by decide) ?_
      refine vIand X dX4_free_64 (v := (v1) &&& (nI (1))) rfl ?_
      refine vIstoreN X [(2, .int ((v1) &&& (nI (1)))), (3, .int (nI (i))), (1, .int (nI (a))), (0, .ref (o 0))] dX4_free_65 (by decide) rfl ?_
      refine vIinc X [(3, .int (nI (i + 1))), (2, .int ((v1) &&& (nI (1)))), (1, .int (nI (a))), (0, .ref (o 0))] dX4_free_66 1 rfl (nI_inc _) (by decide) rfl ?_
      refine vGoto X 43 dX4_free_69 (by decide) ?_
      refine vSub [0, 1, 2, 3] [(3, .int (nI (i + 1))), (2, .int ((v1) &&& (nI (1)))), (1, .int (nI (a))), (0, .ref (o 0))] rfl ?_
      exact ih (i + 1) _ (by omega) (by subst hv1; cases hh : rowsHas Rm a 4 <;> simp [bI_0, bI_1, rdsHas, hc56])
theorem mLive_iff (Rm : Nat → Nat) (Rd : Nat → Option Nat) (a : Nat) : (!rowsHas Rm a 4 && !rdsHas Rd a 3) = false ↔ mLive Rm Rd a := by
  have h1 := rowsHas_iff Rm a 4
  have h2 := rdsHas_iff Rd a 3
  unfold mLive
  rw [← h1, ← h2]
  cases rowsHas Rm a 4 <;> cases rdsHas Rd a 3 <;> simp
set_option maxHeartbeats 4000000 in
set_option maxRecDepth 100000 in
theorem mL_free {p9 : Program} {l : Launch} {e9 : Env} {s9 : State} {m9 : MethodId} {args9 : Array Value} {below9 : List Frame} {meth9 : Method} {c9 : Code} {Q9 : State → Prop} (D : va_G) (k : Nat → ClassId) (o : Nat → Nat) (pl : va_W) (sb : Nat) (B : Nat → Nat → Int32) (Ln Rm : Nat → Nat) (Rd : Nat → Option Nat) (Pl Mk : Nat → Nat) (G : Nat → Nat → Int32) (Sz : Nat → Nat) (Kp : Nat → Int32) (th : Int32) (F : Nat) (hF : mFree Rm Rd F) (hRm : ∀ r, r < 4 → Rm r < 8) (hRd : ∀ g, g < 3 → ∀ b, Rd g = some b → b < 8) (X : vCX p9 s9 m9 args9 meth9 c9 cX4_free 4 yX4_free.cls (Cond.code yX4_free cX4_free 4 (some .int) :: vGW) D vCl (vTy k) sb) (hex : vV p9 l e9 ({ frames := 0, cells := 0, slots := 0, locals := 0 }) s9 m9 args9 below9 meth9 c9 4 D vCl sb Q9 (mW k o pl B Ln Rm Rd Pl Mk G Sz Kp th) 0 0 76 [(1, .int (nI (F))), (0, .ref (o 0))] []) : ∀ (z i : Nat) , i + z = F → vV p9 l e9 ({ frames := 0, cells := 0, slots := 0, locals := 0 }) s9 m9 args9 below9 meth9 c9 4 D vCl sb Q9 (mW k o pl B Ln Rm Rd Pl Mk G Sz Kp th) 0 0 2 [(1, .int (nI (i))), (0, .ref (o 0))] [] := by
  intro z
  induction z with
  | zero =>
    intro i  hi 
    have hin : F = i := by omega
    subst hin
    have hF8 := hF.1
    have hlv : (!rowsHas Rm F 4 && !rdsHas Rd F 3) = true := by
      cases hb : (!rowsHas Rm F 4 && !rdsHas Rd F 3) with
      | true => rfl
      | false => exact absurd ((mLive_iff _ _ _).mp hb) hF.2.1
    refine vIloadN X dX4_free_2 0 rfl ?_
    refine vBipush X dX4_free_3 (v := nI (8)) (by decide) ?_
    refine vIcmpN_geF X 84 dX4_free_5 (by decide) (by omega) (by omega) (by omega) ?_
    refine vIconst X dX4_free_8 (v := nI (1)) (by decide) ?_
    refine vIstoreN X [(2, .int (nI (1))), (1, .int (nI (F))), (0, .ref (o 0))] dX4_free_9 (by decide) rfl ?_
    refine vIconst X dX4_free_10 (v := nI (0)) (by decide) ?_
    refine vIstoreN X [(3, .int (nI (0))), (2, .int (nI (1))), (1, .int (nI (F))), (0, .ref (o 0))] dX4_free_11 (by decide) rfl ?_
    refine vSub [0, 1, 2, 3] [(3, .int (nI (0))), (2, .int (nI (1))), (1, .int (nI (F))), (0, .ref (o 0))] rfl ?_
    refine mL_free1 D k o pl sb B Ln Rm Rd Pl Mk G Sz Kp th F (by omega) hRm X ?_ (4) 0 _ (by omega) rfl
    refine vIconst X dX4_free_41 (v := nI (0)) (by decide) ?_
    refine vIstoreN X [(3, .int (nI (0))), (2, .int (bI (!rowsHas Rm F 4))), (1, .int (nI (F))), (0, .ref (o 0))] dX4_free_42 (by decide) rfl ?_
    refine vSub [0, 1, 2, 3] [(3, .int (nI (0))), (2, .int (bI (!rowsHas Rm F 4))), (1, .int (nI (F))), (0, .ref (o 0))] rfl ?_
    refine mL_free2 D k o pl sb B Ln Rm Rd Pl Mk G Sz Kp th F (by omega) hRd X ?_ (3) 0 _ (by omega) (by simp [rdsHas])
    refine vIloadN X dX4_free_72 0 rfl ?_
    refine vIf_eqF X 78 dX4_free_73 (by decide) (by rw [hlv]; decide) ?_
    refine vSub [1, 2] [(1, .int (nI (F))), (0, .ref (o 0))] rfl ?_
    exact hex
  | succ z ih =>
    intro i  hi 
    have hF8 := hF.1
    have hlv : (!rowsHas Rm i 4 && !rdsHas Rd i 3) = false := (mLive_iff _ _ _).mpr (hF.2.2 i (by omega))
    refine vIloadN X dX4_free_2 0 rfl ?_
    refine vBipush X dX4_free_3 (v := nI (8)) (by decide) ?_
    refine vIcmpN_geF X 84 dX4_free_5 (by decide) (by omega) (by omega) (by omega) ?_
    refine vIconst X dX4_free_8 (v := nI (1)) (by decide) ?_
    refine vIstoreN X [(2, .int (nI (1))), (1, .int (nI (i))), (0, .ref (o 0))] dX4_free_9 (by decide) rfl ?_
    refine vIconst X dX4_free_10 (v := nI (0)) (by decide) ?_
    refine vIstoreN X [(3, .int (nI (0))), (2, .int (nI (1))), (1, .int (nI (i))), (0, .ref (o 0))] dX4_free_11 (by decide) rfl ?_
    refine vSub [0, 1, 2, 3] [(3, .int (nI (0))), (2, .int (nI (1))), (1, .int (nI (i))), (0, .ref (o 0))] rfl ?_
    refine mL_free1 D k o pl sb B Ln Rm Rd Pl Mk G Sz Kp th i (by omega) hRm X ?_ (4) 0 _ (by omega) rfl
    refine vIconst X dX4_free_41 (v := nI (0)) (by decide) ?_
    refine vIstoreN X [(3, .int (nI (0))), (2, .int (bI (!rowsHas Rm i 4))), (1, .int (nI (i))), (0, .ref (o 0))] dX4_free_42 (by decide) rfl ?_
    refine vSub [0, 1, 2, 3] [(3, .int (nI (0))), (2, .int (bI (!rowsHas Rm i 4))), (1, .int (nI (i))), (0, .ref (o 0))] rfl ?_
    refine mL_free2 D k o pl sb B Ln Rm Rd Pl Mk G Sz Kp th i (by omega) hRd X ?_ (3) 0 _ (by omega) (by simp [rdsHas])
    refine vIloadN X dX4_free_72 0 rfl ?_
    refine vIf_eqT X 78 dX4_free_73 (by decide) (by rw [hlv]; rfl) ?_
    refine vIinc X [(1, .int (nI (i + 1))), (2, .int (bI (!rowsHas Rm i 4 && !rdsHas Rd i 3))), (0, .ref (o 0))] dX4_free_78 1 rfl (nI_inc _) (by decide) rfl ?_
    refine vGoto X 2 dX4_free_81 (by decide) ?_
    refine vSub [0, 2] [(1, .int (nI (i + 1))), (0, .ref (o 0))] rfl ?_
    exact ih (i + 1) (by omega)
