section VJDK
variable {p : Program} {l : Launch} {e : Env} {R : Room} {s : State} {m : MethodId} {args : Array Value} {below : List Frame} {meth : Method} {c : Code} {cc : ByteArray} {nL : Nat} {own : String} {Ts : List Cond} {D : va_G} {cl : List vw_C} {tys : List (ClassId × FieldType)} {sb : Nat} {Q : State → Prop} {ws : va_W} {L : List Nat} {f : Nat → va_E} {cells slots : Nat} {pc : Nat} {lv : List (Nat × Value)} {rest st : List Value}
theorem vObjInit (X : vCX p s m args meth c cc nL own Ts D cl tys sb) {idx a : Nat} (h1 : Cond.methodLink own idx Lib.objectInit ∈ Ts) (h2 : Cond.instanceMethod Lib.objectInit ∈ Ts) (h3 : Cond.code Lib.objectInit ⟨#[0xb1]⟩ 1 none ∈ Ts) (hf : 1 ≤ R.frames) (hlo : 0 + (rest.map fun v => v.category).sum + 12 ≤ R.locals) (hd : decode cc pc = .ok (.invokespecial idx, 3)) (kk : vV p l e R s m args below meth c nL D cl sb Q ws cells slots (pc + 3) lv rest) : vV p l e R s m args below meth c nL D cl sb Q ws cells slots pc lv (.ref a :: rest) :=
  fun H locs ls hP hD hS hl => W.objInit (g := F0 m pc ls (.ref a :: rest)) X.1 X.2.1 X.2.2.2.1 (X.2.2.2.2.1 _ h1) (X.2.2.2.2.1 _ h2) (X.2.2.2.2.1 _ h3) rfl (by rw [X.2.2.1]; exact hl.1) rfl hd hf hlo (kk H locs ls hP hD hS hl)
theorem vMmax (X : vCX p s m args meth c cc nL own Ts D cl tys sb) {idx a b v : Nat} (h1 : Cond.methodLink own idx Lib.Math.max.name ∈ Ts) (h2 : Cond.static Lib.Math.max.name ∈ Ts) (h3 : Cond.initialized "java/lang/Math" ∈ Ts) (h4 : Cond.code Lib.Math.max.name Lib.Math.max.code 2 (some .int) ∈ Ts) (hf : 1 ≤ R.frames) (hlo : (rest.map fun v => v.category).sum + 13 ≤ R.locals) (hc : cells ≤ R.cells) (hs : slots ≤ R.slots) (ha : a < 2 ^ 31) (hb : b < 2 ^ 31) (hv : max a b = v) (hd : decode cc pc = .ok (.invokestatic idx, 3)) (kk : vV p l e R s m args below meth c nL D cl sb Q ws cells slots (pc + 3) lv (.int (nI v) :: rest)) : vV p l e R s m args below meth c nL D cl sb Q ws cells slots pc lv (.int (nI b) :: .int (nI a) :: rest) := by
  intro H locs ls hP hD hS hl
  refine va_mmax X.1 X.2.1 (by rw [X.2.2.1]; exact hl.1.symm) X.2.2.2.1 (X.2.2.2.2.1 _ h1) (X.2.2.2.2.1 _ h2) (X.2.2.2.2.1 _ h3) (X.2.2.2.2.1 _ h4) hf hlo hc hs hd ?_
  have e : (if nI a < nI b then nI b else nI a) = nI v := by
    subst hv
    by_cases q : a < b
    · rw [if_pos ((nI_ltI ha hb).mpr q), Nat.max_eq_right (Nat.le_of_lt q)]
    · rw [if_neg (fun z => q ((nI_ltI ha hb).mp z)), Nat.max_eq_left (by omega)]
  rw [e]
  exact kk H locs ls hP hD hS hl
theorem vMmin (X : vCX p s m args meth c cc nL own Ts D cl tys sb) {idx a b v : Nat} (h1 : Cond.methodLink own idx Lib.Math.min.name ∈ Ts) (h2 : Cond.static Lib.Math.min.name ∈ Ts) (h3 : Cond.initialized "java/lang/Math" ∈ Ts) (h4 : Cond.code Lib.Math.min.name Lib.Math.min.code 2 (some .int) ∈ Ts) (hf : 1 ≤ R.frames) (hlo : (rest.map fun v => v.category).sum + 13 ≤ R.locals) (hc : cells ≤ R.cells) (hs : slots ≤ R.slots) (ha : a < 2 ^ 31) (hb : b < 2 ^ 31) (hv : min a b = v) (hd : decode cc pc = .ok (.invokestatic idx, 3)) (kk : vV p l e R s m args below meth c nL D cl sb Q ws cells slots (pc + 3) lv (.int (nI v) :: rest)) : vV p l e R s m args below meth c nL D cl sb Q ws cells slots pc lv (.int (nI b) :: .int (nI a) :: rest) := by
  intro H locs ls hP hD hS hl
  refine va_mmin X.1 X.2.1 (by rw [X.2.2.1]; exact hl.1.symm) X.2.2.2.1 (X.2.2.2.2.1 _ h1) (X.2.2.2.2.1 _ h2) (X.2.2.2.2.1 _ h3) (X.2.2.2.2.1 _ h4) hf hlo hc hs hd ?_
  have h : ∀ z : Int32, z = nI v → W p l e R s m args below meth c H locs cells slots Q (F0 m (pc + 3) ls (.int z :: rest)) := fun z hz => by subst hz; exact kk H locs ls hP hD hS hl
  refine h _ ?_
  subst hv
  by_cases q : a < b
  · have q1 := (nI_ltI ha hb).mpr q
    have q2 : ¬ nI b < nI a := fun z => by have := (nI_ltI hb ha).mp z; omega
    simp [q1, q2, Nat.min_eq_left (Nat.le_of_lt q)]
  · by_cases q0 : a = b
    · subst q0; simp
    · have q1 : ¬ nI a < nI b := fun z => q ((nI_ltI ha hb).mp z)
      have q2 := (nI_ltI hb ha).mpr (show b < a by omega)
      simp [q1, q2, Nat.min_eq_right (show b ≤ a by omega)]
theorem vMminL (X : vCX p s m args meth c cc nL own Ts D cl tys sb) {idx a b v : Nat} (h1 : Cond.methodLink own idx Lib.MathLoose.min_long.x ∈ Ts) (h2 : Cond.static Lib.MathLoose.min_long.x ∈ Ts) (h3 : Cond.initialized "java/lang/Math" ∈ Ts) (h4 : Cond.code Lib.MathLoose.min_long.x Lib.MathLoose.min_long.code 4 (some .long) ∈ Ts) (hf : 1 ≤ R.frames) (hlo : (rest.map fun v => v.category).sum + 15 ≤ R.locals) (hc : cells ≤ R.cells) (hs : slots ≤ R.slots) (ha : a < 2 ^ 63) (hb : b < 2 ^ 63) (hv : v = min a b) (hd : decode cc pc = .ok (.invokestatic idx, 3)) (kk : vV p l e R s m args below meth c nL D cl sb Q ws cells slots (pc + 3) lv (.long (lN v) :: rest)) : vV p l e R s m args below meth c nL D cl sb Q ws cells slots pc lv (.long (lN b) :: .long (lN a) :: rest) := by
  intro H locs ls hP hD hS hl
  refine va_mmin_long X.1 X.2.1 (by rw [X.2.2.1]; exact hl.1.symm) X.2.2.2.1 (X.2.2.2.2.1 _ h1) (X.2.2.2.2.1 _ h2) (X.2.2.2.2.1 _ h3) (X.2.2.2.2.1 _ h4) hf hlo hc hs hd ?_
  have e : (if lN b < lN a then lN b else lN a) = lN v := by
    subst hv
    by_cases q : b < a
    · rw [if_pos ((pk_lLT hb ha).mpr q), Nat.min_eq_right (Nat.le_of_lt q)]
    · rw [if_neg (fun z => q ((pk_lLT hb ha).mp z)), Nat.min_eq_left (by omega)]
  rw [e]
  exact kk H locs ls hP hD hS hl
theorem lb_fits {r : Int32} (h : lb r = r) : fits .byte (.int r) = true := by
  rw [← h]; exact pk_fb r
theorem vpCopy (X : vCX p s m args meth c cc nL own Ts D cl tys sb) {idx a0 a sp dp n n0 n1 : Nat} {cA : ClassId} {g0 g1 : Nat → Int32} (h1 : Cond.methodLink own idx arraycopyName ∈ Ts) (h2 : Cond.native arraycopyName ∈ Ts) (h3 : Cond.static arraycopyName ∈ Ts) (h4 : Cond.initialized "java/lang/System" ∈ Ts) (t0 : Nat) (ht : tys[t0]? = some (cA, .byte)) (ha0 : a0 ∈ L) (e0 : f a0 = .inl (cA, n0, .inl g0)) (ha : a ∈ L) (e1 : f a = .inl (cA, n1, .inl g1)) (hn0 : n0 ≤ 65536) (hn1 : n1 ≤ 65536) (h5 : sp + n ≤ n0) (h6 : dp + n ≤ n1) (hfit : ∀ j, lb (g0 j) = g0 j) (hf : 1 ≤ R.frames) (hlo : (rest.map fun v => v.category).sum + (nativeFrameWords "java/lang/System" "arraycopy" 5 + 11) ≤ R.locals) (hd : decode cc pc = .ok (.invokestatic idx, 3)) (kk : vV p l e R s m args below meth c nL D cl sb Q (va_pl L (va_up f a (.inl (cA, n1, .inl (va_cpy g0 g1 sp dp n))))) cells slots (pc + 3) lv rest) : vV p l e R s m args below meth c nL D cl sb Q (va_pl L f) cells slots pc lv (.int (nI n) :: .int (nI dp) :: .ref a :: .int (nI sp) :: .ref a0 :: rest) := by
  intro H locs ls hP hD hS hl
  obtain ⟨q0, hq0⟩ := vp_ix (f := f) ha0
  obtain ⟨q1, hq1⟩ := vp_ix (f := f) ha
  have c1 : (nI sp).toNatClampNeg = sp := nI_clamp (by omega)
  have c2 : (nI dp).toNatClampNeg = dp := nI_clamp (by omega)
  have c3 : (nI n).toNatClampNeg = n := nI_clamp (by omega)
  refine va_copyi (D := D) X.1 X.2.1 (by rw [X.2.2.1]; exact hl.1.symm) X.2.2.2.1 (X.2.2.2.2.1 _ h1) (X.2.2.2.2.1 _ h2) (X.2.2.2.2.1 _ h3) (X.2.2.2.2.1 _ h4) X.2.2.2.2.2.1 hP hD hS q0 q1 t0 t0 (hq0.trans (by rw [e0])) (hq1.trans (by rw [e1])) ht ht rfl (nI_pos (by omega)) (nI_pos (by omega)) (nI_pos (by omega)) (by rw [c1, c3]; exact h5) (by rw [c2, c3]; exact h6) (fun i _ => lb_fits (hfit _)) hf hlo hd (fun H1 locs1 hP1 hD1 hS1 => ?_)
  rw [c1, c2, c3, vp_set hD ha hq1] at hP1 hD1
  exact kk H1 locs1 ls hP1 hD1 hS1 hl
end VJDK
theorem va_up_sh {α : Type} {f : Nat → α} {a b : Nat} {x y z : α} : va_up (va_up (va_up f a x) b y) a z = va_up (va_up f b y) a z := by
  funext q
  by_cases h : q = a <;> by_cases h2 : q = b <;> simp [va_up, h, h2]
/-- two addresses that hold different things are two -/
theorem ne_of {α : Type} {f : Nat → α} {a b : Nat} {x y : α} (h1 : f a = x) (h2 : f b = y) (h : ¬ x = y) : a ≠ b := fun q => h (by rw [← h1, ← h2, q])
theorem lb_lb (v : Int32) : (lb v).toInt8.toInt32 = lb v := by simp [lb]
/-- what was there stays, a world may have grown -/
def vExt (L : List Nat) (f : Nat → va_E) (L' : List Nat) (f' : Nat → va_E) : Prop := ∀ a, a ∈ L → a ∈ L' ∧ f' a = f a
def vPt (n : Nat) (x y : Int32) : Prop := ∃ a b : Nat, x = nI a ∧ y = nI b ∧ a + b ≤ n
theorem va_up_sh2 {α : Type} {f : Nat → α} {a b c : Nat} {x y z w : α} : va_up (va_up (va_up (va_up f a x) b y) c w) a z = va_up (va_up (va_up f b y) c w) a z := by
  funext q
  by_cases h : q = a <;> by_cases h2 : q = b <;> by_cases h3 : q = c <;> simp [va_up, h, h2, h3]
theorem va_up_sh3 {α : Type} {f : Nat → α} {a b c d : Nat} {x y z w v : α} : va_up (va_up (va_up (va_up (va_up f a x) b y) c w) d v) a z = va_up (va_up (va_up (va_up f b y) c w) d v) a z := by
  funext q
  by_cases h : q = a <;> by_cases h2 : q = b <;> by_cases h3 : q = c <;> by_cases h4 : q = d <;> simp [va_up, h, h2, h3, h4]
