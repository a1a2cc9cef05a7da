/-! the entry: what the tables and the Statement give -/
theorem enP {ty : FieldType} {args : Array Value} {s : State} (h : (Cond.arrayClass ty).before args s = true) (hty : ty = .byte ∨ ty = .int ∨ ty = .long ∨ ty = .double) : ∃ cA, ArrOfT s cA ty ∧ va_RA s cA ty := by
  obtain ⟨c, k, comp, h1, h2, h3⟩ := Cond.arrayClass_spec (args := args) (first := s) (o := none) (idx := []) h
  refine ⟨c, fun n z => ⟨fun k h => (by cases h), k, h2, comp, h3⟩, ?_⟩
  rcases hty with rfl | rfl | rfl | rfl <;> exact h1
theorem enO {C : String} {args : Array Value} {s : State} (h : (Cond.arrayOver (.object C)).before args s = true) : ∃ cA, ArrOfT s cA (.object C) ∧ va_RA s cA (.object C) := by
  obtain ⟨comp, c, k, f1, -, f2, f3, f5⟩ := Cond.arrayOver_spec (args := args) (first := s) (o := none) (idx := []) h
  exact ⟨c, fun n z => ⟨fun k h => (by cases h), k, f2, comp, f3⟩, k, comp, f2, f3, f1, f5⟩
theorem enK {args : Array Value} {s : State} (hts : ∀ w ∈ lw_tbl, w.before args s = true) : ∃ (D : va_G) (k : Nat → ClassId), va_K D vCl (vTy k) s := by
  have hg : ∀ w ∈ vGW, w.before args s = true := fun w hw => hts w (vGW_good hw).1
  obtain ⟨c0, i0, h0⟩ := u_known (C := RX0) (T := TX0) (N := 2) (n := 2) hg inG (hg _ q_67)
  obtain ⟨c1, i1, h1⟩ := u_known (C := RX1) (T := TX1) (N := 6) (n := 6) hg inR (hg _ q_83)
  obtain ⟨c2, i2, h2⟩ := u_known (C := RX2) (T := TX2) (N := 1) (n := 1) hg inW (hg _ q_52)
  obtain ⟨c3, i3, h3⟩ := u_known (C := RX3) (T := TX3) (N := 5) (n := 5) hg inB (hg _ q_43)
  obtain ⟨c4, i4, h4⟩ := u_known (C := RX4) (T := TX4) (N := 10) (n := 10) hg inM (hg _ q_737)
  obtain ⟨a0, b0⟩ := enP (hg _ q_64) (Or.inl rfl)
  obtain ⟨a1, b1⟩ := enP (hg _ q_773) (Or.inr (Or.inl rfl))
  obtain ⟨a2, b2⟩ := enO (hts _ t_66)
  obtain ⟨a3, b3⟩ := enO (hts _ t_82)
  obtain ⟨a4, b4⟩ := enO (hts _ t_51)
  obtain ⟨a5, b5⟩ := enP (hg _ q_983) (Or.inr (Or.inr (Or.inl rfl)))
  obtain ⟨a6, b6⟩ := enP (hg _ q_984) (Or.inr (Or.inr (Or.inr rfl)))
  refine ⟨(fun j => match j with | 0 => c0 | 1 => c1 | 2 => c2 | 3 => c3 | _ => c4, fun j => match j with | 0 => i0 | 1 => i1 | 2 => i2 | 3 => i3 | _ => i4), (fun j => match j with | 0 => a0 | 1 => a1 | 2 => a2 | 3 => a3 | 4 => a4 | 5 => a5 | _ => a6), fun j q hq => ?_, fun j q hq => ?_⟩
  · have hj : j < 5 := (List.getElem?_eq_some_iff.mp hq).1
    rcases (show j = 0 ∨ j = 1 ∨ j = 2 ∨ j = 3 ∨ j = 4 by omega) with rfl | rfl | rfl | rfl | rfl <;> cases hq
    · exact h0
    · exact h1
    · exact h2
    · exact h3
    · exact h4
  · have hj : j < 7 := (List.getElem?_eq_some_iff.mp hq).1
    rcases (show j = 0 ∨ j = 1 ∨ j = 2 ∨ j = 3 ∨ j = 4 ∨ j = 5 ∨ j = 6 by omega) with rfl | rfl | rfl | rfl | rfl | rfl | rfl <;> cases hq
    · exact b0
    · exact b1
    · exact b2
    · exact b3
    · exact b4
    · exact b5
    · exact b6
theorem enE {args : Array Value} {s : State} (hts : ∀ w ∈ lw_tbl, w.before args s = true) (hgv : (Jvm.Cond.and given_1 narrow_1).before args s = true) {c : ClassId} (hcl : s.vm.findClass RX3 = some c) : vEL s.heap.size s := by
  have hg : ∀ w ∈ vGW, w.before args s = true := fun w hw => hts w (vGW_good hw).1
  have hq := flat_of_before _ hgv
  have hA : ∀ a : Nat, a < s.heap.size → ¬ vAb s.heap.size a := fun a h q => by have q9 : s.heap.size ≤ a := q; omega
  refine ⟨⟨vx_Zqof (args := args) (hts _ t_275) (hg _ q_30) (hq _ (by decide +kernel)) hA, vx_Zqof (args := args) (hts _ t_277) (hg _ q_30) (hq _ (by decide +kernel)) hA, fun C T h => va_Nw.of rfl (hts _ h), fun x h => va_Nw.of rfl (hts _ h), fun i tx h => ?_⟩, fun q hq9 => ?_⟩
  · obtain ⟨k, cf, j, a, -, -, -, -, -, e⟩ := Cond.stringRef_spec (args := args) (first := s) (o := none) (idx := []) hcl (hts _ h)
    exact ⟨a, vk_R.of (hts _ h) e⟩
  · simp only [ncL, List.mem_cons, List.not_mem_nil, or_false] at hq9
    rcases hq9 with rfl | rfl | rfl | rfl | rfl | rfl | rfl | rfl | rfl | rfl | rfl <;> exact va_Nc.of (hq _ (by decide +kernel))
theorem enA {args : Array Value} {s : State} (hts : ∀ w ∈ lw_tbl, w.before args s = true) : vAO s := ⟨va_AO.of (hts _ t_51), va_AO.of (hts _ t_66), va_AO.of (hts _ t_82)⟩
