/-! NoSuchElementException: its message constructor calls its super's by a place of its own in the pool; the way up is then the usual one -/
def nsC : String := "java/util/NoSuchElementException"
def nsR : String := "java/lang/RuntimeException"
theorem ns_d0 : decode prog_20_method_4_code 0 = .ok (.aload_n 0, 1) := by decide +kernel
theorem ns_d1 : decode prog_20_method_4_code 1 = .ok (.aload_n 1, 1) := by decide +kernel
theorem ns_d2 : decode prog_20_method_4_code 2 = .ok (.invokespecial 13, 3) := by decide +kernel
theorem ns_d5 : decode prog_20_method_4_code 5 = .ok (.return_, 1) := by decide +kernel
def nsW (own : String) (ic : Nat) : List Cond :=
  Bundle.throwableAtoms ++ Bundle.throwableSAtoms ++ (Bundle.passSAtoms nsC nsR 13 prog_20_method_4_code ++ Bundle.chainSAtoms nsR ["java/lang/Exception"]) ++
  [.methodLink own ic (Bundle.initS nsC), .instantiable nsC 6, .castable nsC nsC, .selects nsC Bundle.tFill0 Bundle.tFill0, .selects nsC Bundle.tFill Bundle.tFill,
   .lays nsC Bundle.tN "cause" "Ljava/lang/Throwable;", .lays nsC Bundle.tN "stackTrace" Bundle.steD, .lays nsC Bundle.tN "suppressedExceptions" Bundle.listD, .lays nsC Bundle.tN "detailMessage" "Ljava/lang/String;",
   .isRef (.static Bundle.tN "UNASSIGNED_STACK" Bundle.steD), .isRef (.static Bundle.tN "SUPPRESSED_SENTINEL" Bundle.listD),
   .fieldLink Bundle.tN 198 Bundle.tN "backtrace" "Ljava/lang/Object;", .lays Bundle.tN Bundle.tN "backtrace" "Ljava/lang/Object;", .lays nsC Bundle.tN "backtrace" "Ljava/lang/Object;"]
theorem ns_chain {args : Array Value} {s : State} {pl : Platform} (hpl : pl.magicAccessors = ({} : Platform).magicAccessors) {top : MethodId} (htop : s.methodNamed? (Bundle.initS Bundle.tN) = some top)
    (h : ∀ c ∈ Bundle.passSAtoms nsC nsR 13 prog_20_method_4_code ++ Bundle.chainSAtoms nsR ["java/lang/Exception"], c.before args s = true) :
    ∃ (P1 : PassC) (Ps : List PassC), Ps.length = 2 ∧ P1.LinksS pl s ∧ (∀ P, P ∈ Ps → P.LinksS pl s) ∧ s.methodNamed? (Bundle.initS nsC) = some P1.m ∧
      P1.sup = firstOf top (Ps.map (fun P => P.toPassT)) ∧ PassesOn top (Ps.map (fun P => P.toPassT)) := by
  obtain ⟨P, L, hm, hs⟩ := PassC.ofS_atoms (args := args) (s := s) hpl (X := nsC) (Y := nsR) (by decide +kernel) (by decide) ns_d0 ns_d1 ns_d2 ns_d5 (fun c hc => h c (List.mem_append_left _ hc))
  obtain ⟨P2, Ps, hlen, L2, hL, hm2, hsup, hpass⟩ := Bundle.chainS (args := args) hpl htop ["java/lang/Exception"] nsR (by decide +kernel) (by decide +kernel) (fun c hc => h c (List.mem_append_right _ hc))
  refine ⟨P, P2 :: Ps, by simp [hlen], L, fun Q hQ => ?_, hm, Option.some.inj (hs.symm.trans hm2), hsup, hpass⟩
  rcases List.mem_cons.mp hQ with rfl | hQ
  · exact L2
  · exact hL Q hQ
