theorem subT {n : Nat} (h : n ≤ 3072) : (nI n - nI 6).toInt = (n : Int) - 6 := by
  rw [Int32.toInt_sub, nI_toInt (by omega), nI_toInt (by decide)]
  simp only [Int.bmod]
  split <;> omega
theorem lw_head {p : Program} {e : Env} {s : State} {m : MethodId} {below : List Frame} {meth : Method} {c : Code} (l : Launch) {D : va_G} {k : Nat → ClassId} {o : Nat → Nat} {b LL x ou od : Nat} {xs : Nat → Int32} {Q : State → Prop} (X : vCX p s m #[.ref b] meth c cL_law 9 RL (Cond.initialized "Bytewell" :: vGW) D vCl (vTy k) s.heap.size) (hE : vEL s.heap.size s) (hl : l.stackTraces = false) (hX : va_X b LL xs s s.heap) (hbl : b < s.heap.size) (hLL : LL ≤ 3072) {i : Nat} (hi : i ≤ 3072) {cells slots : Nat} {ws : va_W} (kE : LL < i + 6 → vV p l e room_1 s m #[.ref b] below meth c 9 D vCl s.heap.size Q ws cells slots 2505 [(5, .int (nI i)), (4, .ref od), (3, .ref ou), (2, .ref (o 0)), (1, .ref x), (0, .ref b)] []) (kB : i + 6 ≤ LL → vV p l e room_1 s m #[.ref b] below meth c 9 D vCl s.heap.size Q ws cells slots 38 [(5, .int (nI i)), (4, .ref od), (3, .ref ou), (2, .ref (o 0)), (1, .ref x), (0, .ref b)] []) : vV p l e room_1 s m #[.ref b] below meth c 9 D vCl s.heap.size Q ws cells slots 28 [(5, .int (nI i)), (4, .ref od), (3, .ref ou), (2, .ref (o 0)), (1, .ref x), (0, .ref b)] [] := by
  refine vIload X dL_law_28 0 rfl ?_
  refine vAloadN X dL_law_30 5 rfl ?_
  refine vSlen X hX hbl (Nat.le_refl _) dL_law_31 ?_
  refine vBipush X dL_law_32 (v := nI 6) (by decide) ?_
  refine vIsub X dL_law_34 (v := nI LL - nI 6) rfl ?_
  refine vIcmp_gt X 2505 dL_law_35 (by decide) (fun h => kE ?_) (fun h => kB ?_)
  · have h9 := Int32.lt_iff_toInt_lt.mp h
    rw [subT hLL, nI_toInt (by omega)] at h9
    omega
  · have h9 := (not_congr Int32.lt_iff_toInt_lt).mp h
    rw [subT hLL, nI_toInt (by omega)] at h9
    omega
set_option maxHeartbeats 4000000 in
theorem lw_turn {p : Program} {e : Env} {s : State} {m : MethodId} {below : List Frame} {meth : Method} {c : Code} (l : Launch) {D : va_G} {k : Nat → ClassId} {o : Nat → Nat} {b LL x ou od : Nat} {xs : Nat → Int32} {Q : State → Prop} (X : vCX p s m #[.ref b] meth c cL_law 9 RL (Cond.initialized "Bytewell" :: vGW) D vCl (vTy k) s.heap.size) (hE : vEL s.heap.size s) (hl : l.stackTraces = false) (hX : va_X b LL xs s s.heap) (hbl : b < s.heap.size) (hLL : LL ≤ 3072) {i : Nat} (hi : i + 6 ≤ LL) {cells slots : Nat} (hc : cells + 8 ≤ 603072) (hs : slots + 800 ≤ 7219306) {L : List Nat} {f : Nat → va_E} {B : Nat → Nat → Int32} {Ln Rm : Nat → Nat} {Rd : Nat → Option Nat} {Pl Mk : Nat → Nat} {G : Nat → Nat → Int32} {Sz : Nat → Nat} {Kp : Nat → Int32} {th : Int32} {gL : Nat → Int64} {gD : Nat → UInt64} (h : lInv k o ou od x L f B Ln Rm Rd Pl Mk G Sz Kp th gL gD) (kk : lNext p l e s m below meth c D k o b x ou od Q i cells slots) : vV p l e room_1 s m #[.ref b] below meth c 9 D vCl s.heap.size Q (va_pl L f) cells slots 38 [(5, .int (nI i)), (4, .ref od), (3, .ref ou), (2, .ref (o 0)), (1, .ref x), (0, .ref b)] [] := by
  refine vAloadN X dL_law_38 5 rfl ?_
  refine vIload X dL_law_39 0 rfl ?_
  refine vSld X hX hbl (Nat.le_refl _) hLL (j := i) rfl (by omega) dL_law_41 ?_
  refine vBipush X dL_law_42 (v := nI 63) (by decide) ?_
  obtain ⟨t, ht, et⟩ := and63 (xs i)
  refine vIand X dL_law_44 et ?_
  by_cases h0 : t = 0
  · subst h0
    refine vTabIn X 151 196 dL_law_45 (by decide) (by decide) (by decide) (by decide) ?_
    exact lw_make l X hE hl hX hbl hLL hi hc hs h kk
  by_cases h1 : t = 1
  · subst h1
    refine vTabIn X 219 264 dL_law_45 (by decide) (by decide) (by decide) (by decide) ?_
    exact lw_lend l X hE hl hX hbl hLL hi hc hs h kk
  by_cases h2 : t = 2
  · subst h2
    refine vTabIn X 287 332 dL_law_45 (by decide) (by decide) (by decide) (by decide) ?_
    exact lw_length l X hE hl hX hbl hLL hi hc hs h kk
  by_cases h3 : t = 3
  · subst h3
    refine vTabIn X 343 388 dL_law_45 (by decide) (by decide) (by decide) (by decide) ?_
    exact lw_get l X hE hl hX hbl hLL hi hc hs h kk
  by_cases h4 : t = 4
  · subst h4
    refine vTabIn X 411 456 dL_law_45 (by decide) (by decide) (by decide) (by decide) ?_
    exact lw_put l X hE hl hX hbl hLL hi hc hs h kk
  by_cases h5 : t = 5
  · subst h5
    refine vTabIn X 491 536 dL_law_45 (by decide) (by decide) (by decide) (by decide) ?_
    exact lw_fill l X hE hl hX hbl hLL hi hc hs h kk
  by_cases h6 : t = 6
  · subst h6
    refine vTabIn X 595 640 dL_law_45 (by decide) (by decide) (by decide) (by decide) ?_
    exact lw_isLike l X hE hl hX hbl hLL hi hc hs h kk
  by_cases h7 : t = 7
  · subst h7
    refine vTabIn X 670 715 dL_law_45 (by decide) (by decide) (by decide) (by decide) ?_
    exact lw_write l X hE hl hX hbl hLL hi hc hs h kk
  by_cases h8 : t = 8
  · subst h8
    refine vTabIn X 738 783 dL_law_45 (by decide) (by decide) (by decide) (by decide) ?_
    exact lw_writePart l X hE hl hX hbl hLL hi hc hs h kk
  by_cases h9 : t = 9
  · subst h9
    refine vTabIn X 830 875 dL_law_45 (by decide) (by decide) (by decide) (by decide) ?_
    exact lw_writeRow l X hE hl hX hbl hLL hi hc hs h kk
  by_cases h10 : t = 10
  · subst h10
    refine vTabIn X 898 943 dL_law_45 (by decide) (by decide) (by decide) (by decide) ?_
    exact lw_writeNumber l X hE hl hX hbl hLL hi hc hs h kk
  by_cases h11 : t = 11
  · subst h11
    refine vTabIn X 966 1011 dL_law_45 (by decide) (by decide) (by decide) (by decide) ?_
    exact lw_size l X hE hl hX hbl hLL hi hc hs h kk
  by_cases h12 : t = 12
  · subst h12
    refine vTabIn X 1022 1067 dL_law_45 (by decide) (by decide) (by decide) (by decide) ?_
    exact lw_empty l X hE hl hX hbl hLL hi hc hs h kk
  by_cases h13 : t = 13
  · subst h13
    refine vTabIn X 1078 1123 dL_law_45 (by decide) (by decide) (by decide) (by decide) ?_
    exact lw_take l X hE hl hX hbl hLL hi hc hs h kk
  by_cases h14 : t = 14
  · subst h14
    refine vTabIn X 1146 1191 dL_law_45 (by decide) (by decide) (by decide) (by decide) ?_
    exact lw_open l X hE hl hX hbl hLL hi hc hs h kk
  by_cases h15 : t = 15
  · subst h15
    refine vTabIn X 1214 1259 dL_law_45 (by decide) (by decide) (by decide) (by decide) ?_
    exact lw_isOpen l X hE hl hX hbl hLL hi hc hs h kk
  by_cases h16 : t = 16
  · subst h16
    refine vTabIn X 1277 1322 dL_law_45 (by decide) (by decide) (by decide) (by decide) ?_
    exact lw_read l X hE hl hX hbl hLL hi hc hs h kk
  by_cases h17 : t = 17
  · subst h17
    refine vTabIn X 1333 1378 dL_law_45 (by decide) (by decide) (by decide) (by decide) ?_
    exact lw_readPart l X hE hl hX hbl hLL hi hc hs h kk
  by_cases h18 : t = 18
  · subst h18
    refine vTabIn X 1425 1470 dL_law_45 (by decide) (by decide) (by decide) (by decide) ?_
    exact lw_readFull l X hE hl hX hbl hLL hi hc hs h kk
  by_cases h19 : t = 19
  · subst h19
    refine vTabIn X 1517 1562 dL_law_45 (by decide) (by decide) (by decide) (by decide) ?_
    exact lw_readSome l X hE hl hX hbl hLL hi hc hs h kk
  by_cases h20 : t = 20
  · subst h20
    refine vTabIn X 1597 1642 dL_law_45 (by decide) (by decide) (by decide) (by decide) ?_
    exact lw_readNumber l X hE hl hX hbl hLL hi hc hs h kk
  by_cases h21 : t = 21
  · subst h21
    refine vTabIn X 1653 1698 dL_law_45 (by decide) (by decide) (by decide) (by decide) ?_
    exact lw_readLine l X hE hl hX hbl hLL hi hc hs h kk
  by_cases h22 : t = 22
  · subst h22
    refine vTabIn X 1721 1766 dL_law_45 (by decide) (by decide) (by decide) (by decide) ?_
    exact lw_find l X hE hl hX hbl hLL hi hc hs h kk
  by_cases h23 : t = 23
  · subst h23
    refine vTabIn X 1789 1834 dL_law_45 (by decide) (by decide) (by decide) (by decide) ?_
    exact lw_skip l X hE hl hX hbl hLL hi hc hs h kk
  by_cases h24 : t = 24
  · subst h24
    refine vTabIn X 1888 1933 dL_law_45 (by decide) (by decide) (by decide) (by decide) ?_
    exact lw_left l X hE hl hX hbl hLL hi hc hs h kk
  by_cases h25 : t = 25
  · subst h25
    refine vTabIn X 1944 1989 dL_law_45 (by decide) (by decide) (by decide) (by decide) ?_
    exact lw_mark l X hE hl hX hbl hLL hi hc hs h kk
  by_cases h26 : t = 26
  · subst h26
    refine vTabIn X 2012 2057 dL_law_45 (by decide) (by decide) (by decide) (by decide) ?_
    exact lw_back l X hE hl hX hbl hLL hi hc hs h kk
  by_cases h27 : t = 27
  · subst h27
    refine vTabIn X 2068 2113 dL_law_45 (by decide) (by decide) (by decide) (by decide) ?_
    exact lw_pour l X hE hl hX hbl hLL hi hc hs h kk
  by_cases h28 : t = 28
  · subst h28
    refine vTabIn X 2136 2181 dL_law_45 (by decide) (by decide) (by decide) (by decide) ?_
    exact lw_pourParts l X hE hl hX hbl hLL hi hc hs h kk
  by_cases h29 : t = 29
  · subst h29
    refine vTabIn X 2216 2261 dL_law_45 (by decide) (by decide) (by decide) (by decide) ?_
    exact lw_alike l X hE hl hX hbl hLL hi hc hs h kk
  by_cases h30 : t = 30
  · subst h30
    refine vTabIn X 2284 2329 dL_law_45 (by decide) (by decide) (by decide) (by decide) ?_
    exact lw_leftShare l X hE hl hX hbl hLL hi hc hs h kk
  by_cases h31 : t = 31
  · subst h31
    refine vTabIn X 2362 2407 dL_law_45 (by decide) (by decide) (by decide) (by decide) ?_
    exact lw_meanSize l X hE hl hX hbl hLL hi hc hs h kk
  by_cases h32 : t = 32
  · subst h32
    refine vTabIn X 2427 2472 dL_law_45 (by decide) (by decide) (by decide) (by decide) ?_
    exact lw_checksum l X hE hl hX hbl hLL hi hc hs h kk
  by_cases h33 : t = 33
  · subst h33
    refine vTabIn X 2441 2486 dL_law_45 (by decide) (by decide) (by decide) (by decide) ?_
    exact lw_isTrue l X hE hl hX hbl hLL hi hc hs h kk
  have hbig : 33 < t := by omega
  refine vTabOut X 2499 dL_law_45 (Or.inr (by rw [nI_toInt (by omega)]; omega)) (by decide) ?_
  refine vWiden (cells + 8) (slots + 800) (by omega) (by omega) ?_
  exact kk _ _ _ _ _ _ _ _ _ _ _ _ _ _ h
set_option maxRecDepth 100000 in
theorem lw_loop {p : Program} {e : Env} {s : State} {m : MethodId} {below : List Frame} {meth : Method} {c : Code} (l : Launch) {D : va_G} {k : Nat → ClassId} {o : Nat → Nat} {b LL x ou od : Nat} {xs : Nat → Int32} {Q : State → Prop} (X : vCX p s m #[.ref b] meth c cL_law 9 RL (Cond.initialized "Bytewell" :: vGW) D vCl (vTy k) s.heap.size) (hE : vEL s.heap.size s) (hl : l.stackTraces = false) (hX : va_X b LL xs s s.heap) (hbl : b < s.heap.size) (hLL : LL ≤ 3072) (hexit : ∀ (ws : va_W) (cells slots : Nat) (lv : List (Nat × Value)), cells ≤ 603072 → slots ≤ 7219306 → vV p l e room_1 s m #[.ref b] below meth c 9 D vCl s.heap.size Q ws cells slots 2505 lv []) : ∀ (n : Nat) {i cells slots : Nat} {L : List Nat} {f : Nat → va_E} {B : Nat → Nat → Int32} {Ln Rm : Nat → Nat} {Rd : Nat → Option Nat} {Pl Mk : Nat → Nat} {G : Nat → Nat → Int32} {Sz : Nat → Nat} {Kp : Nat → Int32} {th : Int32} {gL : Nat → Int64} {gD : Nat → UInt64}, LL < i + 6 + 6 * n → i ≤ 3072 → cells + 8 * n ≤ 603072 → slots + 800 * n ≤ 7219306 → lInv k o ou od x L f B Ln Rm Rd Pl Mk G Sz Kp th gL gD → vV p l e room_1 s m #[.ref b] below meth c 9 D vCl s.heap.size Q (va_pl L f) cells slots 28 [(5, .int (nI i)), (4, .ref od), (3, .ref ou), (2, .ref (o 0)), (1, .ref x), (0, .ref b)] [] := by
  intro n
  induction n with
  | zero =>
    intro i cells slots L f B Ln Rm Rd Pl Mk G Sz Kp th gL gD hn hi hc hs h
    exact lw_head l X hE hl hX hbl hLL hi (fun _ => hexit _ _ _ _ (by omega) (by omega)) (fun q => by omega)
  | succ n ih =>
    intro i cells slots L f B Ln Rm Rd Pl Mk G Sz Kp th gL gD hn hi hc hs h
    refine lw_head l X hE hl hX hbl hLL hi (fun _ => hexit _ _ _ _ (by omega) (by omega)) (fun hle => ?_)
    have hc1 : cells + 8 ≤ 603072 := by rw [Nat.mul_succ] at hc; omega
    have hs1 : slots + 800 ≤ 7219306 := by rw [Nat.mul_succ] at hs; omega
    have hc2 : cells + 8 + 8 * n ≤ 603072 := by rw [Nat.mul_succ] at hc; omega
    have hs2 : slots + 800 + 800 * n ≤ 7219306 := by rw [Nat.mul_succ] at hs; omega
    refine lw_turn l X hE hl hX hbl hLL hle hc1 hs1 h ?_
    intro L f B Ln Rm Rd Pl Mk G Sz Kp th gL gD h2
    refine vIinc X [(5, .int (nI (i + 6))), (4, .ref od), (3, .ref ou), (2, .ref (o 0)), (1, .ref x), (0, .ref b)] dL_law_2499 0 rfl (nI_add i 6) (by decide) rfl ?_
    refine vGoto X 28 dL_law_2502 (by decide) ?_
    exact ih (by omega) (by omega) hc2 hs2 h2
