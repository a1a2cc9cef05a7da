set_option maxHeartbeats 4000000 in
set_option maxRecDepth 100000 in
theorem cr_count (l : Launch) (D : va_G) (k : Nat → ClassId) (sb : Nat) (L : List Nat) (f : Nat → va_E) (h b n : Nat) (g : Nat → Int32) (hh : h ∈ L) (fh : f h = .inr (2, [.ref b])) (hb : b ∈ L) (fb : f b = .inl (k 0, n, .inl g)) (hn : n ≤ 256) : vCt l yX2_count cX2_count 1 (some .int) 0 0 0 0 D vCl (vTy k) sb [.ref (h)] (va_pl L f) (vDet (some (.int (nI (n)))) (va_pl L f)) := by
  refine vOf (by decide +kernel) (Nat.le_of_ble_eq_true rfl) (fun p9 e9 s9 m9 below9 meth9 c9 X hret hmn => ?_)
  refine vAloadN X dX2_count_0 0 rfl ?_
  refine vpGet X (C := RX2) (T := TX2) (N := 1) (ci := 2) (vcons inW) rfl hh fh 0 (by decide) (List.mem_cons_of_mem _ q_60) (fun _ h => h) rfl dX2_count_1 ?_
  refine vpAlen X (v := nI (n)) hb fb 0 rfl rfl dX2_count_4 ?_
  exact vRetI X hret dX2_count_5 ⟨rfl, rfl⟩
set_option maxHeartbeats 4000000 in
set_option maxRecDepth 100000 in
theorem cr_has (l : Launch) (D : va_G) (k : Nat → ClassId) (sb : Nat) (L : List Nat) (f : Nat → va_E) (h b n : Nat) (g : Nat → Int32) (j : Nat) (hh : h ∈ L) (fh : f h = .inr (2, [.ref b])) (hb : b ∈ L) (fb : f b = .inl (k 0, n, .inl g)) (hn : n ≤ 256) (hj : j < n) : vCt l yX2_has cX2_has 2 (some .boolean) 0 0 0 0 D vCl (vTy k) sb [.ref (h), .int (nI (j))] (va_pl L f) (vDet (some (.int (nI (1)))) (va_pl L f)) := by
  refine vOf (by decide +kernel) (Nat.le_of_ble_eq_true rfl) (fun p9 e9 s9 m9 below9 meth9 c9 X hret hmn => ?_)
  refine vIloadN X dX2_has_0 1 rfl ?_
  refine vIfN_ltF X 17 dX2_has_1 (by decide) (by omega) (by omega) ?_
  refine vIloadN X dX2_has_4 1 rfl ?_
  refine vAloadN X dX2_has_5 0 rfl ?_
  refine vpGet X (C := RX2) (T := TX2) (N := 1) (ci := 2) (vcons inW) rfl hh fh 0 (by decide) (List.mem_cons_of_mem _ q_60) (fun _ h => h) rfl dX2_has_6 ?_
  refine vpAlen X (v := nI (n)) hb fb 0 rfl rfl dX2_has_9 ?_
  refine vIcmpN_geF X 17 dX2_has_10 (by decide) (by omega) (by omega) (by omega) ?_
  refine vIconst X dX2_has_13 (v := nI (1)) (by decide) ?_
  refine vGoto X 18 dX2_has_14 (by decide) ?_
  exact vRetZ X hret (by first | rfl | exact nar_bI _) dX2_has_18 ⟨rfl, rfl⟩
set_option maxHeartbeats 4000000 in
set_option maxRecDepth 100000 in
theorem cr_byteAt (l : Launch) (D : va_G) (k : Nat → ClassId) (sb : Nat) (L : List Nat) (f : Nat → va_E) (h b n : Nat) (g : Nat → Int32) (j : Nat) (hh : h ∈ L) (fh : f h = .inr (2, [.ref b])) (hb : b ∈ L) (fb : f b = .inl (k 0, n, .inl g)) (hn : n ≤ 256) (hj : j < n) : vCt l yX2_byteAt cX2_byteAt 2 (some .int) 1 21 0 0 D vCl (vTy k) sb [.ref (h), .int (nI (j))] (va_pl L f) (vDet (some (.int (g j))) (va_pl L f)) := by
  refine vOf (by decide +kernel) (Nat.le_of_ble_eq_true rfl) (fun p9 e9 s9 m9 below9 meth9 c9 X hret hmn => ?_)
  refine vAloadN X dX2_byteAt_0 0 rfl ?_
  refine vIloadN X dX2_byteAt_1 1 rfl ?_
  obtain ⟨ix2, hix2⟩ := vp_ix (f := f) hh
  refine vCallVd X [] (cr_has l D k sb L f h b (n) (g) j hh fh hb fb (by omega) (by omega)) (vGV q_144 q_145 q_146 q_25 q_147) ⟨by decide, by decide, (show _ = some 1 from by decide +kernel)⟩ ⟨Nat.le_of_ble_eq_true rfl, Nat.le_of_ble_eq_true rfl⟩ ix2 2 rfl rfl (hix2.trans (by rw [fh])) rfl (Nat.le_of_ble_eq_true rfl) dX2_byteAt_2 ⟨Nat.le_of_ble_eq_true rfl, Nat.le_of_ble_eq_true rfl⟩ ?_
  refine vIfN_eqF X 17 dX2_byteAt_5 (by decide) (by omega) (by omega) ?_
  refine vAloadN X dX2_byteAt_8 0 rfl ?_
  refine vpGet X (C := RX2) (T := TX2) (N := 1) (ci := 2) (vcons inW) rfl hh fh 0 (by decide) (List.mem_cons_of_mem _ q_60) (fun _ h => h) rfl dX2_byteAt_9 ?_
  refine vIloadN X dX2_byteAt_12 1 rfl ?_
  refine vpBaload X (v := g (j)) hb fb 0 rfl rfl (by omega) (by omega) rfl dX2_byteAt_13 ?_
  refine vGoto X 18 dX2_byteAt_14 (by decide) ?_
  exact vRetI X hret dX2_byteAt_18 ⟨rfl, rfl⟩
set_option maxHeartbeats 4000000 in
set_option maxRecDepth 100000 in
theorem cr_exchange (l : Launch) (D : va_G) (k : Nat → ClassId) (sb : Nat) (L : List Nat) (f : Nat → va_E) (h b n : Nat) (g : Nat → Int32) (j : Nat) (v : Int32) (hh : h ∈ L) (fh : f h = .inr (2, [.ref b])) (hb : b ∈ L) (fb : f b = .inl (k 0, n, .inl g)) (hn : n ≤ 256) (hj : j < n) : vCt l yX2_exchange cX2_exchange 4 (some .int) 2 42 0 0 D vCl (vTy k) sb [.ref (h), .int (nI (j)), .int (v)] (va_pl L f) (vDet (some (.int (g j))) (va_pl L (va_up f b (.inl (k 0, n, .inl (upd g j (lb v))))))) := by
  refine vOf (by decide +kernel) (Nat.le_of_ble_eq_true rfl) (fun p9 e9 s9 m9 below9 meth9 c9 X hret hmn => ?_)
  refine vAloadN X dX2_exchange_0 0 rfl ?_
  refine vIloadN X dX2_exchange_1 1 rfl ?_
  obtain ⟨ix2, hix2⟩ := vp_ix (f := f) hh
  refine vCallVd X [] (cr_byteAt l D k sb L f h b (n) (g) j hh fh hb fb (by omega) (by omega)) (vGV q_140 q_141 q_142 q_25 q_143) ⟨by decide, by decide, (show _ = some 1 from by decide +kernel)⟩ ⟨Nat.le_of_ble_eq_true rfl, Nat.le_of_ble_eq_true rfl⟩ ix2 2 rfl rfl (hix2.trans (by rw [fh])) rfl (Nat.le_of_ble_eq_true rfl) dX2_exchange_2 ⟨Nat.le_of_ble_eq_true rfl, Nat.le_of_ble_eq_true rfl⟩ ?_
  refine vIstoreN X [(3, .int (g (j))), (0, .ref (h)), (1, .int (nI (j))), (2, .int (v))] dX2_exchange_5 (by decide) rfl ?_
  refine vAloadN X dX2_exchange_6 1 rfl ?_
  refine vIloadN X dX2_exchange_7 2 rfl ?_
  obtain ⟨ix8, hix8⟩ := vp_ix (f := f) hh
  refine vCallVd X [] (cr_has l D k sb L f h b (n) (g) j hh fh hb fb (by omega) (by omega)) (vGV q_144 q_145 q_146 q_25 q_147) ⟨by decide, by decide, (show _ = some 1 from by decide +kernel)⟩ ⟨Nat.le_of_ble_eq_true rfl, Nat.le_of_ble_eq_true rfl⟩ ix8 2 rfl rfl (hix8.trans (by rw [fh])) rfl (Nat.le_of_ble_eq_true rfl) dX2_exchange_8 ⟨Nat.le_of_ble_eq_true rfl, Nat.le_of_ble_eq_true rfl⟩ ?_
  refine vIfN_eqF X 22 dX2_exchange_11 (by decide) (by omega) (by omega) ?_
  refine vAloadN X dX2_exchange_14 1 rfl ?_
  refine vpGet X (C := RX2) (T := TX2) (N := 1) (ci := 2) (vcons inW) rfl hh fh 0 (by decide) (List.mem_cons_of_mem _ q_60) (fun _ h => h) rfl dX2_exchange_15 ?_
  refine vIloadN X dX2_exchange_18 2 rfl ?_
  refine vIloadN X dX2_exchange_19 3 rfl ?_
  refine vI2b X dX2_exchange_20 (v := lb (v)) rfl ?_
  refine vpBastore X (g' := upd g (j) (lb (v))) hb fb 0 rfl rfl (by omega) (by omega) (by rw [vp_nar_byte, lb_lb]) dX2_exchange_21 ?_
  refine vIloadN X dX2_exchange_22 0 rfl ?_
  exact vRetI X hret dX2_exchange_23 ⟨rfl, rfl⟩
set_option maxHeartbeats 4000000 in
set_option maxRecDepth 100000 in
theorem cr_hasPartT (l : Launch) (D : va_G) (k : Nat → ClassId) (sb : Nat) (L : List Nat) (f : Nat → va_E) (h b n : Nat) (g : Nat → Int32) (a m : Nat) (hh : h ∈ L) (fh : f h = .inr (2, [.ref b])) (hb : b ∈ L) (fb : f b = .inl (k 0, n, .inl g)) (hn : n ≤ 256) (hp : a + m ≤ n) : vCt l yX2_hasPart cX2_hasPart 3 (some .boolean) 0 0 0 0 D vCl (vTy k) sb [.ref (h), .int (nI (a)), .int (nI (m))] (va_pl L f) (vDet (some (.int (nI (1)))) (va_pl L f)) := by
  refine vOf (by decide +kernel) (Nat.le_of_ble_eq_true rfl) (fun p9 e9 s9 m9 below9 meth9 c9 X hret hmn => ?_)
  refine vIloadN X dX2_hasPart_0 1 rfl ?_
  refine vIfN_ltF X 32 dX2_hasPart_1 (by decide) (by omega) (by omega) ?_
  refine vIloadN X dX2_hasPart_4 2 rfl ?_
  refine vIfN_ltF X 32 dX2_hasPart_5 (by decide) (by omega) (by omega) ?_
  refine vIloadN X dX2_hasPart_8 1 rfl ?_
  refine vAloadN X dX2_hasPart_9 0 rfl ?_
  refine vpGet X (C := RX2) (T := TX2) (N := 1) (ci := 2) (vcons inW) rfl hh fh 0 (by decide) (List.mem_cons_of_mem _ q_60) (fun _ h => h) rfl dX2_hasPart_10 ?_
  refine vpAlen X (v := nI (n)) hb fb 0 rfl rfl dX2_hasPart_13 ?_
  refine vIcmpN_gtF X 32 dX2_hasPart_14 (by decide) (by omega) (by omega) (by omega) ?_
  refine vIloadN X dX2_hasPart_17 2 rfl ?_
  refine vAloadN X dX2_hasPart_18 0 rfl ?_
  refine vpGet X (C := RX2) (T := TX2) (N := 1) (ci := 2) (vcons inW) rfl hh fh 0 (by decide) (List.mem_cons_of_mem _ q_60) (fun _ h => h) rfl dX2_hasPart_19 ?_
  refine vpAlen X (v := nI (n)) hb fb 0 rfl rfl dX2_hasPart_22 ?_
  refine vIloadN X dX2_hasPart_23 1 rfl ?_
  refine vIsub X dX2_hasPart_24 (v := nI ((n) - (a))) (pk_sub (by omega)) ?_
  refine vIcmpN_gtF X 32 dX2_hasPart_25 (by decide) (by omega) (by omega) (by omega) ?_
  refine vIconst X dX2_hasPart_28 (v := nI (1)) (by decide) ?_
  refine vGoto X 33 dX2_hasPart_29 (by decide) ?_
  exact vRetZ X hret (by first | rfl | exact nar_bI _) dX2_hasPart_33 ⟨rfl, rfl⟩
set_option maxHeartbeats 4000000 in
set_option maxRecDepth 100000 in
theorem cr_hasPartF1 (l : Launch) (D : va_G) (k : Nat → ClassId) (sb : Nat) (L : List Nat) (f : Nat → va_E) (h b n : Nat) (g : Nat → Int32) (x y : Int32) (hh : h ∈ L) (fh : f h = .inr (2, [.ref b])) (hb : b ∈ L) (fb : f b = .inl (k 0, n, .inl g)) (hn : n ≤ 256) (hx : x < nI 0) : vCt l yX2_hasPart cX2_hasPart 3 (some .boolean) 0 0 0 0 D vCl (vTy k) sb [.ref (h), .int (x), .int (y)] (va_pl L f) (vDet (some (.int (nI (0)))) (va_pl L f)) := by
  refine vOf (by decide +kernel) (Nat.le_of_ble_eq_true rfl) (fun p9 e9 s9 m9 below9 meth9 c9 X hret hmn => ?_)
  refine vIloadN X dX2_hasPart_0 1 rfl ?_
  refine vIf_ltT X 32 dX2_hasPart_1 (by decide) (by first | assumption | exact Int32.not_lt.mpr (by assumption) | exact Int32.not_le.mpr (by assumption) | exact Int32.not_lt.mp (by assumption) | exact Int32.not_le.mp (by assumption) | decide) ?_
  refine vIconst X dX2_hasPart_32 (v := nI (0)) (by decide) ?_
  exact vRetZ X hret (by first | rfl | exact nar_bI _) dX2_hasPart_33 ⟨rfl, rfl⟩
set_option maxHeartbeats 4000000 in
set_option maxRecDepth 100000 in
theorem cr_hasPartF2 (l : Launch) (D : va_G) (k : Nat → ClassId) (sb : Nat) (L : List Nat) (f : Nat → va_E) (h b n : Nat) (g : Nat → Int32) (a : Nat) (y : Int32) (hh : h ∈ L) (fh : f h = .inr (2, [.ref b])) (hb : b ∈ L) (fb : f b = .inl (k 0, n, .inl g)) (hn : n ≤ 256) (ha : a < 2 ^ 31) (hy : y < nI 0) : vCt l yX2_hasPart cX2_hasPart 3 (some .boolean) 0 0 0 0 D vCl (vTy k) sb [.ref (h), .int (nI (a)), .int (y)] (va_pl L f) (vDet (some (.int (nI (0)))) (va_pl L f)) := by
  refine vOf (by decide +kernel) (Nat.le_of_ble_eq_true rfl) (fun p9 e9 s9 m9 below9 meth9 c9 X hret hmn => ?_)
  refine vIloadN X dX2_hasPart_0 1 rfl ?_
  refine vIfN_ltF X 32 dX2_hasPart_1 (by decide) (by omega) (by omega) ?_
  refine vIloadN X dX2_hasPart_4 2 rfl ?_
  refine vIf_ltT X 32 dX2_hasPart_5 (by decide) (by first | assumption | exact Int32.not_lt.mpr (by assumption) | exact Int32.not_le.mpr (by assumption) | exact Int32.not_lt.mp (by assumption) | exact Int32.not_le.mp (by assumption) | decide) ?_
  refine vIconst X dX2_hasPart_32 (v := nI (0)) (by decide) ?_
  exact vRetZ X hret (by first | rfl | exact nar_bI _) dX2_hasPart_33 ⟨rfl, rfl⟩
set_option maxHeartbeats 4000000 in
set_option maxRecDepth 100000 in
theorem cr_hasPartF3 (l : Launch) (D : va_G) (k : Nat → ClassId) (sb : Nat) (L : List Nat) (f : Nat → va_E) (h b n : Nat) (g : Nat → Int32) (a m : Nat) (hh : h ∈ L) (fh : f h = .inr (2, [.ref b])) (hb : b ∈ L) (fb : f b = .inl (k 0, n, .inl g)) (hn : n ≤ 256) (ha : a < 2 ^ 31) (hm : m < 2 ^ 31) (hp : n < a) : vCt l yX2_hasPart cX2_hasPart 3 (some .boolean) 0 0 0 0 D vCl (vTy k) sb [.ref (h), .int (nI (a)), .int (nI (m))] (va_pl L f) (vDet (some (.int (nI (0)))) (va_pl L f)) := by
  refine vOf (by decide +kernel) (Nat.le_of_ble_eq_true rfl) (fun p9 e9 s9 m9 below9 meth9 c9 X hret hmn => ?_)
  refine vIloadN X dX2_hasPart_0 1 rfl ?_
  refine vIfN_ltF X 32 dX2_hasPart_1 (by decide) (by omega) (by omega) ?_
  refine vIloadN X dX2_hasPart_4 2 rfl ?_
  refine vIfN_ltF X 32 dX2_hasPart_5 (by decide) (by omega) (by omega) ?_
  refine vIloadN X dX2_hasPart_8 1 rfl ?_
  refine vAloadN X dX2_hasPart_9 0 rfl ?_
  refine vpGet X (C := RX2) (T := TX2) (N := 1) (ci := 2) (vcons inW) rfl hh fh 0 (by decide) (List.mem_cons_of_mem _ q_60) (fun _ h => h) rfl dX2_hasPart_10 ?_
  refine vpAlen X (v := nI (n)) hb fb 0 rfl rfl dX2_hasPart_13 ?_
  refine vIcmpN_gtT X 32 dX2_hasPart_14 (by decide) (by omega) (by omega) (by omega) ?_
  refine vIconst X dX2_hasPart_32 (v := nI (0)) (by decide) ?_
  exact vRetZ X hret (by first | rfl | exact nar_bI _) dX2_hasPart_33 ⟨rfl, rfl⟩
set_option maxHeartbeats 4000000 in
set_option maxRecDepth 100000 in
theorem cr_hasPartF4 (l : Launch) (D : va_G) (k : Nat → ClassId) (sb : Nat) (L : List Nat) (f : Nat → va_E) (h b n : Nat) (g : Nat → Int32) (a m : Nat) (hh : h ∈ L) (fh : f h = .inr (2, [.ref b])) (hb : b ∈ L) (fb : f b = .inl (k 0, n, .inl g)) (hn : n ≤ 256) (ha : a ≤ n) (hm : m < 2 ^ 31) (hp : n < a + m) : vCt l yX2_hasPart cX2_hasPart 3 (some .boolean) 0 0 0 0 D vCl (vTy k) sb [.ref (h), .int (nI (a)), .int (nI (m))] (va_pl L f) (vDet (some (.int (nI (0)))) (va_pl L f)) := by
  refine vOf (by decide +kernel) (Nat.le_of_ble_eq_true rfl) (fun p9 e9 s9 m9 below9 meth9 c9 X hret hmn => ?_)
  refine vIloadN X dX2_hasPart_0 1 rfl ?_
  refine vIfN_ltF X 32 dX2_hasPart_1 (by decide) (by omega) (by omega) ?_
  refine vIloadN X dX2_hasPart_4 2 rfl ?_
  refine vIfN_ltF X 32 dX2_hasPart_5 (by decide) (by omega) (by omega) ?_
  refine vIloadN X dX2_hasPart_8 1 rfl ?_
  refine vAloadN X dX2_hasPart_9 0 rfl ?_
  refine vpGet X (C := RX2) (T := TX2) (N := 1) (ci := 2) (vcons inW) rfl hh fh 0 (by decide) (List.mem_cons_of_mem _ q_60) (fun _ h => h) rfl dX2_hasPart_10 ?_
  refine vpAlen X (v := nI (n)) hb fb 0 rfl rfl dX2_hasPart_13 ?_
  refine vIcmpN_gtF X 32 dX2_hasPart_14 (by decide) (by omega) (by omega) (by omega) ?_
  refine vIloadN X dX2_hasPart_17 2 rfl ?_
  refine vAloadN X dX2_hasPart_18 0 rfl ?_
  refine vpGet X (C := RX2) (T := TX2) (N := 1) (ci := 2) (vcons inW) rfl hh fh 0 (by decide) (List.mem_cons_of_mem _ q_60) (fun _ h => h) rfl dX2_hasPart_19 ?_
  refine vpAlen X (v := nI (n)) hb fb 0 rfl rfl dX2_hasPart_22 ?_
  refine vIloadN X dX2_hasPart_23 1 rfl ?_
  refine vIsub X dX2_hasPart_24 (v := nI ((n) - (a))) (pk_sub (by omega)) ?_
  refine vIcmpN_gtT X 32 dX2_hasPart_25 (by decide) (by omega) (by omega) (by omega) ?_
  refine vIconst X dX2_hasPart_32 (v := nI (0)) (by decide) ?_
  exact vRetZ X hret (by first | rfl | exact nar_bI _) dX2_hasPart_33 ⟨rfl, rfl⟩
theorem cr_hasPartF (l : Launch) (D : va_G) (k : Nat → ClassId) (sb : Nat) (L : List Nat) (f : Nat → va_E) (h b n : Nat) (g : Nat → Int32) (x y : Int32) (hh : h ∈ L) (fh : f h = .inr (2, [.ref b])) (hb : b ∈ L) (fb : f b = .inl (k 0, n, .inl g)) (hn : n ≤ 256) (h9 : ¬ vPt n x y) : vCt l yX2_hasPart cX2_hasPart 3 (some .boolean) 0 0 0 0 D vCl (vTy k) sb [.ref h, .int x, .int y] (va_pl L f) (vDet (some (.int (nI (0)))) (va_pl L f)) := by
  by_cases hx : x < nI 0
  · exact cr_hasPartF1 l D k sb L f h b n g x y hh fh hb fb hn hx
  · obtain ⟨a, ha, rfl⟩ := nI_of hx
    by_cases hy : y < nI 0
    · exact cr_hasPartF2 l D k sb L f h b n g a y hh fh hb fb hn ha hy
    · obtain ⟨m, hm, rfl⟩ := nI_of hy
      by_cases hp : a ≤ n
      · exact cr_hasPartF4 l D k sb L f h b n g a m hh fh hb fb hn hp hm (Nat.not_le.mp (fun q => h9 ⟨a, m, rfl, rfl, q⟩))
      · exact cr_hasPartF3 l D k sb L f h b n g a m hh fh hb fb hn ha hm (by omega)
set_option maxHeartbeats 4000000 in
set_option maxRecDepth 100000 in
theorem cr_copyTo (l : Launch) (D : va_G) (k : Nat → ClassId) (sb : Nat) (L : List Nat) (f : Nat → va_E) (h b n : Nat) (g : Nat → Int32) (h2 b2 n2 : Nat) (g2 : Nat → Int32) (t a m : Nat) (hh : h ∈ L) (fh : f h = .inr (2, [.ref b])) (hb : b ∈ L) (fb : f b = .inl (k 0, n, .inl g)) (hn : n ≤ 256) (hh2 : h2 ∈ L) (fh2 : f h2 = .inr (2, [.ref b2])) (hb2 : b2 ∈ L) (fb2 : f b2 = .inl (k 0, n2, .inl g2)) (hn2 : n2 ≤ 256) (hp : a + m ≤ n) (hp2 : t + m ≤ n2) (hgf : ∀ j, lb (g j) = g j) : vCt l yX2_copyTo cX2_copyTo 5 none 2 60 0 0 D vCl (vTy k) sb [.ref (h), .ref (h2), .int (nI (t)), .int (nI (a)), .int (nI (m))] (va_pl L f) (vDet none (va_pl L (va_up f b2 (.inl (k 0, n2, .inl (va_cpy g g2 (a) (t) (m))))))) := by
  refine vOf (by decide +kernel) (Nat.le_of_ble_eq_true rfl) (fun p9 e9 s9 m9 below9 meth9 c9 X hret hmn => ?_)
  refine vAloadN X dX2_copyTo_0 0 rfl ?_
  refine vIloadN X dX2_copyTo_1 3 rfl ?_
  refine vIload X dX2_copyTo_2 4 rfl ?_
  obtain ⟨ix4, hix4⟩ := vp_ix (f := f) hh
  refine vCallVd X [] (cr_hasPartT l D k sb L f h b (n) (g) a m hh fh hb fb (by omega) (by omega)) (vGV q_187 q_188 q_189 q_25 q_190) ⟨by decide, by decide, (show _ = some 2 from by decide +kernel)⟩ ⟨Nat.le_of_ble_eq_true rfl, Nat.le_of_ble_eq_true rfl⟩ ix4 2 rfl rfl (hix4.trans (by rw [fh])) rfl (Nat.le_of_ble_eq_true rfl) dX2_copyTo_4 ⟨Nat.le_of_ble_eq_true rfl, Nat.le_of_ble_eq_true rfl⟩ ?_
  refine vIfN_eqF X 35 dX2_copyTo_7 (by decide) (by omega) (by omega) ?_
  refine vAloadN X dX2_copyTo_10 1 rfl ?_
  refine vIloadN X dX2_copyTo_11 2 rfl ?_
  refine vIload X dX2_copyTo_12 4 rfl ?_
  obtain ⟨ix14, hix14⟩ := vp_ix (f := f) hh2
  refine vCallVd X [] (cr_hasPartT l D k sb L f h2 b2 (n2) (g2) t m hh2 fh2 hb2 fb2 (by omega) (by omega)) (vGV q_187 q_188 q_189 q_25 q_190) ⟨by decide, by decide, (show _ = some 2 from by decide +kernel)⟩ ⟨Nat.le_of_ble_eq_true rfl, Nat.le_of_ble_eq_true rfl⟩ ix14 2 rfl rfl (hix14.trans (by rw [fh2])) rfl (Nat.le_of_ble_eq_true rfl) dX2_copyTo_14 ⟨Nat.le_of_ble_eq_true rfl, Nat.le_of_ble_eq_true rfl⟩ ?_
  refine vIfN_eqF X 35 dX2_copyTo_17 (by decide) (by omega) (by omega) ?_
  refine vAloadN X dX2_copyTo_20 0 rfl ?_
  refine vpGet X (C := RX2) (T := TX2) (N := 1) (ci := 2) (vcons inW) rfl hh fh 0 (by decide) (List.mem_cons_of_mem _ q_60) (fun _ h => h) rfl dX2_copyTo_21 ?_
  refine vIloadN X dX2_copyTo_24 3 rfl ?_
  refine vAloadN X dX2_copyTo_25 1 rfl ?_
  refine vpGet X (C := RX2) (T := TX2) (N := 1) (ci := 2) (vcons inW) rfl hh2 fh2 0 (by decide) (List.mem_cons_of_mem _ q_60) (fun _ h => h) rfl dX2_copyTo_26 ?_
  refine vIloadN X dX2_copyTo_29 2 rfl ?_
  refine vIload X dX2_copyTo_30 4 rfl ?_
  refine vpCopy X (List.mem_cons_of_mem _ q_191) (List.mem_cons_of_mem _ q_193) (List.mem_cons_of_mem _ q_192) (List.mem_cons_of_mem _ q_38) 0 rfl hb fb hb2 fb2 (by omega) (by omega) (by omega) (by omega) hgf (Nat.le_of_ble_eq_true rfl) (Nat.le_of_ble_eq_true rfl) dX2_copyTo_32 ?_
  exact vRetV X hret dX2_copyTo_35 ⟨rfl, rfl⟩
set_option maxHeartbeats 4000000 in
set_option maxRecDepth 100000 in
theorem cL_addedTo {p9 : Program} {l : Launch} {e9 : Env} {s9 : State} {m9 : MethodId} {args9 : Array Value} {below9 : List Frame} {meth9 : Method} {c9 : Code} {Q9 : State → Prop} (D : va_G) (k : Nat → ClassId) (sb : Nat) (L : List Nat) (f : Nat → va_E) (h b n : Nat) (g : Nat → Int32) (m : Nat) (s0 : Int64) (hh : h ∈ L) (fh : f h = .inr (2, [.ref b])) (hb : b ∈ L) (fb : f b = .inl (k 0, n, .inl g)) (hn : n ≤ 256) (hm : m ≤ n) (X : vCX p9 s9 m9 args9 meth9 c9 cX2_addedTo 7 yX2_addedTo.cls (Cond.code yX2_addedTo cX2_addedTo 7 (some .long) :: vGW) D vCl (vTy k) sb) (hex : vV p9 l e9 ({ frames := 2, cells := 0, slots := 0, locals := 42 }) s9 m9 args9 below9 meth9 c9 7 D vCl sb Q9 (va_pl L f) 0 0 34 [(4, .long (ckI g s0 m))] []) : ∀ (z i : Nat) (s1 : Int64), i + z = m → s1 = ckI g s0 i → vV p9 l e9 ({ frames := 2, cells := 0, slots := 0, locals := 42 }) s9 m9 args9 below9 meth9 c9 7 D vCl sb Q9 (va_pl L f) 0 0 6 [(6, .int (nI (i))), (4, .long (s1)), (0, .ref (h)), (1, .long (s0)), (3, .int (nI (m)))] [] := by
  intro z
  induction z with
  | zero =>
    intro i s1 hi hs1
    have hin : m = i := by omega
    subst hin
    subst hs1
    refine vIload X dX2_addedTo_6 0 rfl ?_
    refine vIloadN X dX2_addedTo_8 4 rfl ?_
    refine vIcmpN_geT X 34 dX2_addedTo_9 (by decide) (by omega) (by omega) (by omega) ?_
    refine vSub [1] [(4, .long (ckI g s0 m))] rfl ?_
    exact hex
  | succ z ih =>
    intro i s1 hi hs1
    refine vIload X dX2_addedTo_6 0 rfl ?_
    refine vIloadN X dX2_addedTo_8 4 rfl ?_
    refine vIcmpN_geF X 34 dX2_addedTo_9 (by decide) (by omega) (by omega) (by omega) ?_
    refine vLdc2 X (v := (31 : Int64)) (List.mem_cons_of_mem _ q_139) dX2_addedTo_12 ?_
    refine vLload X dX2_addedTo_15 1 rfl ?_
    refine vLmul X dX2_addedTo_17 (v := ((31 : Int64)) * (s1)) rfl ?_
    refine vAloadN X dX2_addedTo_18 2 rfl ?_
    refine vIload X dX2_addedTo_19 0 rfl ?_
    obtain ⟨ix21, hix21⟩ := vp_ix (f := f) hh
    refine vCallVd X [.long (((31 : Int64)) * (s1))] (cr_byteAt l D k sb L f h b (n) (g) i hh fh hb fb (by omega) (by omega)) (vGV q_140 q_141 q_142 q_25 q_143) ⟨by decide, by decide, (show _ = some 1 from by decide +kernel)⟩ ⟨Nat.le_of_ble_eq_true rfl, Nat.le_of_ble_eq_true rfl⟩ ix21 2 rfl rfl (hix21.trans (by rw [fh])) rfl (Nat.le_of_ble_eq_true rfl) dX2_addedTo_21 ⟨Nat.le_of_ble_eq_true rfl, Nat.le_of_ble_eq_true rfl⟩ ?_
    refine vI2l X dX2_addedTo_24 (v := (g (i)).toInt64) rfl ?_
    refine vLadd X dX2_addedTo_25 (v := (((31 : Int64)) * (s1)) + ((g (i)).toInt64)) rfl ?_
    refine vLstore X [(4, .long ((((31 : Int64)) * (s1)) + ((g (i)).toInt64))), (6, .int (nI (i))), (0, .ref (h)), (1, .long (s0)), (3, .int (nI (m)))] dX2_addedTo_26 (by decide) rfl ?_
    refine vIinc X [(6, .int (nI (i + 1))), (4, .long ((((31 : Int64)) * (s1)) + ((g (i)).toInt64))), (0, .ref (h)), (1, .long (s0)), (3, .int (nI (m)))] dX2_addedTo_28 1 rfl (nI_inc _) (by decide) rfl ?_
    refine vGoto X 6 dX2_addedTo_31 (by decide) ?_
    refine vSub [0, 1, 2, 3, 4] [(6, .int (nI (i + 1))), (4, .long ((((31 : Int64)) * (s1)) + ((g (i)).toInt64))), (0, .ref (h)), (1, .long (s0)), (3, .int (nI (m)))] rfl ?_
    exact ih (i + 1) _ (by omega) (by rw [hs1]; rfl)
set_option maxHeartbeats 4000000 in
set_option maxRecDepth 100000 in
theorem cr_addedTo (l : Launch) (D : va_G) (k : Nat → ClassId) (sb : Nat) (L : List Nat) (f : Nat → va_E) (h b n : Nat) (g : Nat → Int32) (s0 : Int64) (m : Nat) (hh : h ∈ L) (fh : f h = .inr (2, [.ref b])) (hb : b ∈ L) (fb : f b = .inl (k 0, n, .inl g)) (hn : n ≤ 256) (hm : m ≤ n) : vCt l yX2_addedTo cX2_addedTo 7 (some .long) 2 42 0 0 D vCl (vTy k) sb [.ref (h), .long (s0), .int (nI (m))] (va_pl L f) (vDet (some (.long (ckI g s0 m))) (va_pl L f)) := by
  refine vOf (by decide +kernel) (Nat.le_of_ble_eq_true rfl) (fun p9 e9 s9 m9 below9 meth9 c9 X hret hmn => ?_)
  refine vLloadN X dX2_addedTo_0 1 rfl ?_
  refine vLstore X [(4, .long (s0)), (0, .ref (h)), (1, .long (s0)), (3, .int (nI (m)))] dX2_addedTo_1 (by decide) rfl ?_
  refine vIconst X dX2_addedTo_3 (v := nI (0)) (by decide) ?_
  refine vIstore X [(6, .int (nI (0))), (4, .long (s0)), (0, .ref (h)), (1, .long (s0)), (3, .int (nI (m)))] dX2_addedTo_4 (by decide) rfl ?_
  refine vSub [0, 1, 2, 3, 4] [(6, .int (nI (0))), (4, .long (s0)), (0, .ref (h)), (1, .long (s0)), (3, .int (nI (m)))] rfl ?_
  refine cL_addedTo D k sb L f h b n g m s0 hh fh hb fb hn hm X ?_ (m) 0 _ (by omega) rfl
  refine vLload X dX2_addedTo_34 0 rfl ?_
  exact vRetL X hret dX2_addedTo_36 ⟨rfl, rfl⟩
set_option maxHeartbeats 4000000 in
set_option maxRecDepth 100000 in
theorem cr_init (l : Launch) (D : va_G) (k : Nat → ClassId) (sb : Nat) (L : List Nat) (f : Nat → va_E) (h n : Nat) (hh : h ∈ L) (fh : f h = .inr (2, [.null])) (hn : n ≤ 256) : vCt l yX2_init cX2_init 2 none 2 60 1 256 D vCl (vTy k) sb [.ref (h), .int (nI (n))] (va_pl L f) (fun v ws' => ∃ q, q ∉ L ∧ v = none ∧ ws' = va_pl (L ++ [q]) (va_up (va_up f q (.inl (k 0, n, .inl (fun _ => 0)))) h (.inr (2, [.ref q])))) := by
  refine vOf (by decide +kernel) (Nat.le_of_ble_eq_true rfl) (fun p9 e9 s9 m9 below9 meth9 c9 X hret hmn => ?_)
  refine vAloadN X dX2_init_0 0 rfl ?_
  refine vObjInit X (List.mem_cons_of_mem _ q_56) (List.mem_cons_of_mem _ q_48) (List.mem_cons_of_mem _ q_49) (Nat.le_of_ble_eq_true rfl) (Nat.le_of_ble_eq_true rfl) dX2_init_1 ?_
  refine vAloadN X dX2_init_4 0 rfl ?_
  refine vIloadN X dX2_init_5 1 rfl ?_
  refine vIconst X dX2_init_6 (v := nI (0)) (by decide) ?_
  refine vMmax X (v := n) (List.mem_cons_of_mem _ q_57) (List.mem_cons_of_mem _ q_58) (List.mem_cons_of_mem _ q_26) (List.mem_cons_of_mem _ q_59) (Nat.le_of_ble_eq_true rfl) (Nat.le_of_ble_eq_true rfl) (Nat.le_of_ble_eq_true rfl) (Nat.le_of_ble_eq_true rfl) (by omega) (by omega) (by omega) dX2_init_7 ?_
  refine vpNewB X (List.mem_cons_of_mem _ q_64) 0 rfl (N' := n) rfl (by omega) (Nat.le_of_ble_eq_true rfl) (show 0 + n ≤ 256 from by omega) dX2_init_10 (fun q10 hq10 => ?_)
  refine vWiden 1 256 (by omega) (by omega) ?_
  refine vpPutF X (C := RX2) (T := TX2) (N := 1) (ci := 2) (ty := .array .byte) hmn (vcons inW) tyX2 tyX2_ok nmX2 rfl (List.mem_append_left _ hh) ((va_up_nq _ (fun z9 => hq10 (by rw [← z9]; exact hh))).trans fh) 0 (by decide) (List.mem_cons_of_mem _ q_60) (fun _ h => h) rfl rfl (by decide +kernel) rfl rfl (Nat.le_of_ble_eq_true rfl) dX2_init_12 ?_
  exact vRetV X hret dX2_init_15 ⟨q10, hq10, rfl, rfl⟩
