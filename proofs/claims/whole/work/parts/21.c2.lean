set_option maxHeartbeats 4000000 in
set_option maxRecDepth 100000 in
theorem cg_count (l : Launch) (D : va_G) (k : Nat → ClassId) (sb : Nat) (L : List Nat) (f : Nat → va_E) (u ur ub c : Nat) (gu : Nat → Int32) (hu : u ∈ L) (fu : f u = .inr (0, [.ref ur, .int (nI c)])) (hur : ur ∈ L) (fur : f ur = .inr (2, [.ref ub])) (hub : ub ∈ L) (fub : f ub = .inl (k 0, 256, .inl gu)) (hc : c ≤ 256) : vCt l yX0_count cX0_count 1 (some .int) 0 0 0 0 D vCl (vTy k) sb [.ref (u)] (va_pl L f) (vDet (some (.int (nI (c)))) (va_pl L f)) := by
  refine vOf (by decide +kernel) (Nat.le_of_ble_eq_true rfl) (fun p9 e9 s9 m9 below9 meth9 c9 X hret hmn => ?_)
  refine vAloadN X dX0_count_0 0 rfl ?_
  refine vpGet X (C := RX0) (T := TX0) (N := 2) (ci := 0) (vcons inG) rfl hu fu 1 (by decide) (List.mem_cons_of_mem _ q_75) (fun _ h => h) rfl dX0_count_1 ?_
  exact vRetI X hret dX0_count_4 ⟨rfl, rfl⟩
set_option maxHeartbeats 4000000 in
set_option maxRecDepth 100000 in
theorem cg_room (l : Launch) (D : va_G) (k : Nat → ClassId) (sb : Nat) (L : List Nat) (f : Nat → va_E) (u ur ub c : Nat) (gu : Nat → Int32) (hu : u ∈ L) (fu : f u = .inr (0, [.ref ur, .int (nI c)])) (hur : ur ∈ L) (fur : f ur = .inr (2, [.ref ub])) (hub : ub ∈ L) (fub : f ub = .inl (k 0, 256, .inl gu)) (hc : c ≤ 256) : vCt l yX0_room cX0_room 1 (some .int) 1 20 0 0 D vCl (vTy k) sb [.ref (u)] (va_pl L f) (vDet (some (.int (nI (256 - c)))) (va_pl L f)) := by
  refine vOf (by decide +kernel) (Nat.le_of_ble_eq_true rfl) (fun p9 e9 s9 m9 below9 meth9 c9 X hret hmn => ?_)
  refine vAloadN X dX0_room_0 0 rfl ?_
  refine vpGet X (C := RX0) (T := TX0) (N := 2) (ci := 0) (vcons inG) rfl hu fu 0 (by decide) (List.mem_cons_of_mem _ q_74) (fun _ h => h) rfl dX0_room_1 ?_
  obtain ⟨ix4, hix4⟩ := vp_ix (f := f) hur
  refine vCallVd X [] (cr_count l D k sb L f ur ub (256) (gu)  hur fur hub fub (by omega) ) (vGV q_450 q_132 q_133 q_25 q_134) ⟨by decide, by decide, (show _ = some 0 from by decide +kernel)⟩ ⟨Nat.le_of_ble_eq_true rfl, Nat.le_of_ble_eq_true rfl⟩ ix4 2 rfl rfl (hix4.trans (by rw [fur])) rfl (Nat.le_of_ble_eq_true rfl) dX0_room_4 ⟨Nat.le_of_ble_eq_true rfl, Nat.le_of_ble_eq_true rfl⟩ ?_
  refine vAloadN X dX0_room_7 0 rfl ?_
  refine vpGet X (C := RX0) (T := TX0) (N := 2) (ci := 0) (vcons inG) rfl hu fu 1 (by decide) (List.mem_cons_of_mem _ q_75) (fun _ h => h) rfl dX0_room_8 ?_
  refine vIsub X dX0_room_11 (v := nI ((256) - (c))) (pk_sub (by omega)) ?_
  exact vRetI X hret dX0_room_12 ⟨rfl, rfl⟩
set_option maxHeartbeats 4000000 in
set_option maxRecDepth 100000 in
theorem cg_numberAt (l : Launch) (D : va_G) (k : Nat → ClassId) (sb : Nat) (L : List Nat) (f : Nat → va_E) (u ur ub c : Nat) (gu : Nat → Int32) (j : Nat) (hu : u ∈ L) (fu : f u = .inr (0, [.ref ur, .int (nI c)])) (hur : ur ∈ L) (fur : f ur = .inr (2, [.ref ub])) (hub : ub ∈ L) (fub : f ub = .inl (k 0, 256, .inl gu)) (hc : c ≤ 256) (hj : j < 256) : vCt l yX0_numberAt cX0_numberAt 2 (some .int) 2 42 0 0 D vCl (vTy k) sb [.ref (u), .int (nI (j))] (va_pl L f) (vDet (some (.int ((gu j) &&& (nI 255)))) (va_pl L f)) := by
  refine vOf (by decide +kernel) (Nat.le_of_ble_eq_true rfl) (fun p9 e9 s9 m9 below9 meth9 c9 X hret hmn => ?_)
  refine vAloadN X dX0_numberAt_0 0 rfl ?_
  refine vpGet X (C := RX0) (T := TX0) (N := 2) (ci := 0) (vcons inG) rfl hu fu 0 (by decide) (List.mem_cons_of_mem _ q_74) (fun _ h => h) rfl dX0_numberAt_1 ?_
  refine vIloadN X dX0_numberAt_4 1 rfl ?_
  obtain ⟨ix5, hix5⟩ := vp_ix (f := f) hur
  refine vCallVd X [] (cr_byteAt l D k sb L f ur ub (256) (gu) j hur fur hub fub (by omega) (by omega)) (vGV q_226 q_141 q_142 q_25 q_143) ⟨by decide, by decide, (show _ = some 1 from by decide +kernel)⟩ ⟨Nat.le_of_ble_eq_true rfl, Nat.le_of_ble_eq_true rfl⟩ ix5 2 rfl rfl (hix5.trans (by rw [fur])) rfl (Nat.le_of_ble_eq_true rfl) dX0_numberAt_5 ⟨Nat.le_of_ble_eq_true rfl, Nat.le_of_ble_eq_true rfl⟩ ?_
  refine vSipush X dX0_numberAt_8 (v := nI (255)) (by decide) ?_
  refine vIand X dX0_numberAt_11 (v := (gu (j)) &&& (nI (255))) rfl ?_
  exact vRetI X hret dX0_numberAt_12 ⟨rfl, rfl⟩
set_option maxHeartbeats 4000000 in
set_option maxRecDepth 100000 in
theorem cg_gather (l : Launch) (D : va_G) (k : Nat → ClassId) (sb : Nat) (L : List Nat) (f : Nat → va_E) (u ur ub c : Nat) (gu : Nat → Int32) (v : Int32) (hu : u ∈ L) (fu : f u = .inr (0, [.ref ur, .int (nI c)])) (hur : ur ∈ L) (fur : f ur = .inr (2, [.ref ub])) (hub : ub ∈ L) (fub : f ub = .inl (k 0, 256, .inl gu)) (hc : c ≤ 256) (hc2 : c < 256) : vCt l yX0_gather cX0_gather 2 none 3 65 0 0 D vCl (vTy k) sb [.ref (u), .int (v)] (va_pl L f) (vDet none (va_pl L (va_up (va_up f ub (.inl (k 0, 256, .inl (upd gu c (lb v))))) u (.inr (0, [.ref ur, .int (nI (c + 1))]))))) := by
  refine vOf (by decide +kernel) (Nat.le_of_ble_eq_true rfl) (fun p9 e9 s9 m9 below9 meth9 c9 X hret hmn => ?_)
  refine vAloadN X dX0_gather_0 0 rfl ?_
  refine vpGet X (C := RX0) (T := TX0) (N := 2) (ci := 0) (vcons inG) rfl hu fu 0 (by decide) (List.mem_cons_of_mem _ q_74) (fun _ h => h) rfl dX0_gather_1 ?_
  refine vAloadN X dX0_gather_4 0 rfl ?_
  refine vpGet X (C := RX0) (T := TX0) (N := 2) (ci := 0) (vcons inG) rfl hu fu 1 (by decide) (List.mem_cons_of_mem _ q_75) (fun _ h => h) rfl dX0_gather_5 ?_
  refine vIloadN X dX0_gather_8 1 rfl ?_
  obtain ⟨ix9, hix9⟩ := vp_ix (f := f) hur
  refine vCallVd X [] (cr_exchange l D k sb L f ur ub (256) (gu) c (v) hur fur hub fub (by omega) (by omega)) (vGV q_471 q_413 q_414 q_25 q_415) ⟨by decide, by decide, (show _ = some 2 from by decide +kernel)⟩ ⟨Nat.le_of_ble_eq_true rfl, Nat.le_of_ble_eq_true rfl⟩ ix9 2 rfl rfl (hix9.trans (by rw [fur])) rfl (Nat.le_of_ble_eq_true rfl) dX0_gather_9 ⟨Nat.le_of_ble_eq_true rfl, Nat.le_of_ble_eq_true rfl⟩ ?_
  refine vPop X dX0_gather_12 rfl ?_
  refine vAloadN X dX0_gather_13 0 rfl ?_
  refine vDup X dX0_gather_14 rfl ?_
  refine vpGet X (C := RX0) (T := TX0) (N := 2) (ci := 0) (vcons inG) rfl hu ((va_up_nq _ (ne_of fu fub (by simp))).trans fu) 1 (by decide) (List.mem_cons_of_mem _ q_75) (fun _ h => h) rfl dX0_gather_15 ?_
  refine vIconst X dX0_gather_18 (v := nI (1)) (by decide) ?_
  refine vIadd X dX0_gather_19 (v := nI ((c) + (1))) (nI_add _ _) ?_
  refine vpPut X (C := RX0) (T := TX0) (N := 2) (ci := 0) (ty := .int) (vcons inG) tyX0 tyX0_ok nmX0 rfl hu ((va_up_nq _ (ne_of fu fub (by simp))).trans fu) 1 (by decide) (List.mem_cons_of_mem _ q_75) (fun _ h => h) rfl (by decide +kernel) rfl rfl (Nat.le_of_ble_eq_true rfl) dX0_gather_20 ?_
  exact vRetV X hret dX0_gather_23 ⟨rfl, rfl⟩
set_option maxHeartbeats 4000000 in
set_option maxRecDepth 100000 in
theorem cg_gatherPart (l : Launch) (D : va_G) (k : Nat → ClassId) (sb : Nat) (L : List Nat) (f : Nat → va_E) (u ur ub c : Nat) (gu : Nat → Int32) (h b n : Nat) (g : Nat → Int32) (a m : Nat) (hu : u ∈ L) (fu : f u = .inr (0, [.ref ur, .int (nI c)])) (hur : ur ∈ L) (fur : f ur = .inr (2, [.ref ub])) (hub : ub ∈ L) (fub : f ub = .inl (k 0, 256, .inl gu)) (hc : c ≤ 256) (hh : h ∈ L) (fh : f h = .inr (2, [.ref b])) (hb : b ∈ L) (fb : f b = .inl (k 0, n, .inl g)) (hn : n ≤ 256) (hp : a + m ≤ n) (hp2 : c + m ≤ 256) (hgf : ∀ j, lb (g j) = g j) : vCt l yX0_gatherPart cX0_gatherPart 4 none 3 84 0 0 D vCl (vTy k) sb [.ref (u), .ref (h), .int (nI (a)), .int (nI (m))] (va_pl L f) (vDet none (va_pl L (va_up (va_up f ub (.inl (k 0, 256, .inl (va_cpy g gu (a) (c) (m))))) u (.inr (0, [.ref (ur), .int (nI ((c) + (m)))]))))) := by
  refine vOf (by decide +kernel) (Nat.le_of_ble_eq_true rfl) (fun p9 e9 s9 m9 below9 meth9 c9 X hret hmn => ?_)
  refine vAloadN X dX0_gatherPart_0 1 rfl ?_
  refine vAloadN X dX0_gatherPart_1 0 rfl ?_
  refine vpGet X (C := RX0) (T := TX0) (N := 2) (ci := 0) (vcons inG) rfl hu fu 0 (by decide) (List.mem_cons_of_mem _ q_74) (fun _ h => h) rfl dX0_gatherPart_2 ?_
  refine vAloadN X dX0_gatherPart_5 0 rfl ?_
  refine vpGet X (C := RX0) (T := TX0) (N := 2) (ci := 0) (vcons inG) rfl hu fu 1 (by decide) (List.mem_cons_of_mem _ q_75) (fun _ h => h) rfl dX0_gatherPart_6 ?_
  refine vIloadN X dX0_gatherPart_9 2 rfl ?_
  refine vIloadN X dX0_gatherPart_10 3 rfl ?_
  obtain ⟨ix11, hix11⟩ := vp_ix (f := f) hh
  refine vCallVd X [] (cr_copyTo l D k sb L f h b (n) (g) ur ub (256) (gu) (c) (a) (m) hh fh hb fb (by omega) hur fur hub fub (by omega) (by omega) (by omega) hgf) (vGV q_183 q_184 q_185 q_25 q_186) ⟨by decide, by decide, (show _ = some 4 from by decide +kernel)⟩ ⟨Nat.le_of_ble_eq_true rfl, Nat.le_of_ble_eq_true rfl⟩ ix11 2 rfl rfl (hix11.trans (by rw [fh])) rfl (Nat.le_of_ble_eq_true rfl) dX0_gatherPart_11 ⟨Nat.le_of_ble_eq_true rfl, Nat.le_of_ble_eq_true rfl⟩ ?_
  refine vAloadN X dX0_gatherPart_14 0 rfl ?_
  refine vDup X dX0_gatherPart_15 rfl ?_
  refine vpGet X (C := RX0) (T := TX0) (N := 2) (ci := 0) (vcons inG) rfl hu ((va_up_nq _ (ne_of fu fub (by simp))).trans fu) 1 (by decide) (List.mem_cons_of_mem _ q_75) (fun _ h => h) rfl dX0_gatherPart_16 ?_
  refine vIloadN X dX0_gatherPart_19 3 rfl ?_
  refine vIadd X dX0_gatherPart_20 (v := nI ((c) + (m))) (nI_add _ _) ?_
  refine vpPut X (C := RX0) (T := TX0) (N := 2) (ci := 0) (ty := .int) (vcons inG) tyX0 tyX0_ok nmX0 rfl hu ((va_up_nq _ (ne_of fu fub (by simp))).trans fu) 1 (by decide) (List.mem_cons_of_mem _ q_75) (fun _ h => h) rfl (by decide +kernel) rfl rfl (Nat.le_of_ble_eq_true rfl) dX0_gatherPart_21 ?_
  exact vRetV X hret dX0_gatherPart_24 ⟨rfl, rfl⟩
set_option maxHeartbeats 4000000 in
set_option maxRecDepth 100000 in
theorem cg_clear (l : Launch) (D : va_G) (k : Nat → ClassId) (sb : Nat) (L : List Nat) (f : Nat → va_E) (u ur ub c : Nat) (gu : Nat → Int32) (hu : u ∈ L) (fu : f u = .inr (0, [.ref ur, .int (nI c)])) (hur : ur ∈ L) (fur : f ur = .inr (2, [.ref ub])) (hub : ub ∈ L) (fub : f ub = .inl (k 0, 256, .inl gu)) (hc : c ≤ 256) : vCt l yX0_clear cX0_clear 1 none 0 0 0 0 D vCl (vTy k) sb [.ref (u)] (va_pl L f) (vDet none (va_pl L (va_up f u (.inr (0, [.ref (ur), .int (nI (0))]))))) := by
  refine vOf (by decide +kernel) (Nat.le_of_ble_eq_true rfl) (fun p9 e9 s9 m9 below9 meth9 c9 X hret hmn => ?_)
  refine vAloadN X dX0_clear_0 0 rfl ?_
  refine vIconst X dX0_clear_1 (v := nI (0)) (by decide) ?_
  refine vpPut X (C := RX0) (T := TX0) (N := 2) (ci := 0) (ty := .int) (vcons inG) tyX0 tyX0_ok nmX0 rfl hu fu 1 (by decide) (List.mem_cons_of_mem _ q_75) (fun _ h => h) rfl (by decide +kernel) rfl rfl (Nat.le_of_ble_eq_true rfl) dX0_clear_2 ?_
  exact vRetV X hret dX0_clear_5 ⟨rfl, rfl⟩
set_option maxHeartbeats 4000000 in
set_option maxRecDepth 100000 in
theorem cg_addedTo (l : Launch) (D : va_G) (k : Nat → ClassId) (sb : Nat) (L : List Nat) (f : Nat → va_E) (u ur ub c : Nat) (gu : Nat → Int32) (s0 : Int64) (hu : u ∈ L) (fu : f u = .inr (0, [.ref ur, .int (nI c)])) (hur : ur ∈ L) (fur : f ur = .inr (2, [.ref ub])) (hub : ub ∈ L) (fub : f ub = .inl (k 0, 256, .inl gu)) (hc : c ≤ 256) : vCt l yX0_addedTo cX0_addedTo 3 (some .long) 3 68 0 0 D vCl (vTy k) sb [.ref (u), .long (s0)] (va_pl L f) (vDet (some (.long (ckI gu s0 c))) (va_pl L f)) := by
  refine vOf (by decide +kernel) (Nat.le_of_ble_eq_true rfl) (fun p9 e9 s9 m9 below9 meth9 c9 X hret hmn => ?_)
  refine vAloadN X dX0_addedTo_0 0 rfl ?_
  refine vpGet X (C := RX0) (T := TX0) (N := 2) (ci := 0) (vcons inG) rfl hu fu 0 (by decide) (List.mem_cons_of_mem _ q_74) (fun _ h => h) rfl dX0_addedTo_1 ?_
  refine vLloadN X dX0_addedTo_4 1 rfl ?_
  refine vAloadN X dX0_addedTo_5 0 rfl ?_
  refine vpGet X (C := RX0) (T := TX0) (N := 2) (ci := 0) (vcons inG) rfl hu fu 1 (by decide) (List.mem_cons_of_mem _ q_75) (fun _ h => h) rfl dX0_addedTo_6 ?_
  obtain ⟨ix9, hix9⟩ := vp_ix (f := f) hur
  refine vCallVd X [] (cr_addedTo l D k sb L f ur ub (256) (gu) (s0) (c) hur fur hub fub (by omega) (by omega)) (vGV q_156 q_136 q_137 q_25 q_138) ⟨by decide, by decide, (show _ = some 2 from by decide +kernel)⟩ ⟨Nat.le_of_ble_eq_true rfl, Nat.le_of_ble_eq_true rfl⟩ ix9 2 rfl rfl (hix9.trans (by rw [fur])) rfl (Nat.le_of_ble_eq_true rfl) dX0_addedTo_9 ⟨Nat.le_of_ble_eq_true rfl, Nat.le_of_ble_eq_true rfl⟩ ?_
  exact vRetL X hret dX0_addedTo_12 ⟨rfl, rfl⟩
set_option maxHeartbeats 4000000 in
set_option maxRecDepth 100000 in
theorem cg_copy (l : Launch) (D : va_G) (k : Nat → ClassId) (sb : Nat) (L : List Nat) (f : Nat → va_E) (u ur ub c : Nat) (gu : Nat → Int32) (hu : u ∈ L) (fu : f u = .inr (0, [.ref ur, .int (nI c)])) (hur : ur ∈ L) (fur : f ur = .inr (2, [.ref ub])) (hub : ub ∈ L) (fub : f ub = .inl (k 0, 256, .inl gu)) (hc : c ≤ 256) (hgf : ∀ j, lb (gu j) = gu j) : vCt l yX0_copy cX0_copy 2 (some (.object "Bytewell$Row")) 3 84 2 257 D vCl (vTy k) sb [.ref (u)] (va_pl L f) (fun v ws' => ∃ (q qb : Nat) (L' : List Nat) (f' : Nat → va_E), q ∉ L ∧ qb ∉ L ∧ vExt L f L' f' ∧ q ∈ L' ∧ f' q = .inr (2, [.ref qb]) ∧ qb ∈ L' ∧ f' qb = .inl (k 0, c, .inl (va_cpy gu (fun _ => 0) 0 0 c)) ∧ v = some (.ref q) ∧ ws' = va_pl L' f') := by
  refine vOf (by decide +kernel) (Nat.le_of_ble_eq_true rfl) (fun p9 e9 s9 m9 below9 meth9 c9 X hret hmn => ?_)
  refine vpNew X (C := RX2) (T := TX2) (N := 1) (ci := 2) (fs := [.null]) (vcons inW) tyX2 tyX2_ok (List.mem_cons_of_mem _ q_72) (List.mem_cons_of_mem _ q_52) (List.mem_cons_of_mem _ q_25) rfl (fun j hj => by rcases (show j = 0 by omega) with rfl <;> rfl) (Nat.le_of_ble_eq_true rfl) (Nat.le_of_ble_eq_true rfl) dX0_copy_0 (fun q0 hq0 => ?_)
  refine vWiden 1 1 (by omega) (by omega) ?_
  refine vDup X dX0_copy_3 rfl ?_
  refine vAloadN X dX0_copy_4 0 rfl ?_
  refine vpGet X (C := RX0) (T := TX0) (N := 2) (ci := 0) (vcons inG) rfl (List.mem_append_left _ hu) ((va_up_nq _ (fun z9 => hq0 (by rw [← z9]; exact hu))).trans fu) 1 (by decide) (List.mem_cons_of_mem _ q_75) (fun _ h => h) rfl dX0_copy_5 ?_
  refine vCallI X [.ref (q0)] (cr_init l D k sb ((L ++ [q0])) (va_up f q0 (.inr (2, [.null]))) q0 (c) (List.mem_append_right _ (List.mem_singleton.mpr rfl)) (va_up_eq _ _ _) (by omega)) (vGI q_55) rfl (List.mem_cons_of_mem _ q_25) (List.mem_cons_of_mem _ q_73) (List.mem_cons_of_mem _ q_54) ⟨by decide, by decide, (show _ = some 1 from by decide +kernel)⟩ ⟨Nat.le_of_ble_eq_true rfl, Nat.le_of_ble_eq_true rfl⟩ rfl (Nat.le_of_ble_eq_true rfl) dX0_copy_8 ⟨Nat.le_of_ble_eq_true rfl, Nat.le_of_ble_eq_true rfl⟩ (fun v9 w9 hp9 => ?_)
  obtain ⟨qb8, hqb8, rfl, rfl⟩ := hp9
  refine vWs (ws' := va_pl (((L ++ [q0]) ++ [qb8])) (va_up (va_up f qb8 (.inl (k 0, c, .inl (fun _ => 0)))) q0 (.inr (2, [.ref (qb8)])))) (congrArg (fun φ9 => va_pl (((L ++ [q0]) ++ [qb8])) (φ9)) va_up_sh) ?_
  refine vWiden 2 257 (by omega) (by omega) ?_
  refine vAstoreN X [(1, .ref (q0)), (0, .ref (u))] dX0_copy_11 (by decide) rfl ?_
  refine vAloadN X dX0_copy_12 1 rfl ?_
  refine vpGet X (C := RX0) (T := TX0) (N := 2) (ci := 0) (vcons inG) rfl (List.mem_append_left _ (List.mem_append_left _ hu)) ((va_up_nq _ (fun z9 => hq0 (by rw [← z9]; exact hu))).trans ((va_up_nq _ (fun z9 => hqb8 (by rw [← z9]; exact (List.mem_append_left _ hu)))).trans fu)) 0 (by decide) (List.mem_cons_of_mem _ q_74) (fun _ h => h) rfl dX0_copy_13 ?_
  refine vAloadN X dX0_copy_16 0 rfl ?_
  refine vIconst X dX0_copy_17 (v := nI (0)) (by decide) ?_
  refine vIconst X dX0_copy_18 (v := nI (0)) (by decide) ?_
  refine vAloadN X dX0_copy_19 1 rfl ?_
  refine vpGet X (C := RX0) (T := TX0) (N := 2) (ci := 0) (vcons inG) rfl (List.mem_append_left _ (List.mem_append_left _ hu)) ((va_up_nq _ (fun z9 => hq0 (by rw [← z9]; exact hu))).trans ((va_up_nq _ (fun z9 => hqb8 (by rw [← z9]; exact (List.mem_append_left _ hu)))).trans fu)) 1 (by decide) (List.mem_cons_of_mem _ q_75) (fun _ h => h) rfl dX0_copy_20 ?_
  obtain ⟨ix23, hix23⟩ := vp_ix (f := va_up (va_up f qb8 (.inl (k 0, c, .inl (fun _ => 0)))) q0 (.inr (2, [.ref (qb8)]))) (List.mem_append_left _ (List.mem_append_left _ hur))
  refine vCallVd X [] (cr_copyTo l D k sb (((L ++ [q0]) ++ [qb8])) (va_up (va_up f qb8 (.inl (k 0, c, .inl (fun _ => 0)))) q0 (.inr (2, [.ref (qb8)]))) ur ub (256) (gu) q0 qb8 (c) (fun _ => 0) (0) (0) (c) (List.mem_append_left _ (List.mem_append_left _ hur)) ((va_up_nq _ (fun z9 => hq0 (by rw [← z9]; exact hur))).trans ((va_up_nq _ (fun z9 => hqb8 (by rw [← z9]; exact (List.mem_append_left _ hur)))).trans fur)) (List.mem_append_left _ (List.mem_append_left _ hub)) ((va_up_nq _ (fun z9 => hq0 (by rw [← z9]; exact hub))).trans ((va_up_nq _ (fun z9 => hqb8 (by rw [← z9]; exact (List.mem_append_left _ hub)))).trans fub)) (by omega) (List.mem_append_left _ (List.mem_append_right _ (List.mem_singleton.mpr rfl))) (va_up_eq _ _ _) (List.mem_append_right _ (List.mem_singleton.mpr rfl)) ((va_up_nq _ (fun z9 => hqb8 (by rw [z9]; exact (List.mem_append_right _ (List.mem_singleton.mpr rfl))))).trans (va_up_eq _ _ _)) (by omega) (by omega) (by omega) hgf) (vGV q_183 q_184 q_185 q_25 q_186) ⟨by decide, by decide, (show _ = some 4 from by decide +kernel)⟩ ⟨Nat.le_of_ble_eq_true rfl, Nat.le_of_ble_eq_true rfl⟩ ix23 2 rfl rfl (hix23.trans (by rw [((va_up_nq _ (fun z9 => hq0 (by rw [← z9]; exact hur))).trans ((va_up_nq _ (fun z9 => hqb8 (by rw [← z9]; exact (List.mem_append_left _ hur)))).trans fur))])) rfl (Nat.le_of_ble_eq_true rfl) dX0_copy_23 ⟨Nat.le_of_ble_eq_true rfl, Nat.le_of_ble_eq_true rfl⟩ ?_
  refine vWs (ws' := va_pl (((L ++ [q0]) ++ [qb8])) (va_up (va_up f q0 (.inr (2, [.ref (qb8)]))) qb8 (.inl (k 0, c, .inl (va_cpy gu (fun _ => 0) (0) (0) (c)))))) (congrArg (fun φ9 => va_pl (((L ++ [q0]) ++ [qb8])) (φ9)) va_up_sh) ?_
  refine vAloadN X dX0_copy_26 0 rfl ?_
  exact vRetA X hret dX0_copy_27 ⟨q0, qb8, _, _, hq0, (fun z => hqb8 (List.mem_append_left _ z)), (fun a9 ha9 => ⟨(List.mem_append_left _ (List.mem_append_left _ ha9)), ((va_up_nq _ (fun z9 => hqb8 (by rw [← z9]; exact (List.mem_append_left _ ha9)))).trans ((va_up_nq _ (fun z9 => hq0 (by rw [← z9]; exact ha9))).trans rfl))⟩), (List.mem_append_left _ (List.mem_append_right _ (List.mem_singleton.mpr rfl))), ((va_up_nq _ (fun z9 => hqb8 (by rw [← z9]; exact (List.mem_append_right _ (List.mem_singleton.mpr rfl))))).trans (va_up_eq _ _ _)), (List.mem_append_right _ (List.mem_singleton.mpr rfl)), (va_up_eq _ _ _), rfl, rfl⟩
set_option maxHeartbeats 4000000 in
set_option maxRecDepth 100000 in
theorem cg_init (l : Launch) (D : va_G) (k : Nat → ClassId) (sb : Nat) (L : List Nat) (f : Nat → va_E) (u : Nat) (hu : u ∈ L) (fu : f u = .inr (0, [.null, .int 0])) : vCt l yX0_init cX0_init 1 none 3 81 2 257 D vCl (vTy k) sb [.ref (u)] (va_pl L f) (fun v ws' => ∃ (q qb : Nat) (L' : List Nat) (f' : Nat → va_E), q ∉ L ∧ qb ∉ L ∧ (∀ a, a ∈ L → a ∈ L' ∧ (a ≠ u → f' a = f a)) ∧ f' u = .inr (0, [.ref q, .int 0]) ∧ q ∈ L' ∧ f' q = .inr (2, [.ref qb]) ∧ qb ∈ L' ∧ f' qb = .inl (k 0, 256, .inl (fun _ => 0)) ∧ v = none ∧ ws' = va_pl L' f') := by
  refine vOf (by decide +kernel) (Nat.le_of_ble_eq_true rfl) (fun p9 e9 s9 m9 below9 meth9 c9 X hret hmn => ?_)
  refine vAloadN X dX0_init_0 0 rfl ?_
  refine vObjInit X (List.mem_cons_of_mem _ q_71) (List.mem_cons_of_mem _ q_48) (List.mem_cons_of_mem _ q_49) (Nat.le_of_ble_eq_true rfl) (Nat.le_of_ble_eq_true rfl) dX0_init_1 ?_
  refine vAloadN X dX0_init_4 0 rfl ?_
  refine vpNew X (C := RX2) (T := TX2) (N := 1) (ci := 2) (fs := [.null]) (vcons inW) tyX2 tyX2_ok (List.mem_cons_of_mem _ q_72) (List.mem_cons_of_mem _ q_52) (List.mem_cons_of_mem _ q_25) rfl (fun j hj => by rcases (show j = 0 by omega) with rfl <;> rfl) (Nat.le_of_ble_eq_true rfl) (Nat.le_of_ble_eq_true rfl) dX0_init_5 (fun q5 hq5 => ?_)
  refine vWiden 1 1 (by omega) (by omega) ?_
  refine vDup X dX0_init_8 rfl ?_
  refine vSipush X dX0_init_9 (v := nI (256)) (by decide) ?_
  refine vCallI X [.ref (q5), .ref (u)] (cr_init l D k sb ((L ++ [q5])) (va_up f q5 (.inr (2, [.null]))) q5 (256) (List.mem_append_right _ (List.mem_singleton.mpr rfl)) (va_up_eq _ _ _) (by omega)) (vGI q_55) rfl (List.mem_cons_of_mem _ q_25) (List.mem_cons_of_mem _ q_73) (List.mem_cons_of_mem _ q_54) ⟨by decide, by decide, (show _ = some 1 from by decide +kernel)⟩ ⟨Nat.le_of_ble_eq_true rfl, Nat.le_of_ble_eq_true rfl⟩ rfl (Nat.le_of_ble_eq_true rfl) dX0_init_12 ⟨Nat.le_of_ble_eq_true rfl, Nat.le_of_ble_eq_true rfl⟩ (fun v9 w9 hp9 => ?_)
  obtain ⟨qb12, hqb12, rfl, rfl⟩ := hp9
  refine vWs (ws' := va_pl (((L ++ [q5]) ++ [qb12])) (va_up (va_up f qb12 (.inl (k 0, 256, .inl (fun _ => 0)))) q5 (.inr (2, [.ref (qb12)])))) (congrArg (fun φ9 => va_pl (((L ++ [q5]) ++ [qb12])) (φ9)) va_up_sh) ?_
  refine vWiden 2 257 (by omega) (by omega) ?_
  refine vpPutF X (C := RX0) (T := TX0) (N := 2) (ci := 0) (ty := .object "Bytewell$Row") hmn (vcons inG) tyX0 tyX0_ok nmX0 rfl (List.mem_append_left _ (List.mem_append_left _ hu)) ((va_up_nq _ (fun z9 => hq5 (by rw [← z9]; exact hu))).trans ((va_up_nq _ (fun z9 => hqb12 (by rw [← z9]; exact (List.mem_append_left _ hu)))).trans fu)) 0 (by decide) (List.mem_cons_of_mem _ q_74) (fun _ h => h) rfl rfl (by decide +kernel) rfl rfl (Nat.le_of_ble_eq_true rfl) dX0_init_15 ?_
  exact vRetV X hret dX0_init_18 ⟨q5, qb12, _, _, hq5, (fun z => hqb12 (List.mem_append_left _ z)), (fun a9 ha9 => ⟨(List.mem_append_left _ (List.mem_append_left _ ha9)), fun ne9 => ((va_up_nq _ ne9).trans ((va_up_nq _ (fun z9 => hq5 (by rw [← z9]; exact ha9))).trans ((va_up_nq _ (fun z9 => hqb12 (by rw [← z9]; exact (List.mem_append_left _ ha9)))).trans rfl)))⟩), (va_up_eq _ _ _), (List.mem_append_left _ (List.mem_append_right _ (List.mem_singleton.mpr rfl))), ((va_up_nq _ (fun z9 => hq5 (by rw [z9]; exact hu))).trans (va_up_eq _ _ _)), (List.mem_append_right _ (List.mem_singleton.mpr rfl)), ((va_up_nq _ (fun z9 => hqb12 (by rw [z9]; exact (List.mem_append_left _ hu)))).trans ((va_up_nq _ (fun z9 => hqb12 (by rw [z9]; exact (List.mem_append_right _ (List.mem_singleton.mpr rfl))))).trans (va_up_eq _ _ _))), rfl, rfl⟩
