set_option maxHeartbeats 4000000 in
set_option maxRecDepth 100000 in
theorem cq_isStarted1 (l : Launch) (D : va_G) (k : Nat → ClassId) (sb : Nat) (L : List Nat) (f : Nat → va_E) (r w b n s P M T Mt : Nat) (g : Nat → Int32) (hr : r ∈ L) (fr : f r = .inr (1, [.ref w, .int (nI s), .int (nI P), .int (nI M), .int (nI T), .int (nI Mt)])) (hw : w ∈ L) (fw : f w = .inr (2, [.ref b])) (hb : b ∈ L) (fb : f b = .inl (k 0, n, .inl g)) (hn : n ≤ 256) (hP : P ≤ n) (hs : s = 1) : vCt l yX1_isStarted cX1_isStarted 1 (some .boolean) 0 0 0 0 D vCl (vTy k) sb [.ref (r)] (va_pl L f) (vDet (some (.int (nI (1)))) (va_pl L f)) := by
  subst hs
  refine vOf (by decide +kernel) (Nat.le_of_ble_eq_true rfl) (fun p9 e9 s9 m9 below9 meth9 c9 X hret hmn => ?_)
  refine vAloadN X dX1_isStarted_0 0 rfl ?_
  refine vpGet X (C := RX1) (T := TX1) (N := 6) (ci := 1) (vcons inR) rfl hr fr 1 (by decide) (List.mem_cons_of_mem _ q_91) (fun _ h => h) rfl dX1_isStarted_1 ?_
  exact vRetZ X hret (by first | rfl | exact nar_bI _) dX1_isStarted_4 ⟨rfl, rfl⟩
set_option maxHeartbeats 4000000 in
set_option maxRecDepth 100000 in
theorem cq_isStarted0 (l : Launch) (D : va_G) (k : Nat → ClassId) (sb : Nat) (L : List Nat) (f : Nat → va_E) (r w b n s P M T Mt : Nat) (g : Nat → Int32) (hr : r ∈ L) (fr : f r = .inr (1, [.ref w, .int (nI s), .int (nI P), .int (nI M), .int (nI T), .int (nI Mt)])) (hw : w ∈ L) (fw : f w = .inr (2, [.ref b])) (hb : b ∈ L) (fb : f b = .inl (k 0, n, .inl g)) (hn : n ≤ 256) (hP : P ≤ n) (hs : s = 0) : vCt l yX1_isStarted cX1_isStarted 1 (some .boolean) 0 0 0 0 D vCl (vTy k) sb [.ref (r)] (va_pl L f) (vDet (some (.int (nI (0)))) (va_pl L f)) := by
  subst hs
  refine vOf (by decide +kernel) (Nat.le_of_ble_eq_true rfl) (fun p9 e9 s9 m9 below9 meth9 c9 X hret hmn => ?_)
  refine vAloadN X dX1_isStarted_0 0 rfl ?_
  refine vpGet X (C := RX1) (T := TX1) (N := 6) (ci := 1) (vcons inR) rfl hr fr 1 (by decide) (List.mem_cons_of_mem _ q_91) (fun _ h => h) rfl dX1_isStarted_1 ?_
  exact vRetZ X hret (by first | rfl | exact nar_bI _) dX1_isStarted_4 ⟨rfl, rfl⟩
set_option maxHeartbeats 4000000 in
set_option maxRecDepth 100000 in
theorem cq_whole (l : Launch) (D : va_G) (k : Nat → ClassId) (sb : Nat) (L : List Nat) (f : Nat → va_E) (r w b n s P M T Mt : Nat) (g : Nat → Int32) (hr : r ∈ L) (fr : f r = .inr (1, [.ref w, .int (nI s), .int (nI P), .int (nI M), .int (nI T), .int (nI Mt)])) (hw : w ∈ L) (fw : f w = .inr (2, [.ref b])) (hb : b ∈ L) (fb : f b = .inl (k 0, n, .inl g)) (hn : n ≤ 256) (hP : P ≤ n) : vCt l yX1_whole cX1_whole 1 (some .int) 1 20 0 0 D vCl (vTy k) sb [.ref (r)] (va_pl L f) (vDet (some (.int (nI (n)))) (va_pl L f)) := by
  refine vOf (by decide +kernel) (Nat.le_of_ble_eq_true rfl) (fun p9 e9 s9 m9 below9 meth9 c9 X hret hmn => ?_)
  refine vAloadN X dX1_whole_0 0 rfl ?_
  refine vpGet X (C := RX1) (T := TX1) (N := 6) (ci := 1) (vcons inR) rfl hr fr 0 (by decide) (List.mem_cons_of_mem _ q_90) (fun _ h => h) rfl dX1_whole_1 ?_
  obtain ⟨ix4, hix4⟩ := vp_ix (f := f) hw
  refine vCallVd X [] (cr_count l D k sb L f w b (n) (g)  hw fw hb fb (by omega) ) (vGV q_165 q_132 q_133 q_25 q_134) ⟨by decide, by decide, (show _ = some 0 from by decide +kernel)⟩ ⟨Nat.le_of_ble_eq_true rfl, Nat.le_of_ble_eq_true rfl⟩ ix4 2 rfl rfl (hix4.trans (by rw [fw])) rfl (Nat.le_of_ble_eq_true rfl) dX1_whole_4 ⟨Nat.le_of_ble_eq_true rfl, Nat.le_of_ble_eq_true rfl⟩ ?_
  exact vRetI X hret dX1_whole_7 ⟨rfl, rfl⟩
set_option maxHeartbeats 4000000 in
set_option maxRecDepth 100000 in
theorem cq_remaining (l : Launch) (D : va_G) (k : Nat → ClassId) (sb : Nat) (L : List Nat) (f : Nat → va_E) (r w b n s P M T Mt : Nat) (g : Nat → Int32) (hr : r ∈ L) (fr : f r = .inr (1, [.ref w, .int (nI s), .int (nI P), .int (nI M), .int (nI T), .int (nI Mt)])) (hw : w ∈ L) (fw : f w = .inr (2, [.ref b])) (hb : b ∈ L) (fb : f b = .inl (k 0, n, .inl g)) (hn : n ≤ 256) (hP : P ≤ n) : vCt l yX1_remaining cX1_remaining 1 (some .int) 1 20 0 0 D vCl (vTy k) sb [.ref (r)] (va_pl L f) (vDet (some (.int (nI (n - P)))) (va_pl L f)) := by
  refine vOf (by decide +kernel) (Nat.le_of_ble_eq_true rfl) (fun p9 e9 s9 m9 below9 meth9 c9 X hret hmn => ?_)
  refine vAloadN X dX1_remaining_0 0 rfl ?_
  refine vpGet X (C := RX1) (T := TX1) (N := 6) (ci := 1) (vcons inR) rfl hr fr 0 (by decide) (List.mem_cons_of_mem _ q_90) (fun _ h => h) rfl dX1_remaining_1 ?_
  obtain ⟨ix4, hix4⟩ := vp_ix (f := f) hw
  refine vCallVd X [] (cr_count l D k sb L f w b (n) (g)  hw fw hb fb (by omega) ) (vGV q_165 q_132 q_133 q_25 q_134) ⟨by decide, by decide, (show _ = some 0 from by decide +kernel)⟩ ⟨Nat.le_of_ble_eq_true rfl, Nat.le_of_ble_eq_true rfl⟩ ix4 2 rfl rfl (hix4.trans (by rw [fw])) rfl (Nat.le_of_ble_eq_true rfl) dX1_remaining_4 ⟨Nat.le_of_ble_eq_true rfl, Nat.le_of_ble_eq_true rfl⟩ ?_
  refine vAloadN X dX1_remaining_7 0 rfl ?_
  refine vpGet X (C := RX1) (T := TX1) (N := 6) (ci := 1) (vcons inR) rfl hr fr 2 (by decide) (List.mem_cons_of_mem _ q_92) (fun _ h => h) rfl dX1_remaining_8 ?_
  refine vIsub X dX1_remaining_11 (v := nI ((n) - (P))) (pk_sub (by omega)) ?_
  exact vRetI X hret dX1_remaining_12 ⟨rfl, rfl⟩
set_option maxHeartbeats 4000000 in
set_option maxRecDepth 100000 in
theorem cq_tell (l : Launch) (D : va_G) (k : Nat → ClassId) (sb : Nat) (L : List Nat) (f : Nat → va_E) (r w b n s P M T Mt : Nat) (g : Nat → Int32) (m : Nat) (hr : r ∈ L) (fr : f r = .inr (1, [.ref w, .int (nI s), .int (nI P), .int (nI M), .int (nI T), .int (nI Mt)])) (hw : w ∈ L) (fw : f w = .inr (2, [.ref b])) (hb : b ∈ L) (fb : f b = .inl (k 0, n, .inl g)) (hn : n ≤ 256) (hP : P ≤ n) : vCt l yX1_tell cX1_tell 2 (some .int) 0 0 0 0 D vCl (vTy k) sb [.ref (r), .int (nI (m))] (va_pl L f) (vDet (some (.int (nI (m)))) (va_pl L (va_up f r (.inr (1, [.ref (w), .int (nI (s)), .int (nI (P)), .int (nI (M)), .int (nI ((T) + (m))), .int (nI (Mt))]))))) := by
  refine vOf (by decide +kernel) (Nat.le_of_ble_eq_true rfl) (fun p9 e9 s9 m9 below9 meth9 c9 X hret hmn => ?_)
  refine vAloadN X dX1_tell_0 0 rfl ?_
  refine vDup X dX1_tell_1 rfl ?_
  refine vpGet X (C := RX1) (T := TX1) (N := 6) (ci := 1) (vcons inR) rfl hr fr 4 (by decide) (List.mem_cons_of_mem _ q_94) (fun _ h => h) rfl dX1_tell_2 ?_
  refine vIloadN X dX1_tell_5 1 rfl ?_
  refine vIadd X dX1_tell_6 (v := nI ((T) + (m))) (nI_add _ _) ?_
  refine vpPut X (C := RX1) (T := TX1) (N := 6) (ci := 1) (ty := .int) (vcons inR) tyX1 tyX1_ok nmX1 rfl hr fr 4 (by decide) (List.mem_cons_of_mem _ q_94) (fun _ h => h) rfl (by decide +kernel) rfl rfl (Nat.le_of_ble_eq_true rfl) dX1_tell_7 ?_
  refine vIloadN X dX1_tell_10 1 rfl ?_
  exact vRetI X hret dX1_tell_11 ⟨rfl, rfl⟩
set_option maxHeartbeats 4000000 in
set_option maxRecDepth 100000 in
theorem cq_hasToldAll (l : Launch) (D : va_G) (k : Nat → ClassId) (sb : Nat) (L : List Nat) (f : Nat → va_E) (r w b n s P M T Mt : Nat) (g : Nat → Int32) (hr : r ∈ L) (fr : f r = .inr (1, [.ref w, .int (nI s), .int (nI P), .int (nI M), .int (nI T), .int (nI Mt)])) (hw : w ∈ L) (fw : f w = .inr (2, [.ref b])) (hb : b ∈ L) (fb : f b = .inl (k 0, n, .inl g)) (hn : n ≤ 256) (hP : P ≤ n) (ht : T = P) : vCt l yX1_hasToldAll cX1_hasToldAll 1 (some .boolean) 2 40 0 0 D vCl (vTy k) sb [.ref (r)] (va_pl L f) (vDet (some (.int (nI (1)))) (va_pl L f)) := by
  refine vOf (by decide +kernel) (Nat.le_of_ble_eq_true rfl) (fun p9 e9 s9 m9 below9 meth9 c9 X hret hmn => ?_)
  refine vAloadN X dX1_hasToldAll_0 0 rfl ?_
  refine vpGet X (C := RX1) (T := TX1) (N := 6) (ci := 1) (vcons inR) rfl hr fr 4 (by decide) (List.mem_cons_of_mem _ q_94) (fun _ h => h) rfl dX1_hasToldAll_1 ?_
  refine vAloadN X dX1_hasToldAll_4 0 rfl ?_
  obtain ⟨ix5, hix5⟩ := vp_ix (f := f) hr
  refine vCallVd X [.int (nI (T))] (cq_remaining l D k sb L f r w b (n) (s) (P) (M) (T) (Mt) (g)  hr fr hw fw hb fb (by omega) (by omega) ) (vGV q_174 q_162 q_163 q_28 q_164) ⟨by decide, by decide, (show _ = some 0 from by decide +kernel)⟩ ⟨Nat.le_of_ble_eq_true rfl, Nat.le_of_ble_eq_true rfl⟩ ix5 1 rfl rfl (hix5.trans (by rw [fr])) rfl (Nat.le_of_ble_eq_true rfl) dX1_hasToldAll_5 ⟨Nat.le_of_ble_eq_true rfl, Nat.le_of_ble_eq_true rfl⟩ ?_
  refine vIadd X dX1_hasToldAll_8 (v := nI ((T) + ((n) - (P)))) (nI_add _ _) ?_
  refine vAloadN X dX1_hasToldAll_9 0 rfl ?_
  refine vpGet X (C := RX1) (T := TX1) (N := 6) (ci := 1) (vcons inR) rfl hr fr 0 (by decide) (List.mem_cons_of_mem _ q_90) (fun _ h => h) rfl dX1_hasToldAll_10 ?_
  obtain ⟨ix13, hix13⟩ := vp_ix (f := f) hw
  refine vCallVd X [.int (nI ((T) + ((n) - (P))))] (cr_count l D k sb L f w b (n) (g)  hw fw hb fb (by omega) ) (vGV q_165 q_132 q_133 q_25 q_134) ⟨by decide, by decide, (show _ = some 0 from by decide +kernel)⟩ ⟨Nat.le_of_ble_eq_true rfl, Nat.le_of_ble_eq_true rfl⟩ ix13 2 rfl rfl (hix13.trans (by rw [fw])) rfl (Nat.le_of_ble_eq_true rfl) dX1_hasToldAll_13 ⟨Nat.le_of_ble_eq_true rfl, Nat.le_of_ble_eq_true rfl⟩ ?_
  refine vIcmpN_neF X 23 dX1_hasToldAll_16 (by decide) (by omega) (by omega) (by omega) ?_
  refine vIconst X dX1_hasToldAll_19 (v := nI (1)) (by decide) ?_
  refine vGoto X 24 dX1_hasToldAll_20 (by decide) ?_
  exact vRetZ X hret (by first | rfl | exact nar_bI _) dX1_hasToldAll_24 ⟨rfl, rfl⟩
set_option maxHeartbeats 4000000 in
set_option maxRecDepth 100000 in
theorem cq_setMark (l : Launch) (D : va_G) (k : Nat → ClassId) (sb : Nat) (L : List Nat) (f : Nat → va_E) (r w b n s P M T Mt : Nat) (g : Nat → Int32) (hr : r ∈ L) (fr : f r = .inr (1, [.ref w, .int (nI s), .int (nI P), .int (nI M), .int (nI T), .int (nI Mt)])) (hw : w ∈ L) (fw : f w = .inr (2, [.ref b])) (hb : b ∈ L) (fb : f b = .inl (k 0, n, .inl g)) (hn : n ≤ 256) (hP : P ≤ n) : vCt l yX1_setMark cX1_setMark 1 none 0 0 0 0 D vCl (vTy k) sb [.ref (r)] (va_pl L f) (vDet none (va_pl L (va_up f r (.inr (1, [.ref (w), .int (nI (s)), .int (nI (P)), .int (nI (P)), .int (nI (T)), .int (nI (T))]))))) := by
  refine vOf (by decide +kernel) (Nat.le_of_ble_eq_true rfl) (fun p9 e9 s9 m9 below9 meth9 c9 X hret hmn => ?_)
  refine vAloadN X dX1_setMark_0 0 rfl ?_
  refine vAloadN X dX1_setMark_1 0 rfl ?_
  refine vpGet X (C := RX1) (T := TX1) (N := 6) (ci := 1) (vcons inR) rfl hr fr 2 (by decide) (List.mem_cons_of_mem _ q_92) (fun _ h => h) rfl dX1_setMark_2 ?_
  refine vpPut X (C := RX1) (T := TX1) (N := 6) (ci := 1) (ty := .int) (vcons inR) tyX1 tyX1_ok nmX1 rfl hr fr 3 (by decide) (List.mem_cons_of_mem _ q_93) (fun _ h => h) rfl (by decide +kernel) rfl rfl (Nat.le_of_ble_eq_true rfl) dX1_setMark_5 ?_
  refine vAloadN X dX1_setMark_8 0 rfl ?_
  refine vAloadN X dX1_setMark_9 0 rfl ?_
  refine vpGet X (C := RX1) (T := TX1) (N := 6) (ci := 1) (vcons inR) rfl hr (va_up_eq _ _ _) 4 (by decide) (List.mem_cons_of_mem _ q_94) (fun _ h => h) rfl dX1_setMark_10 ?_
  refine vpPut X (C := RX1) (T := TX1) (N := 6) (ci := 1) (ty := .int) (vcons inR) tyX1 tyX1_ok nmX1 rfl hr (va_up_eq _ _ _) 5 (by decide) (List.mem_cons_of_mem _ q_95) (fun _ h => h) rfl (by decide +kernel) rfl rfl (Nat.le_of_ble_eq_true rfl) dX1_setMark_13 ?_
  refine vWs (ws' := va_pl L (va_up f r (.inr (1, [.ref (w), .int (nI (s)), .int (nI (P)), .int (nI (P)), .int (nI (T)), .int (nI (T))])))) (congrArg (fun φ9 => va_pl L (φ9)) (va_up_up _ _ _ _)) ?_
  exact vRetV X hret dX1_setMark_16 ⟨rfl, rfl⟩
set_option maxHeartbeats 4000000 in
set_option maxRecDepth 100000 in
theorem cq_goBack (l : Launch) (D : va_G) (k : Nat → ClassId) (sb : Nat) (L : List Nat) (f : Nat → va_E) (r w b n s P M T Mt : Nat) (g : Nat → Int32) (hr : r ∈ L) (fr : f r = .inr (1, [.ref w, .int (nI s), .int (nI P), .int (nI M), .int (nI T), .int (nI Mt)])) (hw : w ∈ L) (fw : f w = .inr (2, [.ref b])) (hb : b ∈ L) (fb : f b = .inl (k 0, n, .inl g)) (hn : n ≤ 256) (hP : P ≤ n) : vCt l yX1_goBack cX1_goBack 1 none 0 0 0 0 D vCl (vTy k) sb [.ref (r)] (va_pl L f) (vDet none (va_pl L (va_up f r (.inr (1, [.ref (w), .int (nI (s)), .int (nI (M)), .int (nI (M)), .int (nI (Mt)), .int (nI (Mt))]))))) := by
  refine vOf (by decide +kernel) (Nat.le_of_ble_eq_true rfl) (fun p9 e9 s9 m9 below9 meth9 c9 X hret hmn => ?_)
  refine vAloadN X dX1_goBack_0 0 rfl ?_
  refine vAloadN X dX1_goBack_1 0 rfl ?_
  refine vpGet X (C := RX1) (T := TX1) (N := 6) (ci := 1) (vcons inR) rfl hr fr 3 (by decide) (List.mem_cons_of_mem _ q_93) (fun _ h => h) rfl dX1_goBack_2 ?_
  refine vpPut X (C := RX1) (T := TX1) (N := 6) (ci := 1) (ty := .int) (vcons inR) tyX1 tyX1_ok nmX1 rfl hr fr 2 (by decide) (List.mem_cons_of_mem _ q_92) (fun _ h => h) rfl (by decide +kernel) rfl rfl (Nat.le_of_ble_eq_true rfl) dX1_goBack_5 ?_
  refine vAloadN X dX1_goBack_8 0 rfl ?_
  refine vAloadN X dX1_goBack_9 0 rfl ?_
  refine vpGet X (C := RX1) (T := TX1) (N := 6) (ci := 1) (vcons inR) rfl hr (va_up_eq _ _ _) 5 (by decide) (List.mem_cons_of_mem _ q_95) (fun _ h => h) rfl dX1_goBack_10 ?_
  refine vpPut X (C := RX1) (T := TX1) (N := 6) (ci := 1) (ty := .int) (vcons inR) tyX1 tyX1_ok nmX1 rfl hr (va_up_eq _ _ _) 4 (by decide) (List.mem_cons_of_mem _ q_94) (fun _ h => h) rfl (by decide +kernel) rfl rfl (Nat.le_of_ble_eq_true rfl) dX1_goBack_13 ?_
  refine vWs (ws' := va_pl L (va_up f r (.inr (1, [.ref (w), .int (nI (s)), .int (nI (M)), .int (nI (M)), .int (nI (Mt)), .int (nI (Mt))])))) (congrArg (fun φ9 => va_pl L (φ9)) (va_up_up _ _ _ _)) ?_
  exact vRetV X hret dX1_goBack_16 ⟨rfl, rfl⟩
set_option maxHeartbeats 4000000 in
set_option maxRecDepth 100000 in
theorem cq_start (l : Launch) (D : va_G) (k : Nat → ClassId) (sb : Nat) (L : List Nat) (f : Nat → va_E) (r w b n s P M T Mt : Nat) (g : Nat → Int32) (h2 b2 n2 : Nat) (g2 : Nat → Int32) (hr : r ∈ L) (fr : f r = .inr (1, [.ref w, .int (nI s), .int (nI P), .int (nI M), .int (nI T), .int (nI Mt)])) (hw : w ∈ L) (fw : f w = .inr (2, [.ref b])) (hb : b ∈ L) (fb : f b = .inl (k 0, n, .inl g)) (hn : n ≤ 256) (hP : P ≤ n) (hh2 : h2 ∈ L) (fh2 : f h2 = .inr (2, [.ref b2])) (hb2 : b2 ∈ L) (fb2 : f b2 = .inl (k 0, n2, .inl g2)) (hn2 : n2 ≤ 256) : vCt l yX1_start cX1_start 2 none 1 20 0 0 D vCl (vTy k) sb [.ref (r), .ref (h2)] (va_pl L f) (vDet none (va_pl L (va_up f r (.inr (1, [.ref (h2), .int (nI (1)), .int (nI (0)), .int (nI (0)), .int (nI (0)), .int (nI (0))]))))) := by
  refine vOf (by decide +kernel) (Nat.le_of_ble_eq_true rfl) (fun p9 e9 s9 m9 below9 meth9 c9 X hret hmn => ?_)
  refine vAloadN X dX1_start_0 0 rfl ?_
  refine vAloadN X dX1_start_1 1 rfl ?_
  refine vpPut X (C := RX1) (T := TX1) (N := 6) (ci := 1) (ty := .object "Bytewell$Row") (vcons inR) tyX1 tyX1_ok nmX1 rfl hr fr 0 (by decide) (List.mem_cons_of_mem _ q_90) (fun _ h => h) rfl (by decide +kernel) rfl rfl (Nat.le_of_ble_eq_true rfl) dX1_start_2 ?_
  refine vAloadN X dX1_start_5 0 rfl ?_
  refine vIconst X dX1_start_6 (v := nI (1)) (by decide) ?_
  refine vpPut X (C := RX1) (T := TX1) (N := 6) (ci := 1) (ty := .boolean) (vcons inR) tyX1 tyX1_ok nmX1 rfl hr (va_up_eq _ _ _) 1 (by decide) (List.mem_cons_of_mem _ q_91) (fun _ h => h) rfl (by decide +kernel) (by first | rfl | exact nar_bI _) (by first | rfl | exact fit_bI _) (Nat.le_of_ble_eq_true rfl) dX1_start_7 ?_
  refine vWs (ws' := va_pl L (va_up f r (.inr (1, [.ref (h2), .int (nI (1)), .int (nI (P)), .int (nI (M)), .int (nI (T)), .int (nI (Mt))])))) (congrArg (fun φ9 => va_pl L (φ9)) (va_up_up _ _ _ _)) ?_
  refine vAloadN X dX1_start_10 0 rfl ?_
  refine vIconst X dX1_start_11 (v := nI (0)) (by decide) ?_
  refine vpPut X (C := RX1) (T := TX1) (N := 6) (ci := 1) (ty := .int) (vcons inR) tyX1 tyX1_ok nmX1 rfl hr (va_up_eq _ _ _) 2 (by decide) (List.mem_cons_of_mem _ q_92) (fun _ h => h) rfl (by decide +kernel) rfl rfl (Nat.le_of_ble_eq_true rfl) dX1_start_12 ?_
  refine vWs (ws' := va_pl L (va_up f r (.inr (1, [.ref (h2), .int (nI (1)), .int (nI (0)), .int (nI (M)), .int (nI (T)), .int (nI (Mt))])))) (congrArg (fun φ9 => va_pl L (φ9)) (va_up_up _ _ _ _)) ?_
  refine vAloadN X dX1_start_15 0 rfl ?_
  refine vIconst X dX1_start_16 (v := nI (0)) (by decide) ?_
  refine vpPut X (C := RX1) (T := TX1) (N := 6) (ci := 1) (ty := .int) (vcons inR) tyX1 tyX1_ok nmX1 rfl hr (va_up_eq _ _ _) 4 (by decide) (List.mem_cons_of_mem _ q_94) (fun _ h => h) rfl (by decide +kernel) rfl rfl (Nat.le_of_ble_eq_true rfl) dX1_start_17 ?_
  refine vWs (ws' := va_pl L (va_up f r (.inr (1, [.ref (h2), .int (nI (1)), .int (nI (0)), .int (nI (M)), .int (nI (0)), .int (nI (Mt))])))) (congrArg (fun φ9 => va_pl L (φ9)) (va_up_up _ _ _ _)) ?_
  refine vAloadN X dX1_start_20 0 rfl ?_
  obtain ⟨ix21, hix21⟩ := vp_ix (f := va_up f r (.inr (1, [.ref (h2), .int (nI (1)), .int (nI (0)), .int (nI (M)), .int (nI (0)), .int (nI (Mt))]))) hr
  refine vCallVd X [] (cq_setMark l D k sb L (va_up f r (.inr (1, [.ref (h2), .int (nI (1)), .int (nI (0)), .int (nI (M)), .int (nI (0)), .int (nI (Mt))]))) r h2 b2 (n2) (1) (0) (M) (0) (Mt) (g2)  hr (va_up_eq _ _ _) hh2 ((va_up_nq _ (ne_of fh2 fr (by simp))).trans fh2) hb2 ((va_up_nq _ (ne_of fb2 fr (by simp))).trans fb2) (by omega) (by omega) ) (vGV q_198 q_199 q_200 q_28 q_201) ⟨by decide, by decide, (show _ = some 0 from by decide +kernel)⟩ ⟨Nat.le_of_ble_eq_true rfl, Nat.le_of_ble_eq_true rfl⟩ ix21 1 rfl rfl (hix21.trans (by rw [(va_up_eq _ _ _)])) rfl (Nat.le_of_ble_eq_true rfl) dX1_start_21 ⟨Nat.le_of_ble_eq_true rfl, Nat.le_of_ble_eq_true rfl⟩ ?_
  refine vWs (ws' := va_pl L (va_up f r (.inr (1, [.ref (h2), .int (nI (1)), .int (nI (0)), .int (nI (0)), .int (nI (0)), .int (nI (0))])))) (congrArg (fun φ9 => va_pl L (φ9)) (va_up_up _ _ _ _)) ?_
  exact vRetV X hret dX1_start_24 ⟨rfl, rfl⟩
set_option maxHeartbeats 4000000 in
set_option maxRecDepth 100000 in
theorem cq_peek (l : Launch) (D : va_G) (k : Nat → ClassId) (sb : Nat) (L : List Nat) (f : Nat → va_E) (r w b n s P M T Mt : Nat) (g : Nat → Int32) (hr : r ∈ L) (fr : f r = .inr (1, [.ref w, .int (nI s), .int (nI P), .int (nI M), .int (nI T), .int (nI Mt)])) (hw : w ∈ L) (fw : f w = .inr (2, [.ref b])) (hb : b ∈ L) (fb : f b = .inl (k 0, n, .inl g)) (hn : n ≤ 256) (hP : P ≤ n) (hl : P < n) : vCt l yX1_peek cX1_peek 1 (some .int) 2 42 0 0 D vCl (vTy k) sb [.ref (r)] (va_pl L f) (vDet (some (.int ((g P) &&& (nI 255)))) (va_pl L f)) := by
  refine vOf (by decide +kernel) (Nat.le_of_ble_eq_true rfl) (fun p9 e9 s9 m9 below9 meth9 c9 X hret hmn => ?_)
  refine vAloadN X dX1_peek_0 0 rfl ?_
  refine vpGet X (C := RX1) (T := TX1) (N := 6) (ci := 1) (vcons inR) rfl hr fr 0 (by decide) (List.mem_cons_of_mem _ q_90) (fun _ h => h) rfl dX1_peek_1 ?_
  refine vAloadN X dX1_peek_4 0 rfl ?_
  refine vpGet X (C := RX1) (T := TX1) (N := 6) (ci := 1) (vcons inR) rfl hr fr 2 (by decide) (List.mem_cons_of_mem _ q_92) (fun _ h => h) rfl dX1_peek_5 ?_
  obtain ⟨ix8, hix8⟩ := vp_ix (f := f) hw
  refine vCallVd X [] (cr_byteAt l D k sb L f w b (n) (g) P hw fw hb fb (by omega) (by omega)) (vGV q_210 q_141 q_142 q_25 q_143) ⟨by decide, by decide, (show _ = some 1 from by decide +kernel)⟩ ⟨Nat.le_of_ble_eq_true rfl, Nat.le_of_ble_eq_true rfl⟩ ix8 2 rfl rfl (hix8.trans (by rw [fw])) rfl (Nat.le_of_ble_eq_true rfl) dX1_peek_8 ⟨Nat.le_of_ble_eq_true rfl, Nat.le_of_ble_eq_true rfl⟩ ?_
  refine vSipush X dX1_peek_11 (v := nI (255)) (by decide) ?_
  refine vIand X dX1_peek_14 (v := (g (P)) &&& (nI (255))) rfl ?_
  exact vRetI X hret dX1_peek_15 ⟨rfl, rfl⟩
set_option maxHeartbeats 4000000 in
set_option maxRecDepth 100000 in
theorem cq_asManyAs (l : Launch) (D : va_G) (k : Nat → ClassId) (sb : Nat) (L : List Nat) (f : Nat → va_E) (r w b n s P M T Mt : Nat) (g : Nat → Int32) (m d : Nat) (hr : r ∈ L) (fr : f r = .inr (1, [.ref w, .int (nI s), .int (nI P), .int (nI M), .int (nI T), .int (nI Mt)])) (hw : w ∈ L) (fw : f w = .inr (2, [.ref b])) (hb : b ∈ L) (fb : f b = .inl (k 0, n, .inl g)) (hn : n ≤ 256) (hP : P ≤ n) (hm : m < 2 ^ 63) (hd : d = min m (n - P)) : vCt l yX1_asManyAs cX1_asManyAs 3 (some .int) 2 60 0 0 D vCl (vTy k) sb [.ref (r), .long (lN (m))] (va_pl L f) (vDet (some (.int (nI (d)))) (va_pl L f)) := by
  refine vOf (by decide +kernel) (Nat.le_of_ble_eq_true rfl) (fun p9 e9 s9 m9 below9 meth9 c9 X hret hmn => ?_)
  refine vLloadN X dX1_asManyAs_0 1 rfl ?_
  refine vAloadN X dX1_asManyAs_1 0 rfl ?_
  refine vpGet X (C := RX1) (T := TX1) (N := 6) (ci := 1) (vcons inR) rfl hr fr 0 (by decide) (List.mem_cons_of_mem _ q_90) (fun _ h => h) rfl dX1_asManyAs_2 ?_
  obtain ⟨ix5, hix5⟩ := vp_ix (f := f) hw
  refine vCallVd X [.long (lN (m))] (cr_count l D k sb L f w b (n) (g)  hw fw hb fb (by omega) ) (vGV q_165 q_132 q_133 q_25 q_134) ⟨by decide, by decide, (show _ = some 0 from by decide +kernel)⟩ ⟨Nat.le_of_ble_eq_true rfl, Nat.le_of_ble_eq_true rfl⟩ ix5 2 rfl rfl (hix5.trans (by rw [fw])) rfl (Nat.le_of_ble_eq_true rfl) dX1_asManyAs_5 ⟨Nat.le_of_ble_eq_true rfl, Nat.le_of_ble_eq_true rfl⟩ ?_
  refine vAloadN X dX1_asManyAs_8 0 rfl ?_
  refine vpGet X (C := RX1) (T := TX1) (N := 6) (ci := 1) (vcons inR) rfl hr fr 2 (by decide) (List.mem_cons_of_mem _ q_92) (fun _ h => h) rfl dX1_asManyAs_9 ?_
  refine vIsub X dX1_asManyAs_12 (v := nI ((n) - (P))) (pk_sub (by omega)) ?_
  refine vI2l X dX1_asManyAs_13 (v := lN ((n) - (P))) (nI_l (by omega)) ?_
  refine vMminL X (v := d) (List.mem_cons_of_mem _ q_219) (List.mem_cons_of_mem _ q_220) (List.mem_cons_of_mem _ q_26) (List.mem_cons_of_mem _ q_221) (Nat.le_of_ble_eq_true rfl) (Nat.le_of_ble_eq_true rfl) (Nat.le_of_ble_eq_true rfl) (Nat.le_of_ble_eq_true rfl) (by omega) (by omega) (by omega) dX1_asManyAs_14 ?_
  refine vL2i X dX1_asManyAs_17 (v := nI (d)) (lN_i _) ?_
  exact vRetI X hret dX1_asManyAs_18 ⟨rfl, rfl⟩
set_option maxHeartbeats 4000000 in
set_option maxRecDepth 100000 in
theorem cq_pass (l : Launch) (D : va_G) (k : Nat → ClassId) (sb : Nat) (L : List Nat) (f : Nat → va_E) (r w b n s P M T Mt : Nat) (g : Nat → Int32) (m d : Nat) (hr : r ∈ L) (fr : f r = .inr (1, [.ref w, .int (nI s), .int (nI P), .int (nI M), .int (nI T), .int (nI Mt)])) (hw : w ∈ L) (fw : f w = .inr (2, [.ref b])) (hb : b ∈ L) (fb : f b = .inl (k 0, n, .inl g)) (hn : n ≤ 256) (hP : P ≤ n) (hm : m < 2 ^ 63) (hd : d = min m (n - P)) : vCt l yX1_pass cX1_pass 4 (some .int) 3 82 0 0 D vCl (vTy k) sb [.ref (r), .long (lN (m))] (va_pl L f) (vDet (some (.int (nI (d)))) (va_pl L (va_up f r (.inr (1, [.ref (w), .int (nI (s)), .int (nI ((P) + (d))), .int (nI (M)), .int (nI (T)), .int (nI (Mt))]))))) := by
  refine vOf (by decide +kernel) (Nat.le_of_ble_eq_true rfl) (fun p9 e9 s9 m9 below9 meth9 c9 X hret hmn => ?_)
  refine vAloadN X dX1_pass_0 0 rfl ?_
  refine vLloadN X dX1_pass_1 1 rfl ?_
  obtain ⟨ix2, hix2⟩ := vp_ix (f := f) hr
  refine vCallVd X [] (cq_asManyAs l D k sb L f r w b (n) (s) (P) (M) (T) (Mt) (g) (m) (d) hr fr hw fw hb fb (by omega) (by omega) (by omega) (by omega)) (vGV q_215 q_216 q_217 q_28 q_218) ⟨by decide, by decide, (show _ = some 1 from by decide +kernel)⟩ ⟨Nat.le_of_ble_eq_true rfl, Nat.le_of_ble_eq_true rfl⟩ ix2 1 rfl rfl (hix2.trans (by rw [fr])) rfl (Nat.le_of_ble_eq_true rfl) dX1_pass_2 ⟨Nat.le_of_ble_eq_true rfl, Nat.le_of_ble_eq_true rfl⟩ ?_
  refine vIstoreN X [(3, .int (nI (d))), (0, .ref (r)), (1, .long (lN (m)))] dX1_pass_5 (by decide) rfl ?_
  refine vAloadN X dX1_pass_6 1 rfl ?_
  refine vDup X dX1_pass_7 rfl ?_
  refine vpGet X (C := RX1) (T := TX1) (N := 6) (ci := 1) (vcons inR) rfl hr fr 2 (by decide) (List.mem_cons_of_mem _ q_92) (fun _ h => h) rfl dX1_pass_8 ?_
  refine vIloadN X dX1_pass_11 0 rfl ?_
  refine vIadd X dX1_pass_12 (v := nI ((P) + (d))) (nI_add _ _) ?_
  refine vpPut X (C := RX1) (T := TX1) (N := 6) (ci := 1) (ty := .int) (vcons inR) tyX1 tyX1_ok nmX1 rfl hr fr 2 (by decide) (List.mem_cons_of_mem _ q_92) (fun _ h => h) rfl (by decide +kernel) rfl rfl (Nat.le_of_ble_eq_true rfl) dX1_pass_13 ?_
  refine vIloadN X dX1_pass_16 0 rfl ?_
  exact vRetI X hret dX1_pass_17 ⟨rfl, rfl⟩
set_option maxHeartbeats 4000000 in
set_option maxRecDepth 100000 in
theorem cq_next (l : Launch) (D : va_G) (k : Nat → ClassId) (sb : Nat) (L : List Nat) (f : Nat → va_E) (r w b n s P M T Mt : Nat) (g : Nat → Int32) (hr : r ∈ L) (fr : f r = .inr (1, [.ref w, .int (nI s), .int (nI P), .int (nI M), .int (nI T), .int (nI Mt)])) (hw : w ∈ L) (fw : f w = .inr (2, [.ref b])) (hb : b ∈ L) (fb : f b = .inl (k 0, n, .inl g)) (hn : n ≤ 256) (hP : P ≤ n) (hl : P < n) : vCt l yX1_next cX1_next 2 (some .int) 4 105 0 0 D vCl (vTy k) sb [.ref (r)] (va_pl L f) (vDet (some (.int ((g P) &&& (nI 255)))) (va_pl L (va_up f r (.inr (1, [.ref (w), .int (nI (s)), .int (nI ((P) + (1))), .int (nI (M)), .int (nI (T)), .int (nI (Mt))]))))) := by
  refine vOf (by decide +kernel) (Nat.le_of_ble_eq_true rfl) (fun p9 e9 s9 m9 below9 meth9 c9 X hret hmn => ?_)
  refine vAloadN X dX1_next_0 0 rfl ?_
  obtain ⟨ix1, hix1⟩ := vp_ix (f := f) hr
  refine vCallVd X [] (cq_peek l D k sb L f r w b (n) (s) (P) (M) (T) (Mt) (g)  hr fr hw fw hb fb (by omega) (by omega) (by omega)) (vGV q_206 q_207 q_208 q_28 q_209) ⟨by decide, by decide, (show _ = some 0 from by decide +kernel)⟩ ⟨Nat.le_of_ble_eq_true rfl, Nat.le_of_ble_eq_true rfl⟩ ix1 1 rfl rfl (hix1.trans (by rw [fr])) rfl (Nat.le_of_ble_eq_true rfl) dX1_next_1 ⟨Nat.le_of_ble_eq_true rfl, Nat.le_of_ble_eq_true rfl⟩ ?_
  refine vIstoreN X [(1, .int ((g (P)) &&& (nI 255))), (0, .ref (r))] dX1_next_4 (by decide) rfl ?_
  refine vAloadN X dX1_next_5 1 rfl ?_
  refine vLconst X dX1_next_6 (v := lN 1) (by decide) ?_
  obtain ⟨ix7, hix7⟩ := vp_ix (f := f) hr
  refine vCallVd X [] (cq_pass l D k sb L f r w b (n) (s) (P) (M) (T) (Mt) (g) (1) (1) hr fr hw fw hb fb (by omega) (by omega) (by omega) (by omega)) (vGV q_211 q_212 q_213 q_28 q_214) ⟨by decide, by decide, (show _ = some 1 from by decide +kernel)⟩ ⟨Nat.le_of_ble_eq_true rfl, Nat.le_of_ble_eq_true rfl⟩ ix7 1 rfl rfl (hix7.trans (by rw [fr])) rfl (Nat.le_of_ble_eq_true rfl) dX1_next_7 ⟨Nat.le_of_ble_eq_true rfl, Nat.le_of_ble_eq_true rfl⟩ ?_
  refine vPop X dX1_next_10 rfl ?_
  refine vIloadN X dX1_next_11 0 rfl ?_
  exact vRetI X hret dX1_next_12 ⟨rfl, rfl⟩
set_option maxHeartbeats 4000000 in
set_option maxRecDepth 100000 in
theorem cL_distanceTo {p9 : Program} {l : Launch} {e9 : Env} {s9 : State} {m9 : MethodId} {args9 : Array Value} {below9 : List Frame} {meth9 : Method} {c9 : Code} {Q9 : State → Prop} (D : va_G) (k : Nat → ClassId) (sb : Nat) (L : List Nat) (f : Nat → va_E) (r w b n s P M T Mt : Nat) (g : Nat → Int32) (d : Nat) (v : Int32) (hr : r ∈ L) (fr : f r = .inr (1, [.ref w, .int (nI s), .int (nI P), .int (nI M), .int (nI T), .int (nI Mt)])) (hw : w ∈ L) (fw : f w = .inr (2, [.ref b])) (hb : b ∈ L) (fb : f b = .inl (k 0, n, .inl g)) (hn : n ≤ 256) (hP : P ≤ n) (hd : d ≤ n - P) (hnv : ∀ j, j < d → ¬ (g (P + j)) &&& (nI 255) = v) (X : vCX p9 s9 m9 args9 meth9 c9 cX1_distanceTo 4 yX1_distanceTo.cls (Cond.code yX1_distanceTo cX1_distanceTo 4 (some .int) :: vGW) D vCl (vTy k) sb) (hex : vV p9 l e9 ({ frames := 2, cells := 0, slots := 0, locals := 42 }) s9 m9 args9 below9 meth9 c9 4 D vCl sb Q9 (va_pl L f) 0 0 7 [(3, .int (nI (d))), (2, .int (nI (n - P))), (0, .ref (r)), (1, .int (v))] []) : ∀ (z i : Nat) , i + z = d → vV p9 l e9 ({ frames := 2, cells := 0, slots := 0, locals := 42 }) s9 m9 args9 below9 meth9 c9 4 D vCl sb Q9 (va_pl L f) 0 0 7 [(3, .int (nI (i))), (2, .int (nI (n - P))), (0, .ref (r)), (1, .int (v))] [] := by
  intro z
  induction z with
  | zero =>
    intro i  hi 
    have hin : d = i := by omega
    subst hin
    exact hex
  | succ z ih =>
    intro i  hi 
    refine vIloadN X dX1_distanceTo_7 0 rfl ?_
    refine vIloadN X dX1_distanceTo_8 1 rfl ?_
    refine vIcmpN_geF X 41 dX1_distanceTo_9 (by decide) (by omega) (by omega) (by omega) ?_
    refine vAloadN X dX1_distanceTo_12 2 rfl ?_
    refine vpGet X (C := RX1) (T := TX1) (N := 6) (ci := 1) (vcons inR) rfl hr fr 0 (by decide) (List.mem_cons_of_mem _ q_90) (fun _ h => h) rfl dX1_distanceTo_13 ?_
    refine vAloadN X dX1_distanceTo_16 2 rfl ?_
    refine vpGet X (C := RX1) (T := TX1) (N := 6) (ci := 1) (vcons inR) rfl hr fr 2 (by decide) (List.mem_cons_of_mem _ q_92) (fun _ h => h) rfl dX1_distanceTo_17 ?_
    refine vIloadN X dX1_distanceTo_20 0 rfl ?_
    refine vIadd X dX1_distanceTo_21 (v := nI ((P) + (i))) (nI_add _ _) ?_
    obtain ⟨ix22, hix22⟩ := vp_ix (f := f) hw
    refine vCallVd X [] (cr_byteAt l D k sb L f w b (n) (g) ((P) + (i)) hw fw hb fb (by omega) (by omega)) (vGV q_210 q_141 q_142 q_25 q_143) ⟨by decide, by decide, (show _ = some 1 from by decide +kernel)⟩ ⟨Nat.le_of_ble_eq_true rfl, Nat.le_of_ble_eq_true rfl⟩ ix22 2 rfl rfl (hix22.trans (by rw [fw])) rfl (Nat.le_of_ble_eq_true rfl) dX1_distanceTo_22 ⟨Nat.le_of_ble_eq_true rfl, Nat.le_of_ble_eq_true rfl⟩ ?_
    refine vSipush X dX1_distanceTo_25 (v := nI (255)) (by decide) ?_
    refine vIand X dX1_distanceTo_28 (v := (g ((P) + (i))) &&& (nI (255))) rfl ?_
    refine vIloadN X dX1_distanceTo_29 3 rfl ?_
    refine vIcmp_neT X 35 dX1_distanceTo_30 (by decide) (hnv i (by omega)) ?_
    refine vIinc X [(3, .int (nI (i + 1))), (2, .int (nI (n - P))), (0, .ref (r)), (1, .int (v))] dX1_distanceTo_35 0 rfl (nI_inc _) (by decide) rfl ?_
    refine vGoto X 7 dX1_distanceTo_38 (by decide) ?_
    refine vSub [0, 1, 2, 3] [(3, .int (nI (i + 1))), (2, .int (nI (n - P))), (0, .ref (r)), (1, .int (v))] rfl ?_
    exact ih (i + 1) (by omega)
set_option maxHeartbeats 4000000 in
set_option maxRecDepth 100000 in
theorem cq_distanceToA (l : Launch) (D : va_G) (k : Nat → ClassId) (sb : Nat) (L : List Nat) (f : Nat → va_E) (r w b n s P M T Mt : Nat) (g : Nat → Int32) (d : Nat) (v : Int32) (hr : r ∈ L) (fr : f r = .inr (1, [.ref w, .int (nI s), .int (nI P), .int (nI M), .int (nI T), .int (nI Mt)])) (hw : w ∈ L) (fw : f w = .inr (2, [.ref b])) (hb : b ∈ L) (fb : f b = .inl (k 0, n, .inl g)) (hn : n ≤ 256) (hP : P ≤ n) (hd : d ≤ n - P) (hnv : ∀ j, j < d → ¬ (g (P + j)) &&& (nI 255) = v) (he : d = n - P) : vCt l yX1_distanceTo cX1_distanceTo 4 (some .int) 2 42 0 0 D vCl (vTy k) sb [.ref (r), .int (v)] (va_pl L f) (vDet (some (.int (nI (n - P)))) (va_pl L f)) := by
  refine vOf (by decide +kernel) (Nat.le_of_ble_eq_true rfl) (fun p9 e9 s9 m9 below9 meth9 c9 X hret hmn => ?_)
  refine vAloadN X dX1_distanceTo_0 0 rfl ?_
  obtain ⟨ix1, hix1⟩ := vp_ix (f := f) hr
  refine vCallVd X [] (cq_remaining l D k sb L f r w b (n) (s) (P) (M) (T) (Mt) (g)  hr fr hw fw hb fb (by omega) (by omega) ) (vGV q_174 q_162 q_163 q_28 q_164) ⟨by decide, by decide, (show _ = some 0 from by decide +kernel)⟩ ⟨Nat.le_of_ble_eq_true rfl, Nat.le_of_ble_eq_true rfl⟩ ix1 1 rfl rfl (hix1.trans (by rw [fr])) rfl (Nat.le_of_ble_eq_true rfl) dX1_distanceTo_1 ⟨Nat.le_of_ble_eq_true rfl, Nat.le_of_ble_eq_true rfl⟩ ?_
  refine vIstoreN X [(2, .int (nI ((n) - (P)))), (0, .ref (r)), (1, .int (v))] dX1_distanceTo_4 (by decide) rfl ?_
  refine vIconst X dX1_distanceTo_5 (v := nI (0)) (by decide) ?_
  refine vIstoreN X [(3, .int (nI (0))), (2, .int (nI ((n) - (P)))), (0, .ref (r)), (1, .int (v))] dX1_distanceTo_6 (by decide) rfl ?_
  refine vSub [0, 1, 2, 3] [(3, .int (nI (0))), (2, .int (nI ((n) - (P)))), (0, .ref (r)), (1, .int (v))] rfl ?_
  refine cL_distanceTo D k sb L f r w b n s P M T Mt g d v hr fr hw fw hb fb hn hP hd hnv X ?_ (d) 0  (by omega)
  refine vIloadN X dX1_distanceTo_7 0 rfl ?_
  refine vIloadN X dX1_distanceTo_8 1 rfl ?_
  refine vIcmpN_geT X 41 dX1_distanceTo_9 (by decide) (by omega) (by omega) (by omega) ?_
  refine vIloadN X dX1_distanceTo_41 1 rfl ?_
  exact vRetI X hret dX1_distanceTo_42 ⟨rfl, rfl⟩
set_option maxHeartbeats 4000000 in
set_option maxRecDepth 100000 in
theorem cq_distanceToB (l : Launch) (D : va_G) (k : Nat → ClassId) (sb : Nat) (L : List Nat) (f : Nat → va_E) (r w b n s P M T Mt : Nat) (g : Nat → Int32) (d : Nat) (v : Int32) (hr : r ∈ L) (fr : f r = .inr (1, [.ref w, .int (nI s), .int (nI P), .int (nI M), .int (nI T), .int (nI Mt)])) (hw : w ∈ L) (fw : f w = .inr (2, [.ref b])) (hb : b ∈ L) (fb : f b = .inl (k 0, n, .inl g)) (hn : n ≤ 256) (hP : P ≤ n) (hd : d ≤ n - P) (hnv : ∀ j, j < d → ¬ (g (P + j)) &&& (nI 255) = v) (he : d < n - P) (hv : (g (P + d)) &&& (nI 255) = v) : vCt l yX1_distanceTo cX1_distanceTo 4 (some .int) 2 42 0 0 D vCl (vTy k) sb [.ref (r), .int (v)] (va_pl L f) (vDet (some (.int (nI (d)))) (va_pl L f)) := by
  refine vOf (by decide +kernel) (Nat.le_of_ble_eq_true rfl) (fun p9 e9 s9 m9 below9 meth9 c9 X hret hmn => ?_)
  refine vAloadN X dX1_distanceTo_0 0 rfl ?_
  obtain ⟨ix1, hix1⟩ := vp_ix (f := f) hr
  refine vCallVd X [] (cq_remaining l D k sb L f r w b (n) (s) (P) (M) (T) (Mt) (g)  hr fr hw fw hb fb (by omega) (by omega) ) (vGV q_174 q_162 q_163 q_28 q_164) ⟨by decide, by decide, (show _ = some 0 from by decide +kernel)⟩ ⟨Nat.le_of_ble_eq_true rfl, Nat.le_of_ble_eq_true rfl⟩ ix1 1 rfl rfl (hix1.trans (by rw [fr])) rfl (Nat.le_of_ble_eq_true rfl) dX1_distanceTo_1 ⟨Nat.le_of_ble_eq_true rfl, Nat.le_of_ble_eq_true rfl⟩ ?_
  refine vIstoreN X [(2, .int (nI ((n) - (P)))), (0, .ref (r)), (1, .int (v))] dX1_distanceTo_4 (by decide) rfl ?_
  refine vIconst X dX1_distanceTo_5 (v := nI (0)) (by decide) ?_
  refine vIstoreN X [(3, .int (nI (0))), (2, .int (nI ((n) - (P)))), (0, .ref (r)), (1, .int (v))] dX1_distanceTo_6 (by decide) rfl ?_
  refine vSub [0, 1, 2, 3] [(3, .int (nI (0))), (2, .int (nI ((n) - (P)))), (0, .ref (r)), (1, .int (v))] rfl ?_
  refine cL_distanceTo D k sb L f r w b n s P M T Mt g d v hr fr hw fw hb fb hn hP hd hnv X ?_ (d) 0  (by omega)
  refine vIloadN X dX1_distanceTo_7 0 rfl ?_
  refine vIloadN X dX1_distanceTo_8 1 rfl ?_
  refine vIcmpN_geF X 41 dX1_distanceTo_9 (by decide) (by omega) (by omega) (by omega) ?_
  refine vAloadN X dX1_distanceTo_12 2 rfl ?_
  refine vpGet X (C := RX1) (T := TX1) (N := 6) (ci := 1) (vcons inR) rfl hr fr 0 (by decide) (List.mem_cons_of_mem _ q_90) (fun _ h => h) rfl dX1_distanceTo_13 ?_
  refine vAloadN X dX1_distanceTo_16 2 rfl ?_
  refine vpGet X (C := RX1) (T := TX1) (N := 6) (ci := 1) (vcons inR) rfl hr fr 2 (by decide) (List.mem_cons_of_mem _ q_92) (fun _ h => h) rfl dX1_distanceTo_17 ?_
  refine vIloadN X dX1_distanceTo_20 0 rfl ?_
  refine vIadd X dX1_distanceTo_21 (v := nI ((P) + (d))) (nI_add _ _) ?_
  obtain ⟨ix22, hix22⟩ := vp_ix (f := f) hw
  refine vCallVd X [] (cr_byteAt l D k sb L f w b (n) (g) ((P) + (d)) hw fw hb fb (by omega) (by omega)) (vGV q_210 q_141 q_142 q_25 q_143) ⟨by decide, by decide, (show _ = some 1 from by decide +kernel)⟩ ⟨Nat.le_of_ble_eq_true rfl, Nat.le_of_ble_eq_true rfl⟩ ix22 2 rfl rfl (hix22.trans (by rw [fw])) rfl (Nat.le_of_ble_eq_true rfl) dX1_distanceTo_22 ⟨Nat.le_of_ble_eq_true rfl, Nat.le_of_ble_eq_true rfl⟩ ?_
  refine vSipush X dX1_distanceTo_25 (v := nI (255)) (by decide) ?_
  refine vIand X dX1_distanceTo_28 (v := (g ((P) + (d))) &&& (nI (255))) rfl ?_
  refine vIloadN X dX1_distanceTo_29 3 rfl ?_
  refine vIcmp_neF X 35 dX1_distanceTo_30 (by decide) hv ?_
  refine vIloadN X dX1_distanceTo_33 0 rfl ?_
  exact vRetI X hret dX1_distanceTo_34 ⟨rfl, rfl⟩
set_option maxHeartbeats 4000000 in
set_option maxRecDepth 100000 in
theorem cq_moveIntoD (l : Launch) (D : va_G) (k : Nat → ClassId) (sb : Nat) (L : List Nat) (f : Nat → va_E) (r w b n s P M T Mt : Nat) (g : Nat → Int32) (h2 b2 n2 : Nat) (g2 : Nat → Int32) (t m d : Nat) (hr : r ∈ L) (fr : f r = .inr (1, [.ref w, .int (nI s), .int (nI P), .int (nI M), .int (nI T), .int (nI Mt)])) (hw : w ∈ L) (fw : f w = .inr (2, [.ref b])) (hb : b ∈ L) (fb : f b = .inl (k 0, n, .inl g)) (hn : n ≤ 256) (hP : P ≤ n) (hh2 : h2 ∈ L) (fh2 : f h2 = .inr (2, [.ref b2])) (hb2 : b2 ∈ L) (fb2 : f b2 = .inl (k 0, n2, .inl g2)) (hn2 : n2 ≤ 256) (hbb : b ≠ b2) (hm : m < 2 ^ 31) (hd : d = min m (n - P)) (ht : t + d ≤ n2) (hgf : ∀ j, lb (g j) = g j) : vCt l yX1_moveInto cX1_moveInto 5 (some .int) 4 105 0 0 D vCl (vTy k) sb [.ref (r), .ref (h2), .int (nI (t)), .int (nI (m))] (va_pl L f) (vDet (some (.int (nI (d)))) (va_pl L (va_up (va_up f b2 (.inl (k 0, n2, .inl (va_cpy g g2 (P) (t) (d))))) r (.inr (1, [.ref (w), .int (nI (s)), .int (nI ((P) + (d))), .int (nI (M)), .int (nI (T)), .int (nI (Mt))]))))) := by
  refine vOf (by decide +kernel) (Nat.le_of_ble_eq_true rfl) (fun p9 e9 s9 m9 below9 meth9 c9 X hret hmn => ?_)
  refine vAloadN X dX1_moveInto_0 0 rfl ?_
  refine vIloadN X dX1_moveInto_1 3 rfl ?_
  refine vI2l X dX1_moveInto_2 (v := lN (m)) (nI_l (by omega)) ?_
  obtain ⟨ix3, hix3⟩ := vp_ix (f := f) hr
  refine vCallVd X [] (cq_asManyAs l D k sb L f r w b (n) (s) (P) (M) (T) (Mt) (g) (m) (d) hr fr hw fw hb fb (by omega) (by omega) (by omega) (by omega)) (vGV q_215 q_216 q_217 q_28 q_218) ⟨by decide, by decide, (show _ = some 1 from by decide +kernel)⟩ ⟨Nat.le_of_ble_eq_true rfl, Nat.le_of_ble_eq_true rfl⟩ ix3 1 rfl rfl (hix3.trans (by rw [fr])) rfl (Nat.le_of_ble_eq_true rfl) dX1_moveInto_3 ⟨Nat.le_of_ble_eq_true rfl, Nat.le_of_ble_eq_true rfl⟩ ?_
  refine vIstore X [(4, .int (nI (d))), (0, .ref (r)), (1, .ref (h2)), (2, .int (nI (t))), (3, .int (nI (m)))] dX1_moveInto_6 (by decide) rfl ?_
  refine vAloadN X dX1_moveInto_8 1 rfl ?_
  refine vpGet X (C := RX1) (T := TX1) (N := 6) (ci := 1) (vcons inR) rfl hr fr 0 (by decide) (List.mem_cons_of_mem _ q_90) (fun _ h => h) rfl dX1_moveInto_9 ?_
  refine vAloadN X dX1_moveInto_12 2 rfl ?_
  refine vIloadN X dX1_moveInto_13 3 rfl ?_
  refine vAloadN X dX1_moveInto_14 1 rfl ?_
  refine vpGet X (C := RX1) (T := TX1) (N := 6) (ci := 1) (vcons inR) rfl hr fr 2 (by decide) (List.mem_cons_of_mem _ q_92) (fun _ h => h) rfl dX1_moveInto_15 ?_
  refine vIload X dX1_moveInto_18 0 rfl ?_
  obtain ⟨ix20, hix20⟩ := vp_ix (f := f) hw
  refine vCallVd X [] (cr_copyTo l D k sb L f w b (n) (g) h2 b2 (n2) (g2) (t) (P) (d) hw fw hb fb (by omega) hh2 fh2 hb2 fb2 (by omega) (by omega) (by omega) hgf) (vGV q_572 q_184 q_185 q_25 q_186) ⟨by decide, by decide, (show _ = some 4 from by decide +kernel)⟩ ⟨Nat.le_of_ble_eq_true rfl, Nat.le_of_ble_eq_true rfl⟩ ix20 2 rfl rfl (hix20.trans (by rw [fw])) rfl (Nat.le_of_ble_eq_true rfl) dX1_moveInto_20 ⟨Nat.le_of_ble_eq_true rfl, Nat.le_of_ble_eq_true rfl⟩ ?_
  refine vAloadN X dX1_moveInto_23 1 rfl ?_
  refine vIload X dX1_moveInto_24 0 rfl ?_
  refine vI2l X dX1_moveInto_26 (v := lN (d)) (nI_l (by omega)) ?_
  obtain ⟨ix27, hix27⟩ := vp_ix (f := va_up f b2 (.inl (k 0, n2, .inl (va_cpy g g2 (P) (t) (d))))) hr
  refine vCallVd X [] (cq_pass l D k sb L (va_up f b2 (.inl (k 0, n2, .inl (va_cpy g g2 (P) (t) (d))))) r w b (n) (s) (P) (M) (T) (Mt) (g) (d) (d) hr ((va_up_nq _ (ne_of fr fb2 (by simp))).trans fr) hw ((va_up_nq _ (ne_of fw fb2 (by simp))).trans fw) hb ((va_up_nq _ hbb).trans fb) (by omega) (by omega) (by omega) (by omega)) (vGV q_211 q_212 q_213 q_28 q_214) ⟨by decide, by decide, (show _ = some 1 from by decide +kernel)⟩ ⟨Nat.le_of_ble_eq_true rfl, Nat.le_of_ble_eq_true rfl⟩ ix27 1 rfl rfl (hix27.trans (by rw [((va_up_nq _ (ne_of fr fb2 (by simp))).trans fr)])) rfl (Nat.le_of_ble_eq_true rfl) dX1_moveInto_27 ⟨Nat.le_of_ble_eq_true rfl, Nat.le_of_ble_eq_true rfl⟩ ?_
  exact vRetI X hret dX1_moveInto_30 ⟨rfl, rfl⟩
set_option maxHeartbeats 4000000 in
set_option maxRecDepth 100000 in
theorem cq_moveIntoS (l : Launch) (D : va_G) (k : Nat → ClassId) (sb : Nat) (L : List Nat) (f : Nat → va_E) (r w b n s P M T Mt : Nat) (g : Nat → Int32) (t m d : Nat) (hr : r ∈ L) (fr : f r = .inr (1, [.ref w, .int (nI s), .int (nI P), .int (nI M), .int (nI T), .int (nI Mt)])) (hw : w ∈ L) (fw : f w = .inr (2, [.ref b])) (hb : b ∈ L) (fb : f b = .inl (k 0, n, .inl g)) (hn : n ≤ 256) (hP : P ≤ n) (hm : m < 2 ^ 31) (hd : d = min m (n - P)) (ht : t + d ≤ n) (hgf : ∀ j, lb (g j) = g j) : vCt l yX1_moveInto cX1_moveInto 5 (some .int) 4 105 0 0 D vCl (vTy k) sb [.ref (r), .ref (w), .int (nI (t)), .int (nI (m))] (va_pl L f) (vDet (some (.int (nI (d)))) (va_pl L (va_up (va_up f b (.inl (k 0, n, .inl (va_cpy g g (P) (t) (d))))) r (.inr (1, [.ref (w), .int (nI (s)), .int (nI ((P) + (d))), .int (nI (M)), .int (nI (T)), .int (nI (Mt))]))))) := by
  refine vOf (by decide +kernel) (Nat.le_of_ble_eq_true rfl) (fun p9 e9 s9 m9 below9 meth9 c9 X hret hmn => ?_)
  refine vAloadN X dX1_moveInto_0 0 rfl ?_
  refine vIloadN X dX1_moveInto_1 3 rfl ?_
  refine vI2l X dX1_moveInto_2 (v := lN (m)) (nI_l (by omega)) ?_
  obtain ⟨ix3, hix3⟩ := vp_ix (f := f) hr
  refine vCallVd X [] (cq_asManyAs l D k sb L f r w b (n) (s) (P) (M) (T) (Mt) (g) (m) (d) hr fr hw fw hb fb (by omega) (by omega) (by omega) (by omega)) (vGV q_215 q_216 q_217 q_28 q_218) ⟨by decide, by decide, (show _ = some 1 from by decide +kernel)⟩ ⟨Nat.le_of_ble_eq_true rfl, Nat.le_of_ble_eq_true rfl⟩ ix3 1 rfl rfl (hix3.trans (by rw [fr])) rfl (Nat.le_of_ble_eq_true rfl) dX1_moveInto_3 ⟨Nat.le_of_ble_eq_true rfl, Nat.le_of_ble_eq_true rfl⟩ ?_
  refine vIstore X [(4, .int (nI (d))), (0, .ref (r)), (1, .ref (w)), (2, .int (nI (t))), (3, .int (nI (m)))] dX1_moveInto_6 (by decide) rfl ?_
  refine vAloadN X dX1_moveInto_8 1 rfl ?_
  refine vpGet X (C := RX1) (T := TX1) (N := 6) (ci := 1) (vcons inR) rfl hr fr 0 (by decide) (List.mem_cons_of_mem _ q_90) (fun _ h => h) rfl dX1_moveInto_9 ?_
  refine vAloadN X dX1_moveInto_12 2 rfl ?_
  refine vIloadN X dX1_moveInto_13 3 rfl ?_
  refine vAloadN X dX1_moveInto_14 1 rfl ?_
  refine vpGet X (C := RX1) (T := TX1) (N := 6) (ci := 1) (vcons inR) rfl hr fr 2 (by decide) (List.mem_cons_of_mem _ q_92) (fun _ h => h) rfl dX1_moveInto_15 ?_
  refine vIload X dX1_moveInto_18 0 rfl ?_
  obtain ⟨ix20, hix20⟩ := vp_ix (f := f) hw
  refine vCallVd X [] (cr_copyTo l D k sb L f w b (n) (g) w b (n) (g) (t) (P) (d) hw fw hb fb (by omega) hw fw hb fb (by omega) (by omega) (by omega) hgf) (vGV q_572 q_184 q_185 q_25 q_186) ⟨by decide, by decide, (show _ = some 4 from by decide +kernel)⟩ ⟨Nat.le_of_ble_eq_true rfl, Nat.le_of_ble_eq_true rfl⟩ ix20 2 rfl rfl (hix20.trans (by rw [fw])) rfl (Nat.le_of_ble_eq_true rfl) dX1_moveInto_20 ⟨Nat.le_of_ble_eq_true rfl, Nat.le_of_ble_eq_true rfl⟩ ?_
  refine vAloadN X dX1_moveInto_23 1 rfl ?_
  refine vIload X dX1_moveInto_24 0 rfl ?_
  refine vI2l X dX1_moveInto_26 (v := lN (d)) (nI_l (by omega)) ?_
  obtain ⟨ix27, hix27⟩ := vp_ix (f := va_up f b (.inl (k 0, n, .inl (va_cpy g g (P) (t) (d))))) hr
  refine vCallVd X [] (cq_pass l D k sb L (va_up f b (.inl (k 0, n, .inl (va_cpy g g (P) (t) (d))))) r w b (n) (s) (P) (M) (T) (Mt) (va_cpy g g (P) (t) (d)) (d) (d) hr ((va_up_nq _ (ne_of fr fb (by simp))).trans fr) hw ((va_up_nq _ (ne_of fw fb (by simp))).trans fw) hb (va_up_eq _ _ _) (by omega) (by omega) (by omega) (by omega)) (vGV q_211 q_212 q_213 q_28 q_214) ⟨by decide, by decide, (show _ = some 1 from by decide +kernel)⟩ ⟨Nat.le_of_ble_eq_true rfl, Nat.le_of_ble_eq_true rfl⟩ ix27 1 rfl rfl (hix27.trans (by rw [((va_up_nq _ (ne_of fr fb (by simp))).trans fr)])) rfl (Nat.le_of_ble_eq_true rfl) dX1_moveInto_27 ⟨Nat.le_of_ble_eq_true rfl, Nat.le_of_ble_eq_true rfl⟩ ?_
  exact vRetI X hret dX1_moveInto_30 ⟨rfl, rfl⟩
set_option maxHeartbeats 4000000 in
set_option maxRecDepth 100000 in
theorem cq_pourInto (l : Launch) (D : va_G) (k : Nat → ClassId) (sb : Nat) (L : List Nat) (f : Nat → va_E) (r w b n s P M T Mt : Nat) (g : Nat → Int32) (u ur ub c : Nat) (gu : Nat → Int32) (m d : Nat) (hr : r ∈ L) (fr : f r = .inr (1, [.ref w, .int (nI s), .int (nI P), .int (nI M), .int (nI T), .int (nI Mt)])) (hw : w ∈ L) (fw : f w = .inr (2, [.ref b])) (hb : b ∈ L) (fb : f b = .inl (k 0, n, .inl g)) (hn : n ≤ 256) (hP : P ≤ n) (hu : u ∈ L) (fu : f u = .inr (0, [.ref ur, .int (nI c)])) (hur : ur ∈ L) (fur : f ur = .inr (2, [.ref ub])) (hub : ub ∈ L) (fub : f ub = .inl (k 0, 256, .inl gu)) (hc : c ≤ 256) (hbu : b ≠ ub) (hm : m < 2 ^ 31) (hd : d = min m (n - P)) (hc2 : c + d ≤ 256) (hgf : ∀ j, lb (g j) = g j) : vCt l yX1_pourInto cX1_pourInto 4 (some .int) 4 107 0 0 D vCl (vTy k) sb [.ref (r), .ref (u), .int (nI (m))] (va_pl L f) (vDet (some (.int (nI (d)))) (va_pl L (va_up (va_up (va_up f ub (.inl (k 0, 256, .inl (va_cpy g gu (P) (c) (d))))) u (.inr (0, [.ref (ur), .int (nI ((c) + (d)))]))) r (.inr (1, [.ref (w), .int (nI (s)), .int (nI ((P) + (d))), .int (nI (M)), .int (nI (T)), .int (nI (Mt))]))))) := by
  refine vOf (by decide +kernel) (Nat.le_of_ble_eq_true rfl) (fun p9 e9 s9 m9 below9 meth9 c9 X hret hmn => ?_)
  refine vAloadN X dX1_pourInto_0 0 rfl ?_
  refine vIloadN X dX1_pourInto_1 2 rfl ?_
  refine vI2l X dX1_pourInto_2 (v := lN (m)) (nI_l (by omega)) ?_
  obtain ⟨ix3, hix3⟩ := vp_ix (f := f) hr
  refine vCallVd X [] (cq_asManyAs l D k sb L f r w b (n) (s) (P) (M) (T) (Mt) (g) (m) (d) hr fr hw fw hb fb (by omega) (by omega) (by omega) (by omega)) (vGV q_215 q_216 q_217 q_28 q_218) ⟨by decide, by decide, (show _ = some 1 from by decide +kernel)⟩ ⟨Nat.le_of_ble_eq_true rfl, Nat.le_of_ble_eq_true rfl⟩ ix3 1 rfl rfl (hix3.trans (by rw [fr])) rfl (Nat.le_of_ble_eq_true rfl) dX1_pourInto_3 ⟨Nat.le_of_ble_eq_true rfl, Nat.le_of_ble_eq_true rfl⟩ ?_
  refine vIstoreN X [(3, .int (nI (d))), (0, .ref (r)), (1, .ref (u)), (2, .int (nI (m)))] dX1_pourInto_6 (by decide) rfl ?_
  refine vAloadN X dX1_pourInto_7 2 rfl ?_
  refine vAloadN X dX1_pourInto_8 1 rfl ?_
  refine vpGet X (C := RX1) (T := TX1) (N := 6) (ci := 1) (vcons inR) rfl hr fr 0 (by decide) (List.mem_cons_of_mem _ q_90) (fun _ h => h) rfl dX1_pourInto_9 ?_
  refine vAloadN X dX1_pourInto_12 1 rfl ?_
  refine vpGet X (C := RX1) (T := TX1) (N := 6) (ci := 1) (vcons inR) rfl hr fr 2 (by decide) (List.mem_cons_of_mem _ q_92) (fun _ h => h) rfl dX1_pourInto_13 ?_
  refine vIloadN X dX1_pourInto_16 0 rfl ?_
  obtain ⟨ix17, hix17⟩ := vp_ix (f := f) hu
  refine vCallVd X [] (cg_gatherPart l D k sb L f u ur ub (c) (gu) w b (n) (g) (P) (d) hu fu hur fur hub fub (by omega) hw fw hb fb (by omega) (by omega) (by omega) hgf) (vGV q_246 q_247 q_248 q_27 q_249) ⟨by decide, by decide, (show _ = some 3 from by decide +kernel)⟩ ⟨Nat.le_of_ble_eq_true rfl, Nat.le_of_ble_eq_true rfl⟩ ix17 0 rfl rfl (hix17.trans (by rw [fu])) rfl (Nat.le_of_ble_eq_true rfl) dX1_pourInto_17 ⟨Nat.le_of_ble_eq_true rfl, Nat.le_of_ble_eq_true rfl⟩ ?_
  refine vAloadN X dX1_pourInto_20 1 rfl ?_
  refine vIloadN X dX1_pourInto_21 0 rfl ?_
  refine vI2l X dX1_pourInto_22 (v := lN (d)) (nI_l (by omega)) ?_
  obtain ⟨ix23, hix23⟩ := vp_ix (f := va_up (va_up f ub (.inl (k 0, 256, .inl (va_cpy g gu (P) (c) (d))))) u (.inr (0, [.ref (ur), .int (nI ((c) + (d)))]))) hr
  refine vCallVd X [] (cq_pass l D k sb L (va_up (va_up f ub (.inl (k 0, 256, .inl (va_cpy g gu (P) (c) (d))))) u (.inr (0, [.ref (ur), .int (nI ((c) + (d)))]))) r w b (n) (s) (P) (M) (T) (Mt) (g) (d) (d) hr ((va_up_nq _ (ne_of fr fu (by simp))).trans ((va_up_nq _ (ne_of fr fub (by simp))).trans fr)) hw ((va_up_nq _ (ne_of fw fu (by simp))).trans ((va_up_nq _ (ne_of fw fub (by simp))).trans fw)) hb ((va_up_nq _ (ne_of fb fu (by simp))).trans ((va_up_nq _ hbu).trans fb)) (by omega) (by omega) (by omega) (by omega)) (vGV q_211 q_212 q_213 q_28 q_214) ⟨by decide, by decide, (show _ = some 1 from by decide +kernel)⟩ ⟨Nat.le_of_ble_eq_true rfl, Nat.le_of_ble_eq_true rfl⟩ ix23 1 rfl rfl (hix23.trans (by rw [((va_up_nq _ (ne_of fr fu (by simp))).trans ((va_up_nq _ (ne_of fr fub (by simp))).trans fr))])) rfl (Nat.le_of_ble_eq_true rfl) dX1_pourInto_23 ⟨Nat.le_of_ble_eq_true rfl, Nat.le_of_ble_eq_true rfl⟩ ?_
  exact vRetI X hret dX1_pourInto_26 ⟨rfl, rfl⟩
set_option maxHeartbeats 4000000 in
set_option maxRecDepth 100000 in
theorem cq_nextRow (l : Launch) (D : va_G) (k : Nat → ClassId) (sb : Nat) (L : List Nat) (f : Nat → va_E) (r w b n s P M T Mt : Nat) (g : Nat → Int32) (m d : Nat) (hr : r ∈ L) (fr : f r = .inr (1, [.ref w, .int (nI s), .int (nI P), .int (nI M), .int (nI T), .int (nI Mt)])) (hw : w ∈ L) (fw : f w = .inr (2, [.ref b])) (hb : b ∈ L) (fb : f b = .inl (k 0, n, .inl g)) (hn : n ≤ 256) (hP : P ≤ n) (hm : m < 2 ^ 31) (hd : d = min m (n - P)) (hgf : ∀ j, lb (g j) = g j) : vCt l yX1_nextRow cX1_nextRow 3 (some (.object "Bytewell$Row")) 5 129 2 257 D vCl (vTy k) sb [.ref (r), .int (nI (m))] (va_pl L f) (fun v ws' => ∃ (q qb : Nat) (L' : List Nat) (f' : Nat → va_E), q ∉ L ∧ qb ∉ L ∧ (∀ a, a ∈ L → a ∈ L' ∧ (a ≠ r → f' a = f a)) ∧ f' r = .inr (1, [.ref w, .int (nI s), .int (nI (P + d)), .int (nI M), .int (nI T), .int (nI Mt)]) ∧ q ∈ L' ∧ f' q = .inr (2, [.ref qb]) ∧ qb ∈ L' ∧ f' qb = .inl (k 0, d, .inl (va_cpy g (fun _ => 0) P 0 d)) ∧ v = some (.ref q) ∧ ws' = va_pl L' f') := by
  refine vOf (by decide +kernel) (Nat.le_of_ble_eq_true rfl) (fun p9 e9 s9 m9 below9 meth9 c9 X hret hmn => ?_)
  refine vpNew X (C := RX2) (T := TX2) (N := 1) (ci := 2) (fs := [.null]) (vcons inW) tyX2 tyX2_ok (List.mem_cons_of_mem _ q_88) (List.mem_cons_of_mem _ q_52) (List.mem_cons_of_mem _ q_25) rfl (fun j hj => by rcases (show j = 0 by omega) with rfl <;> rfl) (Nat.le_of_ble_eq_true rfl) (Nat.le_of_ble_eq_true rfl) dX1_nextRow_0 (fun q0 hq0 => ?_)
  refine vWiden 1 1 (by omega) (by omega) ?_
  refine vDup X dX1_nextRow_3 rfl ?_
  refine vAloadN X dX1_nextRow_4 0 rfl ?_
  refine vIloadN X dX1_nextRow_5 1 rfl ?_
  refine vI2l X dX1_nextRow_6 (v := lN (m)) (nI_l (by omega)) ?_
  obtain ⟨ix7, hix7⟩ := vp_ix (f := va_up f q0 (.inr (2, [.null]))) (List.mem_append_left _ hr)
  refine vCallVd X [.ref (q0), .ref (q0)] (cq_asManyAs l D k sb ((L ++ [q0])) (va_up f q0 (.inr (2, [.null]))) r w b (n) (s) (P) (M) (T) (Mt) (g) (m) (d) (List.mem_append_left _ hr) ((va_up_nq _ (fun z9 => hq0 (by rw [← z9]; exact hr))).trans fr) (List.mem_append_left _ hw) ((va_up_nq _ (fun z9 => hq0 (by rw [← z9]; exact hw))).trans fw) (List.mem_append_left _ hb) ((va_up_nq _ (fun z9 => hq0 (by rw [← z9]; exact hb))).trans fb) (by omega) (by omega) (by omega) (by omega)) (vGV q_215 q_216 q_217 q_28 q_218) ⟨by decide, by decide, (show _ = some 1 from by decide +kernel)⟩ ⟨Nat.le_of_ble_eq_true rfl, Nat.le_of_ble_eq_true rfl⟩ ix7 1 rfl rfl (hix7.trans (by rw [((va_up_nq _ (fun z9 => hq0 (by rw [← z9]; exact hr))).trans fr)])) rfl (Nat.le_of_ble_eq_true rfl) dX1_nextRow_7 ⟨Nat.le_of_ble_eq_true rfl, Nat.le_of_ble_eq_true rfl⟩ ?_
  refine vCallI X [.ref (q0)] (cr_init l D k sb ((L ++ [q0])) (va_up f q0 (.inr (2, [.null]))) q0 (d) (List.mem_append_right _ (List.mem_singleton.mpr rfl)) (va_up_eq _ _ _) (by omega)) (vGI q_55) rfl (List.mem_cons_of_mem _ q_25) (List.mem_cons_of_mem _ q_89) (List.mem_cons_of_mem _ q_54) ⟨by decide, by decide, (show _ = some 1 from by decide +kernel)⟩ ⟨Nat.le_of_ble_eq_true rfl, Nat.le_of_ble_eq_true rfl⟩ rfl (Nat.le_of_ble_eq_true rfl) dX1_nextRow_10 ⟨Nat.le_of_ble_eq_true rfl, Nat.le_of_ble_eq_true rfl⟩ (fun v9 w9 hp9 => ?_)
  obtain ⟨qb10, hqb10, rfl, rfl⟩ := hp9
  refine vWs (ws' := va_pl (((L ++ [q0]) ++ [qb10])) (va_up (va_up f qb10 (.inl (k 0, d, .inl (fun _ => 0)))) q0 (.inr (2, [.ref (qb10)])))) (congrArg (fun φ9 => va_pl (((L ++ [q0]) ++ [qb10])) (φ9)) va_up_sh) ?_
  refine vWiden 2 257 (by omega) (by omega) ?_
  refine vAstoreN X [(2, .ref (q0)), (0, .ref (r)), (1, .int (nI (m)))] dX1_nextRow_13 (by decide) rfl ?_
  refine vAloadN X dX1_nextRow_14 1 rfl ?_
  refine vAloadN X dX1_nextRow_15 0 rfl ?_
  refine vIconst X dX1_nextRow_16 (v := nI (0)) (by decide) ?_
  refine vAloadN X dX1_nextRow_17 0 rfl ?_
  obtain ⟨ix18, hix18⟩ := vp_ix (f := va_up (va_up f qb10 (.inl (k 0, d, .inl (fun _ => 0)))) q0 (.inr (2, [.ref (qb10)]))) (List.mem_append_left _ (List.mem_append_right _ (List.mem_singleton.mpr rfl)))
  refine vCallVd X [.int (nI (0)), .ref (q0), .ref (r)] (cr_count l D k sb (((L ++ [q0]) ++ [qb10])) (va_up (va_up f qb10 (.inl (k 0, d, .inl (fun _ => 0)))) q0 (.inr (2, [.ref (qb10)]))) q0 qb10 (d) (fun _ => 0)  (List.mem_append_left _ (List.mem_append_right _ (List.mem_singleton.mpr rfl))) (va_up_eq _ _ _) (List.mem_append_right _ (List.mem_singleton.mpr rfl)) ((va_up_nq _ (fun z9 => hqb10 (by rw [z9]; exact (List.mem_append_right _ (List.mem_singleton.mpr rfl))))).trans (va_up_eq _ _ _)) (by omega) ) (vGV q_165 q_132 q_133 q_25 q_134) ⟨by decide, by decide, (show _ = some 0 from by decide +kernel)⟩ ⟨Nat.le_of_ble_eq_true rfl, Nat.le_of_ble_eq_true rfl⟩ ix18 2 rfl rfl (hix18.trans (by rw [(va_up_eq _ _ _)])) rfl (Nat.le_of_ble_eq_true rfl) dX1_nextRow_18 ⟨Nat.le_of_ble_eq_true rfl, Nat.le_of_ble_eq_true rfl⟩ ?_
  obtain ⟨ix21, hix21⟩ := vp_ix (f := va_up (va_up f qb10 (.inl (k 0, d, .inl (fun _ => 0)))) q0 (.inr (2, [.ref (qb10)]))) (List.mem_append_left _ (List.mem_append_left _ hr))
  refine vCallVd X [] (cq_moveIntoD l D k sb (((L ++ [q0]) ++ [qb10])) (va_up (va_up f qb10 (.inl (k 0, d, .inl (fun _ => 0)))) q0 (.inr (2, [.ref (qb10)]))) r w b (n) (s) (P) (M) (T) (Mt) (g) q0 qb10 (d) (fun _ => 0) (0) (d) (d) (List.mem_append_left _ (List.mem_append_left _ hr)) ((va_up_nq _ (fun z9 => hq0 (by rw [← z9]; exact hr))).trans ((va_up_nq _ (fun z9 => hqb10 (by rw [← z9]; exact (List.mem_append_left _ hr)))).trans fr)) (List.mem_append_left _ (List.mem_append_left _ hw)) ((va_up_nq _ (fun z9 => hq0 (by rw [← z9]; exact hw))).trans ((va_up_nq _ (fun z9 => hqb10 (by rw [← z9]; exact (List.mem_append_left _ hw)))).trans fw)) (List.mem_append_left _ (List.mem_append_left _ hb)) ((va_up_nq _ (fun z9 => hq0 (by rw [← z9]; exact hb))).trans ((va_up_nq _ (fun z9 => hqb10 (by rw [← z9]; exact (List.mem_append_left _ hb)))).trans fb)) (by omega) (by omega) (List.mem_append_left _ (List.mem_append_right _ (List.mem_singleton.mpr rfl))) (va_up_eq _ _ _) (List.mem_append_right _ (List.mem_singleton.mpr rfl)) ((va_up_nq _ (fun z9 => hqb10 (by rw [z9]; exact (List.mem_append_right _ (List.mem_singleton.mpr rfl))))).trans (va_up_eq _ _ _)) (by omega) (fun z9 => hqb10 (by rw [← z9]; exact (List.mem_append_left _ hb))) (by omega) (by omega) (by omega) hgf) (vGV q_600 q_569 q_570 q_28 q_571) ⟨by decide, by decide, (show _ = some 3 from by decide +kernel)⟩ ⟨Nat.le_of_ble_eq_true rfl, Nat.le_of_ble_eq_true rfl⟩ ix21 1 rfl rfl (hix21.trans (by rw [((va_up_nq _ (fun z9 => hq0 (by rw [← z9]; exact hr))).trans ((va_up_nq _ (fun z9 => hqb10 (by rw [← z9]; exact (List.mem_append_left _ hr)))).trans fr))])) rfl (Nat.le_of_ble_eq_true rfl) dX1_nextRow_21 ⟨Nat.le_of_ble_eq_true rfl, Nat.le_of_ble_eq_true rfl⟩ ?_
  refine vWs (ws' := va_pl (((L ++ [q0]) ++ [qb10])) (va_up (va_up (va_up f q0 (.inr (2, [.ref (qb10)]))) qb10 (.inl (k 0, d, .inl (va_cpy g (fun _ => 0) (P) (0) (d))))) r (.inr (1, [.ref (w), .int (nI (s)), .int (nI ((P) + (d))), .int (nI (M)), .int (nI (T)), .int (nI (Mt))])))) (congrArg (fun φ9 => va_pl (((L ++ [q0]) ++ [qb10])) (va_up φ9 r (.inr (1, [.ref (w), .int (nI (s)), .int (nI ((P) + (d))), .int (nI (M)), .int (nI (T)), .int (nI (Mt))])))) va_up_sh) ?_
  refine vPop X dX1_nextRow_24 rfl ?_
  refine vAloadN X dX1_nextRow_25 0 rfl ?_
  exact vRetA X hret dX1_nextRow_26 ⟨q0, qb10, _, _, hq0, (fun z => hqb10 (List.mem_append_left _ z)), (fun a9 ha9 => ⟨(List.mem_append_left _ (List.mem_append_left _ ha9)), fun ne9 => ((va_up_nq _ ne9).trans ((va_up_nq _ (fun z9 => hqb10 (by rw [← z9]; exact (List.mem_append_left _ ha9)))).trans ((va_up_nq _ (fun z9 => hq0 (by rw [← z9]; exact ha9))).trans rfl)))⟩), (va_up_eq _ _ _), (List.mem_append_left _ (List.mem_append_right _ (List.mem_singleton.mpr rfl))), ((va_up_nq _ (fun z9 => hq0 (by rw [z9]; exact hr))).trans ((va_up_nq _ (fun z9 => hqb10 (by rw [← z9]; exact (List.mem_append_right _ (List.mem_singleton.mpr rfl))))).trans (va_up_eq _ _ _))), (List.mem_append_right _ (List.mem_singleton.mpr rfl)), ((va_up_nq _ (fun z9 => hqb10 (by rw [z9]; exact (List.mem_append_left _ hr)))).trans (va_up_eq _ _ _)), rfl, rfl⟩
set_option maxHeartbeats 4000000 in
set_option maxRecDepth 100000 in
theorem cq_init (l : Launch) (D : va_G) (k : Nat → ClassId) (sb : Nat) (L : List Nat) (f : Nat → va_E) (r : Nat) (hr : r ∈ L) (fr : f r = .inr (1, [.null, .int 0, .int 0, .int 0, .int 0, .int 0])) : vCt l yX1_init cX1_init 1 none 3 81 2 257 D vCl (vTy k) sb [.ref (r)] (va_pl L f) (fun v ws' => ∃ (q qb : Nat) (L' : List Nat) (f' : Nat → va_E), q ∉ L ∧ qb ∉ L ∧ (∀ a, a ∈ L → a ∈ L' ∧ (a ≠ r → f' a = f a)) ∧ f' r = .inr (1, [.ref q, .int 0, .int 0, .int 0, .int 0, .int 0]) ∧ q ∈ L' ∧ f' q = .inr (2, [.ref qb]) ∧ qb ∈ L' ∧ f' qb = .inl (k 0, 0, .inl (fun _ => 0)) ∧ v = none ∧ ws' = va_pl L' f') := by
  refine vOf (by decide +kernel) (Nat.le_of_ble_eq_true rfl) (fun p9 e9 s9 m9 below9 meth9 c9 X hret hmn => ?_)
  refine vAloadN X dX1_init_0 0 rfl ?_
  refine vObjInit X (List.mem_cons_of_mem _ q_87) (List.mem_cons_of_mem _ q_48) (List.mem_cons_of_mem _ q_49) (Nat.le_of_ble_eq_true rfl) (Nat.le_of_ble_eq_true rfl) dX1_init_1 ?_
  refine vAloadN X dX1_init_4 0 rfl ?_
  refine vpNew X (C := RX2) (T := TX2) (N := 1) (ci := 2) (fs := [.null]) (vcons inW) tyX2 tyX2_ok (List.mem_cons_of_mem _ q_88) (List.mem_cons_of_mem _ q_52) (List.mem_cons_of_mem _ q_25) rfl (fun j hj => by rcases (show j = 0 by omega) with rfl <;> rfl) (Nat.le_of_ble_eq_true rfl) (Nat.le_of_ble_eq_true rfl) dX1_init_5 (fun q5 hq5 => ?_)
  refine vWiden 1 1 (by omega) (by omega) ?_
  refine vDup X dX1_init_8 rfl ?_
  refine vIconst X dX1_init_9 (v := nI (0)) (by decide) ?_
  refine vCallI X [.ref (q5), .ref (r)] (cr_init l D k sb ((L ++ [q5])) (va_up f q5 (.inr (2, [.null]))) q5 (0) (List.mem_append_right _ (List.mem_singleton.mpr rfl)) (va_up_eq _ _ _) (by omega)) (vGI q_55) rfl (List.mem_cons_of_mem _ q_25) (List.mem_cons_of_mem _ q_89) (List.mem_cons_of_mem _ q_54) ⟨by decide, by decide, (show _ = some 1 from by decide +kernel)⟩ ⟨Nat.le_of_ble_eq_true rfl, Nat.le_of_ble_eq_true rfl⟩ rfl (Nat.le_of_ble_eq_true rfl) dX1_init_10 ⟨Nat.le_of_ble_eq_true rfl, Nat.le_of_ble_eq_true rfl⟩ (fun v9 w9 hp9 => ?_)
  obtain ⟨qb10, hqb10, rfl, rfl⟩ := hp9
  refine vWs (ws' := va_pl (((L ++ [q5]) ++ [qb10])) (va_up (va_up f qb10 (.inl (k 0, 0, .inl (fun _ => 0)))) q5 (.inr (2, [.ref (qb10)])))) (congrArg (fun φ9 => va_pl (((L ++ [q5]) ++ [qb10])) (φ9)) va_up_sh) ?_
  refine vWiden 2 257 (by omega) (by omega) ?_
  refine vpPut X (C := RX1) (T := TX1) (N := 6) (ci := 1) (ty := .object "Bytewell$Row") (vcons inR) tyX1 tyX1_ok nmX1 rfl (List.mem_append_left _ (List.mem_append_left _ hr)) ((va_up_nq _ (fun z9 => hq5 (by rw [← z9]; exact hr))).trans ((va_up_nq _ (fun z9 => hqb10 (by rw [← z9]; exact (List.mem_append_left _ hr)))).trans fr)) 0 (by decide) (List.mem_cons_of_mem _ q_90) (fun _ h => h) rfl (by decide +kernel) rfl rfl (Nat.le_of_ble_eq_true rfl) dX1_init_13 ?_
  exact vRetV X hret dX1_init_16 ⟨q5, qb10, _, _, hq5, (fun z => hqb10 (List.mem_append_left _ z)), (fun a9 ha9 => ⟨(List.mem_append_left _ (List.mem_append_left _ ha9)), fun ne9 => ((va_up_nq _ ne9).trans ((va_up_nq _ (fun z9 => hq5 (by rw [← z9]; exact ha9))).trans ((va_up_nq _ (fun z9 => hqb10 (by rw [← z9]; exact (List.mem_append_left _ ha9)))).trans rfl)))⟩), (va_up_eq _ _ _), (List.mem_append_left _ (List.mem_append_right _ (List.mem_singleton.mpr rfl))), ((va_up_nq _ (fun z9 => hq5 (by rw [z9]; exact hr))).trans (va_up_eq _ _ _)), (List.mem_append_right _ (List.mem_singleton.mpr rfl)), ((va_up_nq _ (fun z9 => hqb10 (by rw [z9]; exact (List.mem_append_left _ hr)))).trans ((va_up_nq _ (fun z9 => hqb10 (by rw [z9]; exact (List.mem_append_right _ (List.mem_singleton.mpr rfl))))).trans (va_up_eq _ _ _))), rfl, rfl⟩
