set_option maxHeartbeats 4000000 in
set_option maxRecDepth 100000 in
theorem cb_make (l : Launch) (D : va_G) (k : Nat → ClassId) (sb : Nat) (L : List Nat) (f : Nat → va_E) (x aW aG aR tr tg : Nat) (gW gG gR : Nat → Option Nat) (r : Nat) (h b n : Nat) (g : Nat → Int32) (m : Nat) (hx : x ∈ L) (fx : f x = .inr (3, [.ref aW, .ref aG, .ref aR, .ref tr, .ref tg])) (haW : aW ∈ L) (faW : f aW = .inl (k 4, 4, .inr (.inr (.inr (.inr gW))))) (haG : aG ∈ L) (faG : f aG = .inl (k 2, 3, .inr (.inr (.inr (.inr gG))))) (haR : aR ∈ L) (faR : f aR = .inl (k 3, 3, .inr (.inr (.inr (.inr gR))))) (hr9 : r < 4) (eh : gW r = some h) (hh : h ∈ L) (fh : f h = .inr (2, [.ref b])) (hb : b ∈ L) (fb : f b = .inl (k 0, n, .inl g)) (hn : n ≤ 256) (hm : m ≤ 256) : vCt l yX3_make cX3_make 4 (some .int) 10 152 2 257 D vCl (vTy k) sb [.ref (x), .int (nI (r)), .int (nI (m))] (va_pl L f) (fun v ws' => ∃ (q qb : Nat) (L' : List Nat) (f' : Nat → va_E), q ∉ L ∧ qb ∉ L ∧ (∀ a, a ∈ L → a ∈ L' ∧ (a ≠ aW → f' a = f a)) ∧ f' aW = .inl (k 4, 4, .inr (.inr (.inr (.inr (va_up gW r (some q)))))) ∧ q ∈ L' ∧ f' q = .inr (2, [.ref qb]) ∧ qb ∈ L' ∧ f' qb = .inl (k 0, m, .inl (fun _ => 0)) ∧ v = some (.int (nI (n))) ∧ ws' = va_pl L' f') := by
  refine vOf (by decide +kernel) (Nat.le_of_ble_eq_true rfl) (fun p9 e9 s9 m9 below9 meth9 c9 X hret hmn => ?_)
  refine vAloadN X dX3_make_0 0 rfl ?_
  refine vIloadN X dX3_make_1 1 rfl ?_
  obtain ⟨ix2, hix2⟩ := vp_ix (f := f) hx
  refine vCallVd X [] (cb_rowAt l D k sb L f x aW aG aR tr tg (gW) (gG) (gR) r h hx fx haW faW haG faG haR faR (by omega) eh) (vGV q_341 q_343 q_3 q_24 q_344) ⟨by decide, by decide, (show _ = some 1 from by decide +kernel)⟩ ⟨Nat.le_of_ble_eq_true rfl, Nat.le_of_ble_eq_true rfl⟩ ix2 3 rfl rfl (hix2.trans (by rw [fx])) rfl (Nat.le_of_ble_eq_true rfl) dX3_make_2 ⟨Nat.le_of_ble_eq_true rfl, Nat.le_of_ble_eq_true rfl⟩ ?_
  refine vAstoreN X [(3, .ref (h)), (0, .ref (x)), (1, .int (nI (r))), (2, .int (nI (m)))] dX3_make_5 (by decide) rfl ?_
  refine vIloadN X dX3_make_6 3 rfl ?_
  refine vIfN_ltF X 17 dX3_make_7 (by decide) (by omega) (by omega) ?_
  refine vIloadN X dX3_make_10 3 rfl ?_
  refine vSipush X dX3_make_11 (v := nI (256)) (by decide) ?_
  refine vIcmpN_leT X 27 dX3_make_14 (by decide) (by omega) (by omega) (by omega) ?_
  refine vAloadN X dX3_make_27 1 rfl ?_
  refine vpGet X (C := RX3) (T := TX3) (N := 5) (ci := 3) (vcons inB) rfl hx fx 0 (by decide) (List.mem_cons_of_mem _ q_109) (fun _ h => h) rfl dX3_make_28 ?_
  refine vIloadN X dX3_make_31 2 rfl ?_
  refine vpNew X (C := RX2) (T := TX2) (N := 1) (ci := 2) (fs := [.null]) (vcons inW) tyX2 tyX2_ok (List.mem_cons_of_mem _ q_50) (List.mem_cons_of_mem _ q_52) (List.mem_cons_of_mem _ q_25) rfl (fun j hj => by rcases (show j = 0 by omega) with rfl <;> rfl) (Nat.le_of_ble_eq_true rfl) (Nat.le_of_ble_eq_true rfl) dX3_make_32 (fun q32 hq32 => ?_)
  refine vWiden 1 1 (by omega) (by omega) ?_
  refine vDup X dX3_make_35 rfl ?_
  refine vIloadN X dX3_make_36 3 rfl ?_
  refine vCallI X [.ref (q32), .int (nI (r)), .ref (aW)] (cr_init l D k sb ((L ++ [q32])) (va_up f q32 (.inr (2, [.null]))) q32 (m) (List.mem_append_right _ (List.mem_singleton.mpr rfl)) (va_up_eq _ _ _) (by omega)) (vGI q_55) rfl (List.mem_cons_of_mem _ q_25) (List.mem_cons_of_mem _ q_53) (List.mem_cons_of_mem _ q_54) ⟨by decide, by decide, (show _ = some 1 from by decide +kernel)⟩ ⟨Nat.le_of_ble_eq_true rfl, Nat.le_of_ble_eq_true rfl⟩ rfl (Nat.le_of_ble_eq_true rfl) dX3_make_37 ⟨Nat.le_of_ble_eq_true rfl, Nat.le_of_ble_eq_true rfl⟩ (fun v9 w9 hp9 => ?_)
  obtain ⟨qb37, hqb37, rfl, rfl⟩ := hp9
  refine vWs (ws' := va_pl (((L ++ [q32]) ++ [qb37])) (va_up (va_up f qb37 (.inl (k 0, m, .inl (fun _ => 0)))) q32 (.inr (2, [.ref (qb37)])))) (congrArg (fun φ9 => va_pl (((L ++ [q32]) ++ [qb37])) (φ9)) va_up_sh) ?_
  refine vWiden 2 257 (by omega) (by omega) ?_
  refine vpAastore X (r := (RX2, TX2, 1)) (g' := va_up gW (r) (some q32)) (List.mem_append_left _ (List.mem_append_left _ haW)) ((va_up_nq _ (fun z9 => hq32 (by rw [← z9]; exact haW))).trans ((va_up_nq _ (fun z9 => hqb37 (by rw [← z9]; exact (List.mem_append_left _ haW)))).trans faW)) 4 rfl (List.mem_append_left _ (List.mem_append_right _ (List.mem_singleton.mpr rfl))) (va_up_eq _ _ _) rfl rfl (by omega) (by omega) rfl dX3_make_40 ?_
  refine vAloadN X dX3_make_41 0 rfl ?_
  obtain ⟨ix42, hix42⟩ := vp_ix (f := va_up (va_up (va_up f qb37 (.inl (k 0, m, .inl (fun _ => 0)))) q32 (.inr (2, [.ref (qb37)]))) aW (.inl (k 4, 4, .inr (.inr (.inr (.inr (va_up gW (r) (some q32)))))))) (List.mem_append_left _ (List.mem_append_left _ hh))
  refine vCallVd X [] (cr_count l D k sb (((L ++ [q32]) ++ [qb37])) (va_up (va_up (va_up f qb37 (.inl (k 0, m, .inl (fun _ => 0)))) q32 (.inr (2, [.ref (qb37)]))) aW (.inl (k 4, 4, .inr (.inr (.inr (.inr (va_up gW (r) (some q32)))))))) h b (n) (g)  (List.mem_append_left _ (List.mem_append_left _ hh)) ((va_up_nq _ (ne_of fh faW (by simp))).trans ((va_up_nq _ (fun z9 => hq32 (by rw [← z9]; exact hh))).trans ((va_up_nq _ (fun z9 => hqb37 (by rw [← z9]; exact (List.mem_append_left _ hh)))).trans fh))) (List.mem_append_left _ (List.mem_append_left _ hb)) ((va_up_nq _ (ne_of fb faW (by simp))).trans ((va_up_nq _ (fun z9 => hq32 (by rw [← z9]; exact hb))).trans ((va_up_nq _ (fun z9 => hqb37 (by rw [← z9]; exact (List.mem_append_left _ hb)))).trans fb))) (by omega) ) (vGV q_131 q_132 q_133 q_25 q_134) ⟨by decide, by decide, (show _ = some 0 from by decide +kernel)⟩ ⟨Nat.le_of_ble_eq_true rfl, Nat.le_of_ble_eq_true rfl⟩ ix42 2 rfl rfl (hix42.trans (by rw [((va_up_nq _ (ne_of fh faW (by simp))).trans ((va_up_nq _ (fun z9 => hq32 (by rw [← z9]; exact hh))).trans ((va_up_nq _ (fun z9 => hqb37 (by rw [← z9]; exact (List.mem_append_left _ hh)))).trans fh)))])) rfl (Nat.le_of_ble_eq_true rfl) dX3_make_42 ⟨Nat.le_of_ble_eq_true rfl, Nat.le_of_ble_eq_true rfl⟩ ?_
  exact vRetI X hret dX3_make_45 ⟨q32, qb37, _, _, hq32, (fun z => hqb37 (List.mem_append_left _ z)), (fun a9 ha9 => ⟨(List.mem_append_left _ (List.mem_append_left _ ha9)), fun ne9 => ((va_up_nq _ ne9).trans ((va_up_nq _ (fun z9 => hq32 (by rw [← z9]; exact ha9))).trans ((va_up_nq _ (fun z9 => hqb37 (by rw [← z9]; exact (List.mem_append_left _ ha9)))).trans rfl)))⟩), (va_up_eq _ _ _), (List.mem_append_left _ (List.mem_append_right _ (List.mem_singleton.mpr rfl))), ((va_up_nq _ (fun z9 => hq32 (by rw [z9]; exact haW))).trans (va_up_eq _ _ _)), (List.mem_append_right _ (List.mem_singleton.mpr rfl)), ((va_up_nq _ (fun z9 => hqb37 (by rw [z9]; exact (List.mem_append_left _ haW)))).trans ((va_up_nq _ (fun z9 => hqb37 (by rw [z9]; exact (List.mem_append_right _ (List.mem_singleton.mpr rfl))))).trans (va_up_eq _ _ _))), rfl, rfl⟩
set_option maxHeartbeats 4000000 in
set_option maxRecDepth 100000 in
theorem ct_make1 (l : Launch) (D : va_G) (k : Nat → ClassId) (sb : Nat) (L : List Nat) (f : Nat → va_E) (x aW aG aR tr tg : Nat) (gW gG gR : Nat → Option Nat) (v z : Int32) (hl : l.stackTraces = false) (hx : x ∈ L) (fx : f x = .inr (3, [.ref aW, .ref aG, .ref aR, .ref tr, .ref tg])) (haW : aW ∈ L) (faW : f aW = .inl (k 4, 4, .inr (.inr (.inr (.inr gW))))) (haG : aG ∈ L) (faG : f aG = .inl (k 2, 3, .inr (.inr (.inr (.inr gG))))) (haR : aR ∈ L) (faR : f aR = .inl (k 3, 3, .inr (.inr (.inr (.inr gR))))) (hv : ¬ vRow v) : vCtX l yX3_make cX3_make 4 (some .int) 10 152 1 6 D vCl (vTy k) sb [.ref (x), .int (v), .int (z)] (va_pl L f) "java/lang/IndexOutOfBoundsException" := by
  refine vOfX (by decide +kernel) (Nat.le_of_ble_eq_true rfl) (fun p9 e9 s9 m9 below9 meth9 c9 X hE hnt => ?_)
  refine vAloadN X dX3_make_0 0 rfl ?_
  refine vIloadN X dX3_make_1 1 rfl ?_
  obtain ⟨ix2, hix2⟩ := vp_ix (f := f) hx
  exact vCallVT X hE hnt [] (ct_rowAt l D k sb L f x aW aG aR tr tg (gW) (gG) (gR) v hl hx fx haW faW haG faG haR faR hv) (vGV q_341 q_343 q_3 q_24 q_344) ⟨by decide, by decide, (show _ = some 1 from by decide +kernel)⟩ ⟨Nat.le_of_ble_eq_true rfl, Nat.le_of_ble_eq_true rfl⟩ ix2 3 rfl rfl (hix2.trans (by rw [fx])) rfl (Nat.le_of_ble_eq_true rfl) dX3_make_2 ⟨(Nat.le_of_ble_eq_true rfl), (Nat.le_of_ble_eq_true rfl)⟩ (Nat.le_of_ble_eq_true rfl) (Nat.le_of_ble_eq_true rfl)
set_option maxHeartbeats 4000000 in
set_option maxRecDepth 100000 in
theorem ct_make2a (l : Launch) (D : va_G) (k : Nat → ClassId) (sb : Nat) (L : List Nat) (f : Nat → va_E) (x aW aG aR tr tg : Nat) (gW gG gR : Nat → Option Nat) (r : Nat) (h b n : Nat) (g : Nat → Int32) (z : Int32) (hl : l.stackTraces = false) (hx : x ∈ L) (fx : f x = .inr (3, [.ref aW, .ref aG, .ref aR, .ref tr, .ref tg])) (haW : aW ∈ L) (faW : f aW = .inl (k 4, 4, .inr (.inr (.inr (.inr gW))))) (haG : aG ∈ L) (faG : f aG = .inl (k 2, 3, .inr (.inr (.inr (.inr gG))))) (haR : aR ∈ L) (faR : f aR = .inl (k 3, 3, .inr (.inr (.inr (.inr gR))))) (hr9 : r < 4) (eh : gW r = some h) (hh : h ∈ L) (fh : f h = .inr (2, [.ref b])) (hb : b ∈ L) (fb : f b = .inl (k 0, n, .inl g)) (hn : n ≤ 256) (hz : z < nI 0) : vCtX l yX3_make cX3_make 4 (some .int) 10 152 1 6 D vCl (vTy k) sb [.ref (x), .int (nI (r)), .int (z)] (va_pl L f) "java/lang/IllegalArgumentException" := by
  refine vOfX (by decide +kernel) (Nat.le_of_ble_eq_true rfl) (fun p9 e9 s9 m9 below9 meth9 c9 X hE hnt => ?_)
  refine vAloadN X dX3_make_0 0 rfl ?_
  refine vIloadN X dX3_make_1 1 rfl ?_
  obtain ⟨ix2, hix2⟩ := vp_ix (f := f) hx
  refine vCallVd X [] (cb_rowAt l D k sb L f x aW aG aR tr tg (gW) (gG) (gR) r h hx fx haW faW haG faG haR faR (by omega) eh) (vGV q_341 q_343 q_3 q_24 q_344) ⟨by decide, by decide, (show _ = some 1 from by decide +kernel)⟩ ⟨Nat.le_of_ble_eq_true rfl, Nat.le_of_ble_eq_true rfl⟩ ix2 3 rfl rfl (hix2.trans (by rw [fx])) rfl (Nat.le_of_ble_eq_true rfl) dX3_make_2 ⟨Nat.le_of_ble_eq_true rfl, Nat.le_of_ble_eq_true rfl⟩ ?_
  refine vAstoreN X [(3, .ref (h)), (0, .ref (x)), (1, .int (nI (r))), (2, .int (z))] dX3_make_5 (by decide) rfl ?_
  refine vIloadN X dX3_make_6 3 rfl ?_
  refine vIf_ltT X 17 dX3_make_7 (by decide) (by first | assumption | exact Int32.not_lt.mpr (by assumption) | exact Int32.not_le.mpr (by assumption) | exact Int32.not_lt.mp (by assumption) | exact Int32.not_le.mp (by assumption) | decide) ?_
  exact vThrowS X hE hl hnt (by decide +kernel) q_362 q_36 t_371 xg1_48 xg2_48 xg3_48 dX3_make_17 dX3_make_20 dX3_make_21 dX3_make_23 dX3_make_26 (Nat.le_of_ble_eq_true rfl) (Nat.le_of_ble_eq_true rfl) (Nat.le_of_ble_eq_true rfl) (Nat.le_of_ble_eq_true rfl) (Nat.le_of_ble_eq_true rfl) (Nat.le_of_ble_eq_true rfl)
set_option maxHeartbeats 4000000 in
set_option maxRecDepth 100000 in
theorem ct_make2b (l : Launch) (D : va_G) (k : Nat → ClassId) (sb : Nat) (L : List Nat) (f : Nat → va_E) (x aW aG aR tr tg : Nat) (gW gG gR : Nat → Option Nat) (r : Nat) (h b n : Nat) (g : Nat → Int32) (z : Int32) (hl : l.stackTraces = false) (hx : x ∈ L) (fx : f x = .inr (3, [.ref aW, .ref aG, .ref aR, .ref tr, .ref tg])) (haW : aW ∈ L) (faW : f aW = .inl (k 4, 4, .inr (.inr (.inr (.inr gW))))) (haG : aG ∈ L) (faG : f aG = .inl (k 2, 3, .inr (.inr (.inr (.inr gG))))) (haR : aR ∈ L) (faR : f aR = .inl (k 3, 3, .inr (.inr (.inr (.inr gR))))) (hr9 : r < 4) (eh : gW r = some h) (hh : h ∈ L) (fh : f h = .inr (2, [.ref b])) (hb : b ∈ L) (fb : f b = .inl (k 0, n, .inl g)) (hn : n ≤ 256) (hz0 : nI 0 ≤ z) (hz : nI 256 < z) : vCtX l yX3_make cX3_make 4 (some .int) 10 152 1 6 D vCl (vTy k) sb [.ref (x), .int (nI (r)), .int (z)] (va_pl L f) "java/lang/IllegalArgumentException" := by
  refine vOfX (by decide +kernel) (Nat.le_of_ble_eq_true rfl) (fun p9 e9 s9 m9 below9 meth9 c9 X hE hnt => ?_)
  refine vAloadN X dX3_make_0 0 rfl ?_
  refine vIloadN X dX3_make_1 1 rfl ?_
  obtain ⟨ix2, hix2⟩ := vp_ix (f := f) hx
  refine vCallVd X [] (cb_rowAt l D k sb L f x aW aG aR tr tg (gW) (gG) (gR) r h hx fx haW faW haG faG haR faR (by omega) eh) (vGV q_341 q_343 q_3 q_24 q_344) ⟨by decide, by decide, (show _ = some 1 from by decide +kernel)⟩ ⟨Nat.le_of_ble_eq_true rfl, Nat.le_of_ble_eq_true rfl⟩ ix2 3 rfl rfl (hix2.trans (by rw [fx])) rfl (Nat.le_of_ble_eq_true rfl) dX3_make_2 ⟨Nat.le_of_ble_eq_true rfl, Nat.le_of_ble_eq_true rfl⟩ ?_
  refine vAstoreN X [(3, .ref (h)), (0, .ref (x)), (1, .int (nI (r))), (2, .int (z))] dX3_make_5 (by decide) rfl ?_
  refine vIloadN X dX3_make_6 3 rfl ?_
  refine vIf_ltF X 17 dX3_make_7 (by decide) (by first | assumption | exact Int32.not_lt.mpr (by assumption) | exact Int32.not_le.mpr (by assumption) | exact Int32.not_lt.mp (by assumption) | exact Int32.not_le.mp (by assumption) | decide) ?_
  refine vIloadN X dX3_make_10 3 rfl ?_
  refine vSipush X dX3_make_11 (v := nI (256)) (by decide) ?_
  refine vIcmp_leF X 27 dX3_make_14 (by decide) (by first | assumption | exact Int32.not_lt.mpr (by assumption) | exact Int32.not_le.mpr (by assumption) | exact Int32.not_lt.mp (by assumption) | exact Int32.not_le.mp (by assumption) | decide) ?_
  exact vThrowS X hE hl hnt (by decide +kernel) q_362 q_36 t_371 xg1_48 xg2_48 xg3_48 dX3_make_17 dX3_make_20 dX3_make_21 dX3_make_23 dX3_make_26 (Nat.le_of_ble_eq_true rfl) (Nat.le_of_ble_eq_true rfl) (Nat.le_of_ble_eq_true rfl) (Nat.le_of_ble_eq_true rfl) (Nat.le_of_ble_eq_true rfl) (Nat.le_of_ble_eq_true rfl)
set_option maxHeartbeats 4000000 in
set_option maxRecDepth 100000 in
theorem cb_lend (l : Launch) (D : va_G) (k : Nat → ClassId) (sb : Nat) (L : List Nat) (f : Nat → va_E) (x aW aG aR tr tg : Nat) (gW gG gR : Nat → Option Nat) (r : Nat) (h b n : Nat) (g : Nat → Int32) (u : Nat) (h2 b2 n2 : Nat) (g2 : Nat → Int32) (hx : x ∈ L) (fx : f x = .inr (3, [.ref aW, .ref aG, .ref aR, .ref tr, .ref tg])) (haW : aW ∈ L) (faW : f aW = .inl (k 4, 4, .inr (.inr (.inr (.inr gW))))) (haG : aG ∈ L) (faG : f aG = .inl (k 2, 3, .inr (.inr (.inr (.inr gG))))) (haR : aR ∈ L) (faR : f aR = .inl (k 3, 3, .inr (.inr (.inr (.inr gR))))) (hr9 : r < 4) (eh : gW r = some h) (hh : h ∈ L) (fh : f h = .inr (2, [.ref b])) (hb : b ∈ L) (fb : f b = .inl (k 0, n, .inl g)) (hn : n ≤ 256) (hu9 : u < 4) (eh2 : gW u = some h2) (hh2 : h2 ∈ L) (fh2 : f h2 = .inr (2, [.ref b2])) (hb2 : b2 ∈ L) (fb2 : f b2 = .inl (k 0, n2, .inl g2)) (hn2 : n2 ≤ 256) : vCt l yX3_lend cX3_lend 5 (some .int) 10 152 0 0 D vCl (vTy k) sb [.ref (x), .int (nI (r)), .int (nI (u))] (va_pl L f) (vDet (some (.int (nI (n2)))) (va_pl L (va_up f aW (.inl (k 4, 4, .inr (.inr (.inr (.inr (va_up gW (u) (some h)))))))))) := by
  refine vOf (by decide +kernel) (Nat.le_of_ble_eq_true rfl) (fun p9 e9 s9 m9 below9 meth9 c9 X hret hmn => ?_)
  refine vAloadN X dX3_lend_0 0 rfl ?_
  refine vIloadN X dX3_lend_1 1 rfl ?_
  obtain ⟨ix2, hix2⟩ := vp_ix (f := f) hx
  refine vCallVd X [] (cb_rowAt l D k sb L f x aW aG aR tr tg (gW) (gG) (gR) r h hx fx haW faW haG faG haR faR (by omega) eh) (vGV q_341 q_343 q_3 q_24 q_344) ⟨by decide, by decide, (show _ = some 1 from by decide +kernel)⟩ ⟨Nat.le_of_ble_eq_true rfl, Nat.le_of_ble_eq_true rfl⟩ ix2 3 rfl rfl (hix2.trans (by rw [fx])) rfl (Nat.le_of_ble_eq_true rfl) dX3_lend_2 ⟨Nat.le_of_ble_eq_true rfl, Nat.le_of_ble_eq_true rfl⟩ ?_
  refine vAstoreN X [(3, .ref (h)), (0, .ref (x)), (1, .int (nI (r))), (2, .int (nI (u)))] dX3_lend_5 (by decide) rfl ?_
  refine vAloadN X dX3_lend_6 1 rfl ?_
  refine vIloadN X dX3_lend_7 3 rfl ?_
  obtain ⟨ix8, hix8⟩ := vp_ix (f := f) hx
  refine vCallVd X [] (cb_rowAt l D k sb L f x aW aG aR tr tg (gW) (gG) (gR) u h2 hx fx haW faW haG faG haR faR (by omega) eh2) (vGV q_341 q_343 q_3 q_24 q_344) ⟨by decide, by decide, (show _ = some 1 from by decide +kernel)⟩ ⟨Nat.le_of_ble_eq_true rfl, Nat.le_of_ble_eq_true rfl⟩ ix8 3 rfl rfl (hix8.trans (by rw [fx])) rfl (Nat.le_of_ble_eq_true rfl) dX3_lend_8 ⟨Nat.le_of_ble_eq_true rfl, Nat.le_of_ble_eq_true rfl⟩ ?_
  refine vAstore X [(4, .ref (h2)), (3, .ref (h)), (0, .ref (x)), (1, .int (nI (r))), (2, .int (nI (u)))] dX3_lend_11 (by decide) rfl ?_
  refine vAloadN X dX3_lend_13 2 rfl ?_
  refine vpGet X (C := RX3) (T := TX3) (N := 5) (ci := 3) (vcons inB) rfl hx fx 0 (by decide) (List.mem_cons_of_mem _ q_109) (fun _ h => h) rfl dX3_lend_14 ?_
  refine vIloadN X dX3_lend_17 4 rfl ?_
  refine vAloadN X dX3_lend_18 1 rfl ?_
  refine vpAastore X (r := (RX2, TX2, 1)) (g' := va_up gW (u) (some h)) haW faW 4 rfl hh fh rfl rfl (by omega) (by omega) rfl dX3_lend_19 ?_
  refine vAload X dX3_lend_20 0 rfl ?_
  obtain ⟨ix22, hix22⟩ := vp_ix (f := va_up f aW (.inl (k 4, 4, .inr (.inr (.inr (.inr (va_up gW (u) (some h)))))))) hh2
  refine vCallVd X [] (cr_count l D k sb L (va_up f aW (.inl (k 4, 4, .inr (.inr (.inr (.inr (va_up gW (u) (some h)))))))) h2 b2 (n2) (g2)  hh2 ((va_up_nq _ (ne_of fh2 faW (by simp))).trans fh2) hb2 ((va_up_nq _ (ne_of fb2 faW (by simp))).trans fb2) (by omega) ) (vGV q_131 q_132 q_133 q_25 q_134) ⟨by decide, by decide, (show _ = some 0 from by decide +kernel)⟩ ⟨Nat.le_of_ble_eq_true rfl, Nat.le_of_ble_eq_true rfl⟩ ix22 2 rfl rfl (hix22.trans (by rw [((va_up_nq _ (ne_of fh2 faW (by simp))).trans fh2)])) rfl (Nat.le_of_ble_eq_true rfl) dX3_lend_22 ⟨Nat.le_of_ble_eq_true rfl, Nat.le_of_ble_eq_true rfl⟩ ?_
  exact vRetI X hret dX3_lend_25 ⟨rfl, rfl⟩
set_option maxHeartbeats 4000000 in
set_option maxRecDepth 100000 in
theorem ct_lend1 (l : Launch) (D : va_G) (k : Nat → ClassId) (sb : Nat) (L : List Nat) (f : Nat → va_E) (x aW aG aR tr tg : Nat) (gW gG gR : Nat → Option Nat) (v z : Int32) (hl : l.stackTraces = false) (hx : x ∈ L) (fx : f x = .inr (3, [.ref aW, .ref aG, .ref aR, .ref tr, .ref tg])) (haW : aW ∈ L) (faW : f aW = .inl (k 4, 4, .inr (.inr (.inr (.inr gW))))) (haG : aG ∈ L) (faG : f aG = .inl (k 2, 3, .inr (.inr (.inr (.inr gG))))) (haR : aR ∈ L) (faR : f aR = .inl (k 3, 3, .inr (.inr (.inr (.inr gR))))) (hv : ¬ vRow v) : vCtX l yX3_lend cX3_lend 5 (some .int) 10 152 1 6 D vCl (vTy k) sb [.ref (x), .int (v), .int (z)] (va_pl L f) "java/lang/IndexOutOfBoundsException" := by
  refine vOfX (by decide +kernel) (Nat.le_of_ble_eq_true rfl) (fun p9 e9 s9 m9 below9 meth9 c9 X hE hnt => ?_)
  refine vAloadN X dX3_lend_0 0 rfl ?_
  refine vIloadN X dX3_lend_1 1 rfl ?_
  obtain ⟨ix2, hix2⟩ := vp_ix (f := f) hx
  exact vCallVT X hE hnt [] (ct_rowAt l D k sb L f x aW aG aR tr tg (gW) (gG) (gR) v hl hx fx haW faW haG faG haR faR hv) (vGV q_341 q_343 q_3 q_24 q_344) ⟨by decide, by decide, (show _ = some 1 from by decide +kernel)⟩ ⟨Nat.le_of_ble_eq_true rfl, Nat.le_of_ble_eq_true rfl⟩ ix2 3 rfl rfl (hix2.trans (by rw [fx])) rfl (Nat.le_of_ble_eq_true rfl) dX3_lend_2 ⟨(Nat.le_of_ble_eq_true rfl), (Nat.le_of_ble_eq_true rfl)⟩ (Nat.le_of_ble_eq_true rfl) (Nat.le_of_ble_eq_true rfl)
set_option maxHeartbeats 4000000 in
set_option maxRecDepth 100000 in
theorem ct_lend2 (l : Launch) (D : va_G) (k : Nat → ClassId) (sb : Nat) (L : List Nat) (f : Nat → va_E) (x aW aG aR tr tg : Nat) (gW gG gR : Nat → Option Nat) (r : Nat) (h b n : Nat) (g : Nat → Int32) (z : Int32) (hl : l.stackTraces = false) (hx : x ∈ L) (fx : f x = .inr (3, [.ref aW, .ref aG, .ref aR, .ref tr, .ref tg])) (haW : aW ∈ L) (faW : f aW = .inl (k 4, 4, .inr (.inr (.inr (.inr gW))))) (haG : aG ∈ L) (faG : f aG = .inl (k 2, 3, .inr (.inr (.inr (.inr gG))))) (haR : aR ∈ L) (faR : f aR = .inl (k 3, 3, .inr (.inr (.inr (.inr gR))))) (hr9 : r < 4) (eh : gW r = some h) (hh : h ∈ L) (fh : f h = .inr (2, [.ref b])) (hb : b ∈ L) (fb : f b = .inl (k 0, n, .inl g)) (hn : n ≤ 256) (hz : ¬ vRow z) : vCtX l yX3_lend cX3_lend 5 (some .int) 10 152 1 6 D vCl (vTy k) sb [.ref (x), .int (nI (r)), .int (z)] (va_pl L f) "java/lang/IndexOutOfBoundsException" := by
  refine vOfX (by decide +kernel) (Nat.le_of_ble_eq_true rfl) (fun p9 e9 s9 m9 below9 meth9 c9 X hE hnt => ?_)
  refine vAloadN X dX3_lend_0 0 rfl ?_
  refine vIloadN X dX3_lend_1 1 rfl ?_
  obtain ⟨ix2, hix2⟩ := vp_ix (f := f) hx
  refine vCallVd X [] (cb_rowAt l D k sb L f x aW aG aR tr tg (gW) (gG) (gR) r h hx fx haW faW haG faG haR faR (by omega) eh) (vGV q_341 q_343 q_3 q_24 q_344) ⟨by decide, by decide, (show _ = some 1 from by decide +kernel)⟩ ⟨Nat.le_of_ble_eq_true rfl, Nat.le_of_ble_eq_true rfl⟩ ix2 3 rfl rfl (hix2.trans (by rw [fx])) rfl (Nat.le_of_ble_eq_true rfl) dX3_lend_2 ⟨Nat.le_of_ble_eq_true rfl, Nat.le_of_ble_eq_true rfl⟩ ?_
  refine vAstoreN X [(3, .ref (h)), (0, .ref (x)), (1, .int (nI (r))), (2, .int (z))] dX3_lend_5 (by decide) rfl ?_
  refine vAloadN X dX3_lend_6 1 rfl ?_
  refine vIloadN X dX3_lend_7 3 rfl ?_
  obtain ⟨ix8, hix8⟩ := vp_ix (f := f) hx
  exact vCallVT X hE hnt [] (ct_rowAt l D k sb L f x aW aG aR tr tg (gW) (gG) (gR) z hl hx fx haW faW haG faG haR faR hz) (vGV q_341 q_343 q_3 q_24 q_344) ⟨by decide, by decide, (show _ = some 1 from by decide +kernel)⟩ ⟨Nat.le_of_ble_eq_true rfl, Nat.le_of_ble_eq_true rfl⟩ ix8 3 rfl rfl (hix8.trans (by rw [fx])) rfl (Nat.le_of_ble_eq_true rfl) dX3_lend_8 ⟨(Nat.le_of_ble_eq_true rfl), (Nat.le_of_ble_eq_true rfl)⟩ (Nat.le_of_ble_eq_true rfl) (Nat.le_of_ble_eq_true rfl)
set_option maxHeartbeats 4000000 in
set_option maxRecDepth 100000 in
theorem cb_length (l : Launch) (D : va_G) (k : Nat → ClassId) (sb : Nat) (L : List Nat) (f : Nat → va_E) (x aW aG aR tr tg : Nat) (gW gG gR : Nat → Option Nat) (r : Nat) (h b n : Nat) (g : Nat → Int32) (hx : x ∈ L) (fx : f x = .inr (3, [.ref aW, .ref aG, .ref aR, .ref tr, .ref tg])) (haW : aW ∈ L) (faW : f aW = .inl (k 4, 4, .inr (.inr (.inr (.inr gW))))) (haG : aG ∈ L) (faG : f aG = .inl (k 2, 3, .inr (.inr (.inr (.inr gG))))) (haR : aR ∈ L) (faR : f aR = .inl (k 3, 3, .inr (.inr (.inr (.inr gR))))) (hr9 : r < 4) (eh : gW r = some h) (hh : h ∈ L) (fh : f h = .inr (2, [.ref b])) (hb : b ∈ L) (fb : f b = .inl (k 0, n, .inl g)) (hn : n ≤ 256) : vCt l yX3_length cX3_length 2 (some .int) 10 152 0 0 D vCl (vTy k) sb [.ref (x), .int (nI (r))] (va_pl L f) (vDet (some (.int (nI (n)))) (va_pl L f)) := by
  refine vOf (by decide +kernel) (Nat.le_of_ble_eq_true rfl) (fun p9 e9 s9 m9 below9 meth9 c9 X hret hmn => ?_)
  refine vAloadN X dX3_length_0 0 rfl ?_
  refine vIloadN X dX3_length_1 1 rfl ?_
  obtain ⟨ix2, hix2⟩ := vp_ix (f := f) hx
  refine vCallVd X [] (cb_rowAt l D k sb L f x aW aG aR tr tg (gW) (gG) (gR) r h hx fx haW faW haG faG haR faR (by omega) eh) (vGV q_341 q_343 q_3 q_24 q_344) ⟨by decide, by decide, (show _ = some 1 from by decide +kernel)⟩ ⟨Nat.le_of_ble_eq_true rfl, Nat.le_of_ble_eq_true rfl⟩ ix2 3 rfl rfl (hix2.trans (by rw [fx])) rfl (Nat.le_of_ble_eq_true rfl) dX3_length_2 ⟨Nat.le_of_ble_eq_true rfl, Nat.le_of_ble_eq_true rfl⟩ ?_
  obtain ⟨ix5, hix5⟩ := vp_ix (f := f) hh
  refine vCallVd X [] (cr_count l D k sb L f h b (n) (g)  hh fh hb fb (by omega) ) (vGV q_131 q_132 q_133 q_25 q_134) ⟨by decide, by decide, (show _ = some 0 from by decide +kernel)⟩ ⟨Nat.le_of_ble_eq_true rfl, Nat.le_of_ble_eq_true rfl⟩ ix5 2 rfl rfl (hix5.trans (by rw [fh])) rfl (Nat.le_of_ble_eq_true rfl) dX3_length_5 ⟨Nat.le_of_ble_eq_true rfl, Nat.le_of_ble_eq_true rfl⟩ ?_
  exact vRetI X hret dX3_length_8 ⟨rfl, rfl⟩
set_option maxHeartbeats 4000000 in
set_option maxRecDepth 100000 in
theorem ct_length1 (l : Launch) (D : va_G) (k : Nat → ClassId) (sb : Nat) (L : List Nat) (f : Nat → va_E) (x aW aG aR tr tg : Nat) (gW gG gR : Nat → Option Nat) (v : Int32) (hl : l.stackTraces = false) (hx : x ∈ L) (fx : f x = .inr (3, [.ref aW, .ref aG, .ref aR, .ref tr, .ref tg])) (haW : aW ∈ L) (faW : f aW = .inl (k 4, 4, .inr (.inr (.inr (.inr gW))))) (haG : aG ∈ L) (faG : f aG = .inl (k 2, 3, .inr (.inr (.inr (.inr gG))))) (haR : aR ∈ L) (faR : f aR = .inl (k 3, 3, .inr (.inr (.inr (.inr gR))))) (hv : ¬ vRow v) : vCtX l yX3_length cX3_length 2 (some .int) 10 152 1 6 D vCl (vTy k) sb [.ref (x), .int (v)] (va_pl L f) "java/lang/IndexOutOfBoundsException" := by
  refine vOfX (by decide +kernel) (Nat.le_of_ble_eq_true rfl) (fun p9 e9 s9 m9 below9 meth9 c9 X hE hnt => ?_)
  refine vAloadN X dX3_length_0 0 rfl ?_
  refine vIloadN X dX3_length_1 1 rfl ?_
  obtain ⟨ix2, hix2⟩ := vp_ix (f := f) hx
  exact vCallVT X hE hnt [] (ct_rowAt l D k sb L f x aW aG aR tr tg (gW) (gG) (gR) v hl hx fx haW faW haG faG haR faR hv) (vGV q_341 q_343 q_3 q_24 q_344) ⟨by decide, by decide, (show _ = some 1 from by decide +kernel)⟩ ⟨Nat.le_of_ble_eq_true rfl, Nat.le_of_ble_eq_true rfl⟩ ix2 3 rfl rfl (hix2.trans (by rw [fx])) rfl (Nat.le_of_ble_eq_true rfl) dX3_length_2 ⟨(Nat.le_of_ble_eq_true rfl), (Nat.le_of_ble_eq_true rfl)⟩ (Nat.le_of_ble_eq_true rfl) (Nat.le_of_ble_eq_true rfl)
set_option maxHeartbeats 4000000 in
set_option maxRecDepth 100000 in
theorem cb_get (l : Launch) (D : va_G) (k : Nat → ClassId) (sb : Nat) (L : List Nat) (f : Nat → va_E) (x aW aG aR tr tg : Nat) (gW gG gR : Nat → Option Nat) (r : Nat) (h b n : Nat) (g : Nat → Int32) (i : Nat) (hx : x ∈ L) (fx : f x = .inr (3, [.ref aW, .ref aG, .ref aR, .ref tr, .ref tg])) (haW : aW ∈ L) (faW : f aW = .inl (k 4, 4, .inr (.inr (.inr (.inr gW))))) (haG : aG ∈ L) (faG : f aG = .inl (k 2, 3, .inr (.inr (.inr (.inr gG))))) (haR : aR ∈ L) (faR : f aR = .inl (k 3, 3, .inr (.inr (.inr (.inr gR))))) (hr9 : r < 4) (eh : gW r = some h) (hh : h ∈ L) (fh : f h = .inr (2, [.ref b])) (hb : b ∈ L) (fb : f b = .inl (k 0, n, .inl g)) (hn : n ≤ 256) (hi : i + 1 ≤ n) : vCt l yX3_get cX3_get 4 (some .int) 10 152 0 0 D vCl (vTy k) sb [.ref (x), .int (nI (r)), .int (nI (i))] (va_pl L f) (vDet (some (.int (g i))) (va_pl L f)) := by
  refine vOf (by decide +kernel) (Nat.le_of_ble_eq_true rfl) (fun p9 e9 s9 m9 below9 meth9 c9 X hret hmn => ?_)
  refine vAloadN X dX3_get_0 0 rfl ?_
  refine vIloadN X dX3_get_1 1 rfl ?_
  obtain ⟨ix2, hix2⟩ := vp_ix (f := f) hx
  refine vCallVd X [] (cb_rowAt l D k sb L f x aW aG aR tr tg (gW) (gG) (gR) r h hx fx haW faW haG faG haR faR (by omega) eh) (vGV q_341 q_343 q_3 q_24 q_344) ⟨by decide, by decide, (show _ = some 1 from by decide +kernel)⟩ ⟨Nat.le_of_ble_eq_true rfl, Nat.le_of_ble_eq_true rfl⟩ ix2 3 rfl rfl (hix2.trans (by rw [fx])) rfl (Nat.le_of_ble_eq_true rfl) dX3_get_2 ⟨Nat.le_of_ble_eq_true rfl, Nat.le_of_ble_eq_true rfl⟩ ?_
  refine vAstoreN X [(3, .ref (h)), (0, .ref (x)), (1, .int (nI (r))), (2, .int (nI (i)))] dX3_get_5 (by decide) rfl ?_
  refine vAloadN X dX3_get_6 0 rfl ?_
  refine vIloadN X dX3_get_7 3 rfl ?_
  refine vIconst X dX3_get_8 (v := nI (1)) (by decide) ?_
  refine vCallSd X [] (cb_needPlaces l D k sb L f h b (n) (g) (i) (1) hh fh hb fb (by omega) (by omega)) (vGS q_399 q_400 q_24 q_401) rfl ⟨by decide, by decide, (show _ = some 3 from by decide +kernel)⟩ ⟨Nat.le_of_ble_eq_true rfl, Nat.le_of_ble_eq_true rfl⟩ rfl (Nat.le_of_ble_eq_true rfl) dX3_get_9 ⟨Nat.le_of_ble_eq_true rfl, Nat.le_of_ble_eq_true rfl⟩ ?_
  refine vAloadN X dX3_get_12 0 rfl ?_
  refine vIloadN X dX3_get_13 3 rfl ?_
  obtain ⟨ix14, hix14⟩ := vp_ix (f := f) hh
  refine vCallVd X [] (cr_byteAt l D k sb L f h b (n) (g) i hh fh hb fb (by omega) (by omega)) (vGV q_404 q_141 q_142 q_25 q_143) ⟨by decide, by decide, (show _ = some 1 from by decide +kernel)⟩ ⟨Nat.le_of_ble_eq_true rfl, Nat.le_of_ble_eq_true rfl⟩ ix14 2 rfl rfl (hix14.trans (by rw [fh])) rfl (Nat.le_of_ble_eq_true rfl) dX3_get_14 ⟨Nat.le_of_ble_eq_true rfl, Nat.le_of_ble_eq_true rfl⟩ ?_
  exact vRetI X hret dX3_get_17 ⟨rfl, rfl⟩
set_option maxHeartbeats 4000000 in
set_option maxRecDepth 100000 in
theorem ct_get1 (l : Launch) (D : va_G) (k : Nat → ClassId) (sb : Nat) (L : List Nat) (f : Nat → va_E) (x aW aG aR tr tg : Nat) (gW gG gR : Nat → Option Nat) (v z : Int32) (hl : l.stackTraces = false) (hx : x ∈ L) (fx : f x = .inr (3, [.ref aW, .ref aG, .ref aR, .ref tr, .ref tg])) (haW : aW ∈ L) (faW : f aW = .inl (k 4, 4, .inr (.inr (.inr (.inr gW))))) (haG : aG ∈ L) (faG : f aG = .inl (k 2, 3, .inr (.inr (.inr (.inr gG))))) (haR : aR ∈ L) (faR : f aR = .inl (k 3, 3, .inr (.inr (.inr (.inr gR))))) (hv : ¬ vRow v) : vCtX l yX3_get cX3_get 4 (some .int) 10 152 1 6 D vCl (vTy k) sb [.ref (x), .int (v), .int (z)] (va_pl L f) "java/lang/IndexOutOfBoundsException" := by
  refine vOfX (by decide +kernel) (Nat.le_of_ble_eq_true rfl) (fun p9 e9 s9 m9 below9 meth9 c9 X hE hnt => ?_)
  refine vAloadN X dX3_get_0 0 rfl ?_
  refine vIloadN X dX3_get_1 1 rfl ?_
  obtain ⟨ix2, hix2⟩ := vp_ix (f := f) hx
  exact vCallVT X hE hnt [] (ct_rowAt l D k sb L f x aW aG aR tr tg (gW) (gG) (gR) v hl hx fx haW faW haG faG haR faR hv) (vGV q_341 q_343 q_3 q_24 q_344) ⟨by decide, by decide, (show _ = some 1 from by decide +kernel)⟩ ⟨Nat.le_of_ble_eq_true rfl, Nat.le_of_ble_eq_true rfl⟩ ix2 3 rfl rfl (hix2.trans (by rw [fx])) rfl (Nat.le_of_ble_eq_true rfl) dX3_get_2 ⟨(Nat.le_of_ble_eq_true rfl), (Nat.le_of_ble_eq_true rfl)⟩ (Nat.le_of_ble_eq_true rfl) (Nat.le_of_ble_eq_true rfl)
set_option maxHeartbeats 4000000 in
set_option maxRecDepth 100000 in
theorem ct_get2 (l : Launch) (D : va_G) (k : Nat → ClassId) (sb : Nat) (L : List Nat) (f : Nat → va_E) (x aW aG aR tr tg : Nat) (gW gG gR : Nat → Option Nat) (r : Nat) (h b n : Nat) (g : Nat → Int32) (z : Int32) (hl : l.stackTraces = false) (hx : x ∈ L) (fx : f x = .inr (3, [.ref aW, .ref aG, .ref aR, .ref tr, .ref tg])) (haW : aW ∈ L) (faW : f aW = .inl (k 4, 4, .inr (.inr (.inr (.inr gW))))) (haG : aG ∈ L) (faG : f aG = .inl (k 2, 3, .inr (.inr (.inr (.inr gG))))) (haR : aR ∈ L) (faR : f aR = .inl (k 3, 3, .inr (.inr (.inr (.inr gR))))) (hr9 : r < 4) (eh : gW r = some h) (hh : h ∈ L) (fh : f h = .inr (2, [.ref b])) (hb : b ∈ L) (fb : f b = .inl (k 0, n, .inl g)) (hn : n ≤ 256) (hpart : ¬ vPt n z (nI 1)) : vCtX l yX3_get cX3_get 4 (some .int) 10 152 1 6 D vCl (vTy k) sb [.ref (x), .int (nI (r)), .int (z)] (va_pl L f) "java/lang/IndexOutOfBoundsException" := by
  refine vOfX (by decide +kernel) (Nat.le_of_ble_eq_true rfl) (fun p9 e9 s9 m9 below9 meth9 c9 X hE hnt => ?_)
  refine vAloadN X dX3_get_0 0 rfl ?_
  refine vIloadN X dX3_get_1 1 rfl ?_
  obtain ⟨ix2, hix2⟩ := vp_ix (f := f) hx
  refine vCallVd X [] (cb_rowAt l D k sb L f x aW aG aR tr tg (gW) (gG) (gR) r h hx fx haW faW haG faG haR faR (by omega) eh) (vGV q_341 q_343 q_3 q_24 q_344) ⟨by decide, by decide, (show _ = some 1 from by decide +kernel)⟩ ⟨Nat.le_of_ble_eq_true rfl, Nat.le_of_ble_eq_true rfl⟩ ix2 3 rfl rfl (hix2.trans (by rw [fx])) rfl (Nat.le_of_ble_eq_true rfl) dX3_get_2 ⟨Nat.le_of_ble_eq_true rfl, Nat.le_of_ble_eq_true rfl⟩ ?_
  refine vAstoreN X [(3, .ref (h)), (0, .ref (x)), (1, .int (nI (r))), (2, .int (z))] dX3_get_5 (by decide) rfl ?_
  refine vAloadN X dX3_get_6 0 rfl ?_
  refine vIloadN X dX3_get_7 3 rfl ?_
  refine vIconst X dX3_get_8 (v := nI (1)) (by decide) ?_
  exact vCallST X hE hnt [] (ct_needPlaces l D k sb L f h b (n) (g) (z) (nI (1)) hl hh fh hb fb (by omega) hpart) (vGS q_399 q_400 q_24 q_401) rfl ⟨by decide, by decide, (show _ = some 3 from by decide +kernel)⟩ ⟨Nat.le_of_ble_eq_true rfl, Nat.le_of_ble_eq_true rfl⟩ rfl (Nat.le_of_ble_eq_true rfl) dX3_get_9 ⟨(Nat.le_of_ble_eq_true rfl), (Nat.le_of_ble_eq_true rfl)⟩ (Nat.le_of_ble_eq_true rfl) (Nat.le_of_ble_eq_true rfl)
set_option maxHeartbeats 4000000 in
set_option maxRecDepth 100000 in
theorem cb_put (l : Launch) (D : va_G) (k : Nat → ClassId) (sb : Nat) (L : List Nat) (f : Nat → va_E) (x aW aG aR tr tg : Nat) (gW gG gR : Nat → Option Nat) (r : Nat) (h b n : Nat) (g : Nat → Int32) (i : Nat) (v : Int32) (hx : x ∈ L) (fx : f x = .inr (3, [.ref aW, .ref aG, .ref aR, .ref tr, .ref tg])) (haW : aW ∈ L) (faW : f aW = .inl (k 4, 4, .inr (.inr (.inr (.inr gW))))) (haG : aG ∈ L) (faG : f aG = .inl (k 2, 3, .inr (.inr (.inr (.inr gG))))) (haR : aR ∈ L) (faR : f aR = .inl (k 3, 3, .inr (.inr (.inr (.inr gR))))) (hr9 : r < 4) (eh : gW r = some h) (hh : h ∈ L) (fh : f h = .inr (2, [.ref b])) (hb : b ∈ L) (fb : f b = .inl (k 0, n, .inl g)) (hn : n ≤ 256) (hi : i + 1 ≤ n) : vCt l yX3_put cX3_put 5 (some .int) 10 152 0 0 D vCl (vTy k) sb [.ref (x), .int (nI (r)), .int (nI (i)), .int (v)] (va_pl L f) (vDet (some (.int (g i))) (va_pl L (va_up f b (.inl (k 0, n, .inl (upd g (i) (lb (v)))))))) := by
  refine vOf (by decide +kernel) (Nat.le_of_ble_eq_true rfl) (fun p9 e9 s9 m9 below9 meth9 c9 X hret hmn => ?_)
  refine vAloadN X dX3_put_0 0 rfl ?_
  refine vIloadN X dX3_put_1 1 rfl ?_
  obtain ⟨ix2, hix2⟩ := vp_ix (f := f) hx
  refine vCallVd X [] (cb_rowAt l D k sb L f x aW aG aR tr tg (gW) (gG) (gR) r h hx fx haW faW haG faG haR faR (by omega) eh) (vGV q_341 q_343 q_3 q_24 q_344) ⟨by decide, by decide, (show _ = some 1 from by decide +kernel)⟩ ⟨Nat.le_of_ble_eq_true rfl, Nat.le_of_ble_eq_true rfl⟩ ix2 3 rfl rfl (hix2.trans (by rw [fx])) rfl (Nat.le_of_ble_eq_true rfl) dX3_put_2 ⟨Nat.le_of_ble_eq_true rfl, Nat.le_of_ble_eq_true rfl⟩ ?_
  refine vAstore X [(4, .ref (h)), (0, .ref (x)), (1, .int (nI (r))), (2, .int (nI (i))), (3, .int (v))] dX3_put_5 (by decide) rfl ?_
  refine vAload X dX3_put_7 0 rfl ?_
  refine vIloadN X dX3_put_9 3 rfl ?_
  refine vIconst X dX3_put_10 (v := nI (1)) (by decide) ?_
  refine vCallSd X [] (cb_needPlaces l D k sb L f h b (n) (g) (i) (1) hh fh hb fb (by omega) (by omega)) (vGS q_399 q_400 q_24 q_401) rfl ⟨by decide, by decide, (show _ = some 3 from by decide +kernel)⟩ ⟨Nat.le_of_ble_eq_true rfl, Nat.le_of_ble_eq_true rfl⟩ rfl (Nat.le_of_ble_eq_true rfl) dX3_put_11 ⟨Nat.le_of_ble_eq_true rfl, Nat.le_of_ble_eq_true rfl⟩ ?_
  refine vAload X dX3_put_14 0 rfl ?_
  refine vIloadN X dX3_put_16 3 rfl ?_
  refine vIloadN X dX3_put_17 4 rfl ?_
  obtain ⟨ix18, hix18⟩ := vp_ix (f := f) hh
  refine vCallVd X [] (cr_exchange l D k sb L f h b (n) (g) i (v) hh fh hb fb (by omega) (by omega)) (vGV q_412 q_413 q_414 q_25 q_415) ⟨by decide, by decide, (show _ = some 2 from by decide +kernel)⟩ ⟨Nat.le_of_ble_eq_true rfl, Nat.le_of_ble_eq_true rfl⟩ ix18 2 rfl rfl (hix18.trans (by rw [fh])) rfl (Nat.le_of_ble_eq_true rfl) dX3_put_18 ⟨Nat.le_of_ble_eq_true rfl, Nat.le_of_ble_eq_true rfl⟩ ?_
  exact vRetI X hret dX3_put_21 ⟨rfl, rfl⟩
set_option maxHeartbeats 4000000 in
set_option maxRecDepth 100000 in
theorem ct_put1 (l : Launch) (D : va_G) (k : Nat → ClassId) (sb : Nat) (L : List Nat) (f : Nat → va_E) (x aW aG aR tr tg : Nat) (gW gG gR : Nat → Option Nat) (v z y : Int32) (hl : l.stackTraces = false) (hx : x ∈ L) (fx : f x = .inr (3, [.ref aW, .ref aG, .ref aR, .ref tr, .ref tg])) (haW : aW ∈ L) (faW : f aW = .inl (k 4, 4, .inr (.inr (.inr (.inr gW))))) (haG : aG ∈ L) (faG : f aG = .inl (k 2, 3, .inr (.inr (.inr (.inr gG))))) (haR : aR ∈ L) (faR : f aR = .inl (k 3, 3, .inr (.inr (.inr (.inr gR))))) (hv : ¬ vRow v) : vCtX l yX3_put cX3_put 5 (some .int) 10 152 1 6 D vCl (vTy k) sb [.ref (x), .int (v), .int (z), .int (y)] (va_pl L f) "java/lang/IndexOutOfBoundsException" := by
  refine vOfX (by decide +kernel) (Nat.le_of_ble_eq_true rfl) (fun p9 e9 s9 m9 below9 meth9 c9 X hE hnt => ?_)
  refine vAloadN X dX3_put_0 0 rfl ?_
  refine vIloadN X dX3_put_1 1 rfl ?_
  obtain ⟨ix2, hix2⟩ := vp_ix (f := f) hx
  exact vCallVT X hE hnt [] (ct_rowAt l D k sb L f x aW aG aR tr tg (gW) (gG) (gR) v hl hx fx haW faW haG faG haR faR hv) (vGV q_341 q_343 q_3 q_24 q_344) ⟨by decide, by decide, (show _ = some 1 from by decide +kernel)⟩ ⟨Nat.le_of_ble_eq_true rfl, Nat.le_of_ble_eq_true rfl⟩ ix2 3 rfl rfl (hix2.trans (by rw [fx])) rfl (Nat.le_of_ble_eq_true rfl) dX3_put_2 ⟨(Nat.le_of_ble_eq_true rfl), (Nat.le_of_ble_eq_true rfl)⟩ (Nat.le_of_ble_eq_true rfl) (Nat.le_of_ble_eq_true rfl)
set_option maxHeartbeats 4000000 in
set_option maxRecDepth 100000 in
theorem ct_put2 (l : Launch) (D : va_G) (k : Nat → ClassId) (sb : Nat) (L : List Nat) (f : Nat → va_E) (x aW aG aR tr tg : Nat) (gW gG gR : Nat → Option Nat) (r : Nat) (h b n : Nat) (g : Nat → Int32) (z y : Int32) (hl : l.stackTraces = false) (hx : x ∈ L) (fx : f x = .inr (3, [.ref aW, .ref aG, .ref aR, .ref tr, .ref tg])) (haW : aW ∈ L) (faW : f aW = .inl (k 4, 4, .inr (.inr (.inr (.inr gW))))) (haG : aG ∈ L) (faG : f aG = .inl (k 2, 3, .inr (.inr (.inr (.inr gG))))) (haR : aR ∈ L) (faR : f aR = .inl (k 3, 3, .inr (.inr (.inr (.inr gR))))) (hr9 : r < 4) (eh : gW r = some h) (hh : h ∈ L) (fh : f h = .inr (2, [.ref b])) (hb : b ∈ L) (fb : f b = .inl (k 0, n, .inl g)) (hn : n ≤ 256) (hpart : ¬ vPt n z (nI 1)) : vCtX l yX3_put cX3_put 5 (some .int) 10 152 1 6 D vCl (vTy k) sb [.ref (x), .int (nI (r)), .int (z), .int (y)] (va_pl L f) "java/lang/IndexOutOfBoundsException" := by
  refine vOfX (by decide +kernel) (Nat.le_of_ble_eq_true rfl) (fun p9 e9 s9 m9 below9 meth9 c9 X hE hnt => ?_)
  refine vAloadN X dX3_put_0 0 rfl ?_
  refine vIloadN X dX3_put_1 1 rfl ?_
  obtain ⟨ix2, hix2⟩ := vp_ix (f := f) hx
  refine vCallVd X [] (cb_rowAt l D k sb L f x aW aG aR tr tg (gW) (gG) (gR) r h hx fx haW faW haG faG haR faR (by omega) eh) (vGV q_341 q_343 q_3 q_24 q_344) ⟨by decide, by decide, (show _ = some 1 from by decide +kernel)⟩ ⟨Nat.le_of_ble_eq_true rfl, Nat.le_of_ble_eq_true rfl⟩ ix2 3 rfl rfl (hix2.trans (by rw [fx])) rfl (Nat.le_of_ble_eq_true rfl) dX3_put_2 ⟨Nat.le_of_ble_eq_true rfl, Nat.le_of_ble_eq_true rfl⟩ ?_
  refine vAstore X [(4, .ref (h)), (0, .ref (x)), (1, .int (nI (r))), (2, .int (z)), (3, .int (y))] dX3_put_5 (by decide) rfl ?_
  refine vAload X dX3_put_7 0 rfl ?_
  refine vIloadN X dX3_put_9 3 rfl ?_
  refine vIconst X dX3_put_10 (v := nI (1)) (by decide) ?_
  exact vCallST X hE hnt [] (ct_needPlaces l D k sb L f h b (n) (g) (z) (nI (1)) hl hh fh hb fb (by omega) hpart) (vGS q_399 q_400 q_24 q_401) rfl ⟨by decide, by decide, (show _ = some 3 from by decide +kernel)⟩ ⟨Nat.le_of_ble_eq_true rfl, Nat.le_of_ble_eq_true rfl⟩ rfl (Nat.le_of_ble_eq_true rfl) dX3_put_11 ⟨(Nat.le_of_ble_eq_true rfl), (Nat.le_of_ble_eq_true rfl)⟩ (Nat.le_of_ble_eq_true rfl) (Nat.le_of_ble_eq_true rfl)
def fillC (g : Nat → Int32) (a i : Nat) (v st : Int32) : Nat → Int32 := fun b => if a ≤ b ∧ b < a + i then lb (v + nI (b - a) * st) else g b
theorem fillC_0 (g : Nat → Int32) (a : Nat) (v st : Int32) : g = fillC g a 0 v st := by
  funext b
  show g b = if _ then _ else _
  rw [if_neg (by omega)]
theorem fillC_1 (g : Nat → Int32) (a i : Nat) (v st : Int32) : upd (fillC g a i v st) (a + i) (lb (v + nI i * st)) = fillC g a (i + 1) v st := by
  funext b
  simp only [upd, fillC]
  by_cases h2 : b = a + i
  · subst h2
    have q1 : a ≤ a + i := by omega
    have q3 : a + i - a = i := by omega
    simp [q3]
  · have : (a ≤ b ∧ b < a + (i + 1)) = (a ≤ b ∧ b < a + i) := by simp only [eq_iff_iff]; omega
    simp [h2, this]
theorem fillC_at (g : Nat → Int32) (a i : Nat) (v st : Int32) : fillC g a i v st (a + i) = g (a + i) := by
  show (if _ then _ else _) = _
  rw [if_neg (by omega)]
theorem nI_mul1 (i : Nat) (st : Int32) : nI (i + 1) * st = nI i * st + st := by
  rw [← nI_1, Int32.add_mul, Int32.one_mul]
theorem lb_fillC {g : Nat → Int32} (h : ∀ j, lb (g j) = g j) (a i : Nat) (v st : Int32) : ∀ j, lb (fillC g a i v st j) = fillC g a i v st j := by
  intro j
  simp only [fillC]
  split
  · exact lb_lb _
  · exact h j
