theorem xg0_48 : ∀ w ∈ (vx_atS RX3 48 "java/lang/IllegalArgumentException" ["java/lang/RuntimeException", "java/lang/Exception"]).filter goodWord, w ∈ lw_tbl := by decide +kernel
theorem xg1_48 : ∀ w ∈ (vx_atS RX3 48 "java/lang/IllegalArgumentException" ["java/lang/RuntimeException", "java/lang/Exception"]).filter goodWord, w ∈ vGW := fun w hw => List.mem_filter.mpr ⟨xg0_48 w hw, (List.mem_filter.mp hw).2⟩
theorem xg2_48 : ∀ w ∈ (vx_atS RX3 48 "java/lang/IllegalArgumentException" ["java/lang/RuntimeException", "java/lang/Exception"]).filter (fun w => !goodWord w), vBad w = true ∧ w ∈ lw_tbl := by decide +kernel
theorem xg3_48 : ∀ w ∈ Cond.classLink RX3 44 "java/lang/IllegalArgumentException" :: Cond.initialized "java/lang/IllegalArgumentException" :: (vx_atS RX3 48 "java/lang/IllegalArgumentException" ["java/lang/RuntimeException", "java/lang/Exception"]), vx_ot w = true := by decide +kernel
theorem xg0_179 : ∀ w ∈ (vx_atS RX3 179 "java/lang/ArithmeticException" ["java/lang/RuntimeException", "java/lang/Exception"]).filter goodWord, w ∈ lw_tbl := by decide +kernel
theorem xg1_179 : ∀ w ∈ (vx_atS RX3 179 "java/lang/ArithmeticException" ["java/lang/RuntimeException", "java/lang/Exception"]).filter goodWord, w ∈ vGW := fun w hw => List.mem_filter.mpr ⟨xg0_179 w hw, (List.mem_filter.mp hw).2⟩
theorem xg2_179 : ∀ w ∈ (vx_atS RX3 179 "java/lang/ArithmeticException" ["java/lang/RuntimeException", "java/lang/Exception"]).filter (fun w => !goodWord w), vBad w = true ∧ w ∈ lw_tbl := by decide +kernel
theorem xg3_179 : ∀ w ∈ Cond.classLink RX3 175 "java/lang/ArithmeticException" :: Cond.initialized "java/lang/ArithmeticException" :: (vx_atS RX3 179 "java/lang/ArithmeticException" ["java/lang/RuntimeException", "java/lang/Exception"]), vx_ot w = true := by decide +kernel
theorem xg0_210 : ∀ w ∈ (vx_atS RX3 210 "java/lang/IndexOutOfBoundsException" ["java/lang/RuntimeException", "java/lang/Exception"]).filter goodWord, w ∈ lw_tbl := by decide +kernel
theorem xg1_210 : ∀ w ∈ (vx_atS RX3 210 "java/lang/IndexOutOfBoundsException" ["java/lang/RuntimeException", "java/lang/Exception"]).filter goodWord, w ∈ vGW := fun w hw => List.mem_filter.mpr ⟨xg0_210 w hw, (List.mem_filter.mp hw).2⟩
theorem xg2_210 : ∀ w ∈ (vx_atS RX3 210 "java/lang/IndexOutOfBoundsException" ["java/lang/RuntimeException", "java/lang/Exception"]).filter (fun w => !goodWord w), vBad w = true ∧ w ∈ lw_tbl := by decide +kernel
theorem xg3_210 : ∀ w ∈ Cond.classLink RX3 206 "java/lang/IndexOutOfBoundsException" :: Cond.initialized "java/lang/IndexOutOfBoundsException" :: (vx_atS RX3 210 "java/lang/IndexOutOfBoundsException" ["java/lang/RuntimeException", "java/lang/Exception"]), vx_ot w = true := by decide +kernel
theorem xg0_228 : ∀ w ∈ (vx_atS RX3 228 "java/lang/IllegalStateException" ["java/lang/RuntimeException", "java/lang/Exception"]).filter goodWord, w ∈ lw_tbl := by decide +kernel
theorem xg1_228 : ∀ w ∈ (vx_atS RX3 228 "java/lang/IllegalStateException" ["java/lang/RuntimeException", "java/lang/Exception"]).filter goodWord, w ∈ vGW := fun w hw => List.mem_filter.mpr ⟨xg0_228 w hw, (List.mem_filter.mp hw).2⟩
theorem xg2_228 : ∀ w ∈ (vx_atS RX3 228 "java/lang/IllegalStateException" ["java/lang/RuntimeException", "java/lang/Exception"]).filter (fun w => !goodWord w), vBad w = true ∧ w ∈ lw_tbl := by decide +kernel
theorem xg3_228 : ∀ w ∈ Cond.classLink RX3 224 "java/lang/IllegalStateException" :: Cond.initialized "java/lang/IllegalStateException" :: (vx_atS RX3 228 "java/lang/IllegalStateException" ["java/lang/RuntimeException", "java/lang/Exception"]), vx_ot w = true := by decide +kernel
theorem xg0_235 : ∀ w ∈ (vx_atS RX3 235 "java/lang/UnsupportedOperationException" ["java/lang/RuntimeException", "java/lang/Exception"]).filter goodWord, w ∈ lw_tbl := by decide +kernel
theorem xg1_235 : ∀ w ∈ (vx_atS RX3 235 "java/lang/UnsupportedOperationException" ["java/lang/RuntimeException", "java/lang/Exception"]).filter goodWord, w ∈ vGW := fun w hw => List.mem_filter.mpr ⟨xg0_235 w hw, (List.mem_filter.mp hw).2⟩
theorem xg2_235 : ∀ w ∈ (vx_atS RX3 235 "java/lang/UnsupportedOperationException" ["java/lang/RuntimeException", "java/lang/Exception"]).filter (fun w => !goodWord w), vBad w = true ∧ w ∈ lw_tbl := by decide +kernel
theorem xg3_235 : ∀ w ∈ Cond.classLink RX3 231 "java/lang/UnsupportedOperationException" :: Cond.initialized "java/lang/UnsupportedOperationException" :: (vx_atS RX3 235 "java/lang/UnsupportedOperationException" ["java/lang/RuntimeException", "java/lang/Exception"]), vx_ot w = true := by decide +kernel
theorem gtS {v : Int32} {a : Nat} (h : nI a < v) (ha : a + 1 < 2 ^ 31) : nI (a + 1) ≤ v := by
  have h9 := Int32.lt_iff_toInt_lt.mp h
  rw [nI_toInt (by omega)] at h9
  exact Int32.le_iff_toInt_le.mpr (by rw [nI_toInt ha]; omega)
section VAC9
variable {p : Program} {l : Launch} {e : Env} {R : Room} {s : State} {m : MethodId} {args : Array Value} {below : List Frame} {meth : Method} {c : Code} {cc : ByteArray} {nL : Nat} {own : String} {Ts : List Cond} {D : va_G} {cl : List vw_C} {tys : List (ClassId × FieldType)} {sb : Nat} {Q : State → Prop} {ws : va_W} {cells slots : Nat} {pc : Nat} {lv : List (Nat × Value)} {rest : List Value}
theorem vAcmp_neT (X : vCX p s m args meth c cc nL own Ts D cl tys sb) {x y : Nat} {off : Int} (tgt : Nat) (hd : decode cc pc = .ok (.if_acmp .ne off, 3)) (ht : (pc : Int) + off = (tgt : Int)) (h : ¬ x = y) (k : vV p l e R s m args below meth c nL D cl sb Q ws cells slots tgt lv rest) : vV p l e R s m args below meth c nL D cl sb Q ws cells slots pc lv (.ref y :: .ref x :: rest) := vAcmp_ne X tgt hd ht (fun _ => k) (fun q => absurd q h)
theorem vAcmp_neF (X : vCX p s m args meth c cc nL own Ts D cl tys sb) {x y : Nat} {off : Int} (tgt : Nat) (hd : decode cc pc = .ok (.if_acmp .ne off, 3)) (ht : (pc : Int) + off = (tgt : Int)) (h : x = y) (k : vV p l e R s m args below meth c nL D cl sb Q ws cells slots (pc + 3) lv rest) : vV p l e R s m args below meth c nL D cl sb Q ws cells slots pc lv (.ref y :: .ref x :: rest) := vAcmp_ne X tgt hd ht (fun q => absurd h q) (fun _ => k)
end VAC9
set_option maxHeartbeats 4000000 in
set_option maxRecDepth 100000 in
theorem cq_isOverT (l : Launch) (D : va_G) (k : Nat → ClassId) (sb : Nat) (L : List Nat) (f : Nat → va_E) (r w b n s P M T Mt : Nat) (g : Nat → Int32) (h2 : Nat) (hr : r ∈ L) (fr : f r = .inr (1, [.ref w, .int (nI s), .int (nI P), .int (nI M), .int (nI T), .int (nI Mt)])) (hw : w ∈ L) (fw : f w = .inr (2, [.ref b])) (hb : b ∈ L) (fb : f b = .inl (k 0, n, .inl g)) (hn : n ≤ 256) (hP : P ≤ n) (he : w = h2) : vCt l yX1_isOver cX1_isOver 2 (some .boolean) 0 0 0 0 D vCl (vTy k) sb [.ref (r), .ref (h2)] (va_pl L f) (vDet (some (.int (nI (1)))) (va_pl L f)) := by
  refine vOf (by decide +kernel) (Nat.le_of_ble_eq_true rfl) (fun p9 e9 s9 m9 below9 meth9 c9 X hret hmn => ?_)
  refine vAloadN X dX1_isOver_0 0 rfl ?_
  refine vpGet X (C := RX1) (T := TX1) (N := 6) (ci := 1) (vcons inR) rfl hr fr 0 (by decide) (List.mem_cons_of_mem _ q_90) (fun _ h => h) rfl dX1_isOver_1 ?_
  refine vAloadN X dX1_isOver_4 1 rfl ?_
  refine vAcmp_neF X 12 dX1_isOver_5 (by decide) he ?_
  refine vIconst X dX1_isOver_8 (v := nI (1)) (by decide) ?_
  refine vGoto X 13 dX1_isOver_9 (by decide) ?_
  exact vRetZ X hret (by first | rfl | exact nar_bI _) dX1_isOver_13 ⟨rfl, rfl⟩
set_option maxHeartbeats 4000000 in
set_option maxRecDepth 100000 in
theorem cq_isOverF (l : Launch) (D : va_G) (k : Nat → ClassId) (sb : Nat) (L : List Nat) (f : Nat → va_E) (r w b n s P M T Mt : Nat) (g : Nat → Int32) (h2 : Nat) (hr : r ∈ L) (fr : f r = .inr (1, [.ref w, .int (nI s), .int (nI P), .int (nI M), .int (nI T), .int (nI Mt)])) (hw : w ∈ L) (fw : f w = .inr (2, [.ref b])) (hb : b ∈ L) (fb : f b = .inl (k 0, n, .inl g)) (hn : n ≤ 256) (hP : P ≤ n) (he : ¬ w = h2) : vCt l yX1_isOver cX1_isOver 2 (some .boolean) 0 0 0 0 D vCl (vTy k) sb [.ref (r), .ref (h2)] (va_pl L f) (vDet (some (.int (nI (0)))) (va_pl L f)) := by
  refine vOf (by decide +kernel) (Nat.le_of_ble_eq_true rfl) (fun p9 e9 s9 m9 below9 meth9 c9 X hret hmn => ?_)
  refine vAloadN X dX1_isOver_0 0 rfl ?_
  refine vpGet X (C := RX1) (T := TX1) (N := 6) (ci := 1) (vcons inR) rfl hr fr 0 (by decide) (List.mem_cons_of_mem _ q_90) (fun _ h => h) rfl dX1_isOver_1 ?_
  refine vAloadN X dX1_isOver_4 1 rfl ?_
  refine vAcmp_neT X 12 dX1_isOver_5 (by decide) he ?_
  refine vIconst X dX1_isOver_12 (v := nI (0)) (by decide) ?_
  exact vRetZ X hret (by first | rfl | exact nar_bI _) dX1_isOver_13 ⟨rfl, rfl⟩
set_option maxHeartbeats 4000000 in
set_option maxRecDepth 100000 in
theorem cb_needRow (l : Launch) (D : va_G) (k : Nat → ClassId) (sb : Nat) (L : List Nat) (f : Nat → va_E) (x aW aG aR tr tg : Nat) (gW gG gR : Nat → Option Nat) (r : Nat) (hx : x ∈ L) (fx : f x = .inr (3, [.ref aW, .ref aG, .ref aR, .ref tr, .ref tg])) (haW : aW ∈ L) (faW : f aW = .inl (k 4, 4, .inr (.inr (.inr (.inr gW))))) (haG : aG ∈ L) (faG : f aG = .inl (k 2, 3, .inr (.inr (.inr (.inr gG))))) (haR : aR ∈ L) (faR : f aR = .inl (k 3, 3, .inr (.inr (.inr (.inr gR))))) (hr : r < 4) : vCt l yX3_needRow cX3_needRow 2 none 8 110 0 0 D vCl (vTy k) sb [.ref (x), .int (nI (r))] (va_pl L f) (vDet none (va_pl L f)) := by
  refine vOf (by decide +kernel) (Nat.le_of_ble_eq_true rfl) (fun p9 e9 s9 m9 below9 meth9 c9 X hret hmn => ?_)
  refine vIloadN X dX3_needRow_0 1 rfl ?_
  refine vIfN_ltF X 13 dX3_needRow_1 (by decide) (by omega) (by omega) ?_
  refine vIloadN X dX3_needRow_4 1 rfl ?_
  refine vAloadN X dX3_needRow_5 0 rfl ?_
  refine vpGet X (C := RX3) (T := TX3) (N := 5) (ci := 3) (vcons inB) rfl hx fx 0 (by decide) (List.mem_cons_of_mem _ q_109) (fun _ h => h) rfl dX3_needRow_6 ?_
  refine vpAlen X (v := nI (4)) haW faW 4 rfl rfl dX3_needRow_9 ?_
  refine vIcmpN_ltT X 23 dX3_needRow_10 (by decide) (by omega) (by omega) (by omega) ?_
  exact vRetV X hret dX3_needRow_23 ⟨rfl, rfl⟩
set_option maxHeartbeats 4000000 in
set_option maxRecDepth 100000 in
theorem ct_needRow1 (l : Launch) (D : va_G) (k : Nat → ClassId) (sb : Nat) (L : List Nat) (f : Nat → va_E) (x aW aG aR tr tg : Nat) (gW gG gR : Nat → Option Nat) (v : Int32) (hl : l.stackTraces = false) (hx : x ∈ L) (fx : f x = .inr (3, [.ref aW, .ref aG, .ref aR, .ref tr, .ref tg])) (haW : aW ∈ L) (faW : f aW = .inl (k 4, 4, .inr (.inr (.inr (.inr gW))))) (haG : aG ∈ L) (faG : f aG = .inl (k 2, 3, .inr (.inr (.inr (.inr gG))))) (haR : aR ∈ L) (faR : f aR = .inl (k 3, 3, .inr (.inr (.inr (.inr gR))))) (h : v < nI 0) : vCtX l yX3_needRow cX3_needRow 2 none 8 110 1 6 D vCl (vTy k) sb [.ref (x), .int (v)] (va_pl L f) "java/lang/IndexOutOfBoundsException" := by
  refine vOfX (by decide +kernel) (Nat.le_of_ble_eq_true rfl) (fun p9 e9 s9 m9 below9 meth9 c9 X hE hnt => ?_)
  refine vIloadN X dX3_needRow_0 1 rfl ?_
  refine vIf_ltT X 13 dX3_needRow_1 (by decide) (by first | assumption | exact Int32.not_lt.mpr (by assumption) | exact Int32.not_le.mpr (by assumption) | exact Int32.not_lt.mp (by assumption) | exact Int32.not_le.mp (by assumption) | decide) ?_
  exact vThrowS X hE hl hnt (by decide +kernel) q_349 q_33 t_358 xg1_210 xg2_210 xg3_210 dX3_needRow_13 dX3_needRow_16 dX3_needRow_17 dX3_needRow_19 dX3_needRow_22 (Nat.le_of_ble_eq_true rfl) (Nat.le_of_ble_eq_true rfl) (Nat.le_of_ble_eq_true rfl) (Nat.le_of_ble_eq_true rfl) (Nat.le_of_ble_eq_true rfl) (Nat.le_of_ble_eq_true rfl)
set_option maxHeartbeats 4000000 in
set_option maxRecDepth 100000 in
theorem ct_needRow2 (l : Launch) (D : va_G) (k : Nat → ClassId) (sb : Nat) (L : List Nat) (f : Nat → va_E) (x aW aG aR tr tg : Nat) (gW gG gR : Nat → Option Nat) (v : Int32) (hl : l.stackTraces = false) (hx : x ∈ L) (fx : f x = .inr (3, [.ref aW, .ref aG, .ref aR, .ref tr, .ref tg])) (haW : aW ∈ L) (faW : f aW = .inl (k 4, 4, .inr (.inr (.inr (.inr gW))))) (haG : aG ∈ L) (faG : f aG = .inl (k 2, 3, .inr (.inr (.inr (.inr gG))))) (haR : aR ∈ L) (faR : f aR = .inl (k 3, 3, .inr (.inr (.inr (.inr gR))))) (h0 : nI 0 ≤ v) (h : nI 3 < v) : vCtX l yX3_needRow cX3_needRow 2 none 8 110 1 6 D vCl (vTy k) sb [.ref (x), .int (v)] (va_pl L f) "java/lang/IndexOutOfBoundsException" := by
  refine vOfX (by decide +kernel) (Nat.le_of_ble_eq_true rfl) (fun p9 e9 s9 m9 below9 meth9 c9 X hE hnt => ?_)
  refine vIloadN X dX3_needRow_0 1 rfl ?_
  refine vIf_ltF X 13 dX3_needRow_1 (by decide) (by first | assumption | exact Int32.not_lt.mpr (by assumption) | exact Int32.not_le.mpr (by assumption) | exact Int32.not_lt.mp (by assumption) | exact Int32.not_le.mp (by assumption) | decide) ?_
  refine vIloadN X dX3_needRow_4 1 rfl ?_
  refine vAloadN X dX3_needRow_5 0 rfl ?_
  refine vpGet X (C := RX3) (T := TX3) (N := 5) (ci := 3) (vcons inB) rfl hx fx 0 (by decide) (List.mem_cons_of_mem _ q_109) (fun _ h => h) rfl dX3_needRow_6 ?_
  refine vpAlen X (v := nI (4)) haW faW 4 rfl rfl dX3_needRow_9 ?_
  refine vIcmp_ltF X 23 dX3_needRow_10 (by decide) (Int32.not_lt.mpr (gtS h (by decide))) ?_
  exact vThrowS X hE hl hnt (by decide +kernel) q_349 q_33 t_358 xg1_210 xg2_210 xg3_210 dX3_needRow_13 dX3_needRow_16 dX3_needRow_17 dX3_needRow_19 dX3_needRow_22 (Nat.le_of_ble_eq_true rfl) (Nat.le_of_ble_eq_true rfl) (Nat.le_of_ble_eq_true rfl) (Nat.le_of_ble_eq_true rfl) (Nat.le_of_ble_eq_true rfl) (Nat.le_of_ble_eq_true rfl)
theorem ct_needRow (l : Launch) (D : va_G) (k : Nat → ClassId) (sb : Nat) (L : List Nat) (f : Nat → va_E) (x aW aG aR tr tg : Nat) (gW gG gR : Nat → Option Nat) (v : Int32) (hl : l.stackTraces = false) (hx : x ∈ L) (fx : f x = .inr (3, [.ref aW, .ref aG, .ref aR, .ref tr, .ref tg])) (haW : aW ∈ L) (faW : f aW = .inl (k 4, 4, .inr (.inr (.inr (.inr gW))))) (haG : aG ∈ L) (faG : f aG = .inl (k 2, 3, .inr (.inr (.inr (.inr gG))))) (haR : aR ∈ L) (faR : f aR = .inl (k 3, 3, .inr (.inr (.inr (.inr gR))))) (h9 : ¬ vRow v) : vCtX l yX3_needRow cX3_needRow 2 none 8 110 1 6 D vCl (vTy k) sb [.ref x, .int v] (va_pl L f) "java/lang/IndexOutOfBoundsException" := by
  by_cases h1 : nI 0 ≤ v
  · exact ct_needRow2 l D k sb L f x aW aG aR tr tg gW gG gR v hl hx fx haW faW haG faG haR faR h1 (Int32.not_le.mp (fun q => h9 ⟨h1, q⟩))
  · exact ct_needRow1 l D k sb L f x aW aG aR tr tg gW gG gR v hl hx fx haW faW haG faG haR faR (Int32.not_le.mp h1)
set_option maxHeartbeats 4000000 in
set_option maxRecDepth 100000 in
theorem ct_gathererAt1 (l : Launch) (D : va_G) (k : Nat → ClassId) (sb : Nat) (L : List Nat) (f : Nat → va_E) (x aW aG aR tr tg : Nat) (gW gG gR : Nat → Option Nat) (v : Int32) (hl : l.stackTraces = false) (hx : x ∈ L) (fx : f x = .inr (3, [.ref aW, .ref aG, .ref aR, .ref tr, .ref tg])) (haW : aW ∈ L) (faW : f aW = .inl (k 4, 4, .inr (.inr (.inr (.inr gW))))) (haG : aG ∈ L) (faG : f aG = .inl (k 2, 3, .inr (.inr (.inr (.inr gG))))) (haR : aR ∈ L) (faR : f aR = .inl (k 3, 3, .inr (.inr (.inr (.inr gR))))) (h : v < nI 0) : vCtX l yX3_gathererAt cX3_gathererAt 2 (some (.object "Bytewell$Gatherer")) 8 110 1 6 D vCl (vTy k) sb [.ref (x), .int (v)] (va_pl L f) "java/lang/IndexOutOfBoundsException" := by
  refine vOfX (by decide +kernel) (Nat.le_of_ble_eq_true rfl) (fun p9 e9 s9 m9 below9 meth9 c9 X hE hnt => ?_)
  refine vIloadN X dX3_gathererAt_0 1 rfl ?_
  refine vIf_ltT X 13 dX3_gathererAt_1 (by decide) (by first | assumption | exact Int32.not_lt.mpr (by assumption) | exact Int32.not_le.mpr (by assumption) | exact Int32.not_lt.mp (by assumption) | exact Int32.not_le.mp (by assumption) | decide) ?_
  exact vThrowS X hE hl hnt (by decide +kernel) q_349 q_33 t_442 xg1_210 xg2_210 xg3_210 dX3_gathererAt_13 dX3_gathererAt_16 dX3_gathererAt_17 dX3_gathererAt_19 dX3_gathererAt_22 (Nat.le_of_ble_eq_true rfl) (Nat.le_of_ble_eq_true rfl) (Nat.le_of_ble_eq_true rfl) (Nat.le_of_ble_eq_true rfl) (Nat.le_of_ble_eq_true rfl) (Nat.le_of_ble_eq_true rfl)
set_option maxHeartbeats 4000000 in
set_option maxRecDepth 100000 in
theorem ct_gathererAt2 (l : Launch) (D : va_G) (k : Nat → ClassId) (sb : Nat) (L : List Nat) (f : Nat → va_E) (x aW aG aR tr tg : Nat) (gW gG gR : Nat → Option Nat) (v : Int32) (hl : l.stackTraces = false) (hx : x ∈ L) (fx : f x = .inr (3, [.ref aW, .ref aG, .ref aR, .ref tr, .ref tg])) (haW : aW ∈ L) (faW : f aW = .inl (k 4, 4, .inr (.inr (.inr (.inr gW))))) (haG : aG ∈ L) (faG : f aG = .inl (k 2, 3, .inr (.inr (.inr (.inr gG))))) (haR : aR ∈ L) (faR : f aR = .inl (k 3, 3, .inr (.inr (.inr (.inr gR))))) (h0 : nI 0 ≤ v) (h : nI 2 < v) : vCtX l yX3_gathererAt cX3_gathererAt 2 (some (.object "Bytewell$Gatherer")) 8 110 1 6 D vCl (vTy k) sb [.ref (x), .int (v)] (va_pl L f) "java/lang/IndexOutOfBoundsException" := by
  refine vOfX (by decide +kernel) (Nat.le_of_ble_eq_true rfl) (fun p9 e9 s9 m9 below9 meth9 c9 X hE hnt => ?_)
  refine vIloadN X dX3_gathererAt_0 1 rfl ?_
  refine vIf_ltF X 13 dX3_gathererAt_1 (by decide) (by first | assumption | exact Int32.not_lt.mpr (by assumption) | exact Int32.not_le.mpr (by assumption) | exact Int32.not_lt.mp (by assumption) | exact Int32.not_le.mp (by assumption) | decide) ?_
  refine vIloadN X dX3_gathererAt_4 1 rfl ?_
  refine vAloadN X dX3_gathererAt_5 0 rfl ?_
  refine vpGet X (C := RX3) (T := TX3) (N := 5) (ci := 3) (vcons inB) rfl hx fx 1 (by decide) (List.mem_cons_of_mem _ q_110) (fun _ h => h) rfl dX3_gathererAt_6 ?_
  refine vpAlen X (v := nI (3)) haG faG 2 rfl rfl dX3_gathererAt_9 ?_
  refine vIcmp_ltF X 23 dX3_gathererAt_10 (by decide) (Int32.not_lt.mpr (gtS h (by decide))) ?_
  exact vThrowS X hE hl hnt (by decide +kernel) q_349 q_33 t_442 xg1_210 xg2_210 xg3_210 dX3_gathererAt_13 dX3_gathererAt_16 dX3_gathererAt_17 dX3_gathererAt_19 dX3_gathererAt_22 (Nat.le_of_ble_eq_true rfl) (Nat.le_of_ble_eq_true rfl) (Nat.le_of_ble_eq_true rfl) (Nat.le_of_ble_eq_true rfl) (Nat.le_of_ble_eq_true rfl) (Nat.le_of_ble_eq_true rfl)
theorem ct_gathererAt (l : Launch) (D : va_G) (k : Nat → ClassId) (sb : Nat) (L : List Nat) (f : Nat → va_E) (x aW aG aR tr tg : Nat) (gW gG gR : Nat → Option Nat) (v : Int32) (hl : l.stackTraces = false) (hx : x ∈ L) (fx : f x = .inr (3, [.ref aW, .ref aG, .ref aR, .ref tr, .ref tg])) (haW : aW ∈ L) (faW : f aW = .inl (k 4, 4, .inr (.inr (.inr (.inr gW))))) (haG : aG ∈ L) (faG : f aG = .inl (k 2, 3, .inr (.inr (.inr (.inr gG))))) (haR : aR ∈ L) (faR : f aR = .inl (k 3, 3, .inr (.inr (.inr (.inr gR))))) (h9 : ¬ vOther v) : vCtX l yX3_gathererAt cX3_gathererAt 2 (some (.object "Bytewell$Gatherer")) 8 110 1 6 D vCl (vTy k) sb [.ref x, .int v] (va_pl L f) "java/lang/IndexOutOfBoundsException" := by
  by_cases h1 : nI 0 ≤ v
  · exact ct_gathererAt2 l D k sb L f x aW aG aR tr tg gW gG gR v hl hx fx haW faW haG faG haR faR h1 (Int32.not_le.mp (fun q => h9 ⟨h1, q⟩))
  · exact ct_gathererAt1 l D k sb L f x aW aG aR tr tg gW gG gR v hl hx fx haW faW haG faG haR faR (Int32.not_le.mp h1)
set_option maxHeartbeats 4000000 in
set_option maxRecDepth 100000 in
theorem ct_readerAt1 (l : Launch) (D : va_G) (k : Nat → ClassId) (sb : Nat) (L : List Nat) (f : Nat → va_E) (x aW aG aR tr tg : Nat) (gW gG gR : Nat → Option Nat) (v : Int32) (hl : l.stackTraces = false) (hx : x ∈ L) (fx : f x = .inr (3, [.ref aW, .ref aG, .ref aR, .ref tr, .ref tg])) (haW : aW ∈ L) (faW : f aW = .inl (k 4, 4, .inr (.inr (.inr (.inr gW))))) (haG : aG ∈ L) (faG : f aG = .inl (k 2, 3, .inr (.inr (.inr (.inr gG))))) (haR : aR ∈ L) (faR : f aR = .inl (k 3, 3, .inr (.inr (.inr (.inr gR))))) (h : v < nI 0) : vCtX l yX3_readerAt cX3_readerAt 2 (some (.object "Bytewell$Reader")) 8 110 1 6 D vCl (vTy k) sb [.ref (x), .int (v)] (va_pl L f) "java/lang/IndexOutOfBoundsException" := by
  refine vOfX (by decide +kernel) (Nat.le_of_ble_eq_true rfl) (fun p9 e9 s9 m9 below9 meth9 c9 X hE hnt => ?_)
  refine vIloadN X dX3_readerAt_0 1 rfl ?_
  refine vIf_ltT X 13 dX3_readerAt_1 (by decide) (by first | assumption | exact Int32.not_lt.mpr (by assumption) | exact Int32.not_le.mpr (by assumption) | exact Int32.not_lt.mp (by assumption) | exact Int32.not_le.mp (by assumption) | decide) ?_
  exact vThrowS X hE hl hnt (by decide +kernel) q_349 q_33 t_526 xg1_210 xg2_210 xg3_210 dX3_readerAt_13 dX3_readerAt_16 dX3_readerAt_17 dX3_readerAt_19 dX3_readerAt_22 (Nat.le_of_ble_eq_true rfl) (Nat.le_of_ble_eq_true rfl) (Nat.le_of_ble_eq_true rfl) (Nat.le_of_ble_eq_true rfl) (Nat.le_of_ble_eq_true rfl) (Nat.le_of_ble_eq_true rfl)
set_option maxHeartbeats 4000000 in
set_option maxRecDepth 100000 in
theorem ct_readerAt2 (l : Launch) (D : va_G) (k : Nat → ClassId) (sb : Nat) (L : List Nat) (f : Nat → va_E) (x aW aG aR tr tg : Nat) (gW gG gR : Nat → Option Nat) (v : Int32) (hl : l.stackTraces = false) (hx : x ∈ L) (fx : f x = .inr (3, [.ref aW, .ref aG, .ref aR, .ref tr, .ref tg])) (haW : aW ∈ L) (faW : f aW = .inl (k 4, 4, .inr (.inr (.inr (.inr gW))))) (haG : aG ∈ L) (faG : f aG = .inl (k 2, 3, .inr (.inr (.inr (.inr gG))))) (haR : aR ∈ L) (faR : f aR = .inl (k 3, 3, .inr (.inr (.inr (.inr gR))))) (h0 : nI 0 ≤ v) (h : nI 2 < v) : vCtX l yX3_readerAt cX3_readerAt 2 (some (.object "Bytewell$Reader")) 8 110 1 6 D vCl (vTy k) sb [.ref (x), .int (v)] (va_pl L f) "java/lang/IndexOutOfBoundsException" := by
  refine vOfX (by decide +kernel) (Nat.le_of_ble_eq_true rfl) (fun p9 e9 s9 m9 below9 meth9 c9 X hE hnt => ?_)
  refine vIloadN X dX3_readerAt_0 1 rfl ?_
  refine vIf_ltF X 13 dX3_readerAt_1 (by decide) (by first | assumption | exact Int32.not_lt.mpr (by assumption) | exact Int32.not_le.mpr (by assumption) | exact Int32.not_lt.mp (by assumption) | exact Int32.not_le.mp (by assumption) | decide) ?_
  refine vIloadN X dX3_readerAt_4 1 rfl ?_
  refine vAloadN X dX3_readerAt_5 0 rfl ?_
  refine vpGet X (C := RX3) (T := TX3) (N := 5) (ci := 3) (vcons inB) rfl hx fx 2 (by decide) (List.mem_cons_of_mem _ q_111) (fun _ h => h) rfl dX3_readerAt_6 ?_
  refine vpAlen X (v := nI (3)) haR faR 3 rfl rfl dX3_readerAt_9 ?_
  refine vIcmp_ltF X 23 dX3_readerAt_10 (by decide) (Int32.not_lt.mpr (gtS h (by decide))) ?_
  exact vThrowS X hE hl hnt (by decide +kernel) q_349 q_33 t_526 xg1_210 xg2_210 xg3_210 dX3_readerAt_13 dX3_readerAt_16 dX3_readerAt_17 dX3_readerAt_19 dX3_readerAt_22 (Nat.le_of_ble_eq_true rfl) (Nat.le_of_ble_eq_true rfl) (Nat.le_of_ble_eq_true rfl) (Nat.le_of_ble_eq_true rfl) (Nat.le_of_ble_eq_true rfl) (Nat.le_of_ble_eq_true rfl)
theorem ct_readerAt (l : Launch) (D : va_G) (k : Nat → ClassId) (sb : Nat) (L : List Nat) (f : Nat → va_E) (x aW aG aR tr tg : Nat) (gW gG gR : Nat → Option Nat) (v : Int32) (hl : l.stackTraces = false) (hx : x ∈ L) (fx : f x = .inr (3, [.ref aW, .ref aG, .ref aR, .ref tr, .ref tg])) (haW : aW ∈ L) (faW : f aW = .inl (k 4, 4, .inr (.inr (.inr (.inr gW))))) (haG : aG ∈ L) (faG : f aG = .inl (k 2, 3, .inr (.inr (.inr (.inr gG))))) (haR : aR ∈ L) (faR : f aR = .inl (k 3, 3, .inr (.inr (.inr (.inr gR))))) (h9 : ¬ vOther v) : vCtX l yX3_readerAt cX3_readerAt 2 (some (.object "Bytewell$Reader")) 8 110 1 6 D vCl (vTy k) sb [.ref x, .int v] (va_pl L f) "java/lang/IndexOutOfBoundsException" := by
  by_cases h1 : nI 0 ≤ v
  · exact ct_readerAt2 l D k sb L f x aW aG aR tr tg gW gG gR v hl hx fx haW faW haG faG haR faR h1 (Int32.not_le.mp (fun q => h9 ⟨h1, q⟩))
  · exact ct_readerAt1 l D k sb L f x aW aG aR tr tg gW gG gR v hl hx fx haW faW haG faG haR faR (Int32.not_le.mp h1)
set_option maxHeartbeats 4000000 in
set_option maxRecDepth 100000 in
theorem cb_rowAt (l : Launch) (D : va_G) (k : Nat → ClassId) (sb : Nat) (L : List Nat) (f : Nat → va_E) (x aW aG aR tr tg : Nat) (gW gG gR : Nat → Option Nat) (r h : Nat) (hx : x ∈ L) (fx : f x = .inr (3, [.ref aW, .ref aG, .ref aR, .ref tr, .ref tg])) (haW : aW ∈ L) (faW : f aW = .inl (k 4, 4, .inr (.inr (.inr (.inr gW))))) (haG : aG ∈ L) (faG : f aG = .inl (k 2, 3, .inr (.inr (.inr (.inr gG))))) (haR : aR ∈ L) (faR : f aR = .inl (k 3, 3, .inr (.inr (.inr (.inr gR))))) (hr : r < 4) (eh : gW r = some h) : vCt l yX3_rowAt cX3_rowAt 2 (some (.object "Bytewell$Row")) 9 131 0 0 D vCl (vTy k) sb [.ref (x), .int (nI (r))] (va_pl L f) (vDet (some (.ref h)) (va_pl L f)) := by
  refine vOf (by decide +kernel) (Nat.le_of_ble_eq_true rfl) (fun p9 e9 s9 m9 below9 meth9 c9 X hret hmn => ?_)
  refine vAloadN X dX3_rowAt_0 0 rfl ?_
  refine vIloadN X dX3_rowAt_1 1 rfl ?_
  obtain ⟨ix2, hix2⟩ := vp_ix (f := f) hx
  refine vCallVd X [] (cb_needRow l D k sb L f x aW aG aR tr tg (gW) (gG) (gR) r hx fx haW faW haG faG haR faR (by omega)) (vGV q_345 q_347 q_4 q_24 q_348) ⟨by decide, by decide, (show _ = some 1 from by decide +kernel)⟩ ⟨Nat.le_of_ble_eq_true rfl, Nat.le_of_ble_eq_true rfl⟩ ix2 3 rfl rfl (hix2.trans (by rw [fx])) rfl (Nat.le_of_ble_eq_true rfl) dX3_rowAt_2 ⟨Nat.le_of_ble_eq_true rfl, Nat.le_of_ble_eq_true rfl⟩ ?_
  refine vAloadN X dX3_rowAt_5 0 rfl ?_
  refine vpGet X (C := RX3) (T := TX3) (N := 5) (ci := 3) (vcons inB) rfl hx fx 0 (by decide) (List.mem_cons_of_mem _ q_109) (fun _ h => h) rfl dX3_rowAt_6 ?_
  refine vIloadN X dX3_rowAt_9 1 rfl ?_
  refine vpAaload X (r := h) haW faW 4 rfl rfl (by omega) (by omega) eh dX3_rowAt_10 ?_
  exact vRetA X hret dX3_rowAt_11 ⟨rfl, rfl⟩
set_option maxHeartbeats 4000000 in
set_option maxRecDepth 100000 in
theorem ct_rowAt (l : Launch) (D : va_G) (k : Nat → ClassId) (sb : Nat) (L : List Nat) (f : Nat → va_E) (x aW aG aR tr tg : Nat) (gW gG gR : Nat → Option Nat) (v : Int32) (hl : l.stackTraces = false) (hx : x ∈ L) (fx : f x = .inr (3, [.ref aW, .ref aG, .ref aR, .ref tr, .ref tg])) (haW : aW ∈ L) (faW : f aW = .inl (k 4, 4, .inr (.inr (.inr (.inr gW))))) (haG : aG ∈ L) (faG : f aG = .inl (k 2, 3, .inr (.inr (.inr (.inr gG))))) (haR : aR ∈ L) (faR : f aR = .inl (k 3, 3, .inr (.inr (.inr (.inr gR))))) (hv : ¬ vRow v) : vCtX l yX3_rowAt cX3_rowAt 2 (some (.object "Bytewell$Row")) 9 131 1 6 D vCl (vTy k) sb [.ref (x), .int (v)] (va_pl L f) "java/lang/IndexOutOfBoundsException" := by
  refine vOfX (by decide +kernel) (Nat.le_of_ble_eq_true rfl) (fun p9 e9 s9 m9 below9 meth9 c9 X hE hnt => ?_)
  refine vAloadN X dX3_rowAt_0 0 rfl ?_
  refine vIloadN X dX3_rowAt_1 1 rfl ?_
  obtain ⟨ix2, hix2⟩ := vp_ix (f := f) hx
  exact vCallVT X hE hnt [] (ct_needRow l D k sb L f x aW aG aR tr tg (gW) (gG) (gR) v hl hx fx haW faW haG faG haR faR hv) (vGV q_345 q_347 q_4 q_24 q_348) ⟨by decide, by decide, (show _ = some 1 from by decide +kernel)⟩ ⟨Nat.le_of_ble_eq_true rfl, Nat.le_of_ble_eq_true rfl⟩ ix2 3 rfl rfl (hix2.trans (by rw [fx])) rfl (Nat.le_of_ble_eq_true rfl) dX3_rowAt_2 ⟨(Nat.le_of_ble_eq_true rfl), (Nat.le_of_ble_eq_true rfl)⟩ (Nat.le_of_ble_eq_true rfl) (Nat.le_of_ble_eq_true rfl)
set_option maxHeartbeats 4000000 in
set_option maxRecDepth 100000 in
theorem cb_gathererAt (l : Launch) (D : va_G) (k : Nat → ClassId) (sb : Nat) (L : List Nat) (f : Nat → va_E) (x aW aG aR tr tg : Nat) (gW gG gR : Nat → Option Nat) (r h : Nat) (hx : x ∈ L) (fx : f x = .inr (3, [.ref aW, .ref aG, .ref aR, .ref tr, .ref tg])) (haW : aW ∈ L) (faW : f aW = .inl (k 4, 4, .inr (.inr (.inr (.inr gW))))) (haG : aG ∈ L) (faG : f aG = .inl (k 2, 3, .inr (.inr (.inr (.inr gG))))) (haR : aR ∈ L) (faR : f aR = .inl (k 3, 3, .inr (.inr (.inr (.inr gR))))) (hr : r < 3) (eh : gG r = some h) : vCt l yX3_gathererAt cX3_gathererAt 2 (some (.object "Bytewell$Gatherer")) 8 110 0 0 D vCl (vTy k) sb [.ref (x), .int (nI (r))] (va_pl L f) (vDet (some (.ref h)) (va_pl L f)) := by
  refine vOf (by decide +kernel) (Nat.le_of_ble_eq_true rfl) (fun p9 e9 s9 m9 below9 meth9 c9 X hret hmn => ?_)
  refine vIloadN X dX3_gathererAt_0 1 rfl ?_
  refine vIfN_ltF X 13 dX3_gathererAt_1 (by decide) (by omega) (by omega) ?_
  refine vIloadN X dX3_gathererAt_4 1 rfl ?_
  refine vAloadN X dX3_gathererAt_5 0 rfl ?_
  refine vpGet X (C := RX3) (T := TX3) (N := 5) (ci := 3) (vcons inB) rfl hx fx 1 (by decide) (List.mem_cons_of_mem _ q_110) (fun _ h => h) rfl dX3_gathererAt_6 ?_
  refine vpAlen X (v := nI (3)) haG faG 2 rfl rfl dX3_gathererAt_9 ?_
  refine vIcmpN_ltT X 23 dX3_gathererAt_10 (by decide) (by omega) (by omega) (by omega) ?_
  refine vAloadN X dX3_gathererAt_23 0 rfl ?_
  refine vpGet X (C := RX3) (T := TX3) (N := 5) (ci := 3) (vcons inB) rfl hx fx 1 (by decide) (List.mem_cons_of_mem _ q_110) (fun _ h => h) rfl dX3_gathererAt_24 ?_
  refine vIloadN X dX3_gathererAt_27 1 rfl ?_
  refine vpAaload X (r := h) haG faG 2 rfl rfl (by omega) (by omega) eh dX3_gathererAt_28 ?_
  exact vRetA X hret dX3_gathererAt_29 ⟨rfl, rfl⟩
set_option maxHeartbeats 4000000 in
set_option maxRecDepth 100000 in
theorem cb_readerAt (l : Launch) (D : va_G) (k : Nat → ClassId) (sb : Nat) (L : List Nat) (f : Nat → va_E) (x aW aG aR tr tg : Nat) (gW gG gR : Nat → Option Nat) (r h : Nat) (hx : x ∈ L) (fx : f x = .inr (3, [.ref aW, .ref aG, .ref aR, .ref tr, .ref tg])) (haW : aW ∈ L) (faW : f aW = .inl (k 4, 4, .inr (.inr (.inr (.inr gW))))) (haG : aG ∈ L) (faG : f aG = .inl (k 2, 3, .inr (.inr (.inr (.inr gG))))) (haR : aR ∈ L) (faR : f aR = .inl (k 3, 3, .inr (.inr (.inr (.inr gR))))) (hr : r < 3) (eh : gR r = some h) : vCt l yX3_readerAt cX3_readerAt 2 (some (.object "Bytewell$Reader")) 8 110 0 0 D vCl (vTy k) sb [.ref (x), .int (nI (r))] (va_pl L f) (vDet (some (.ref h)) (va_pl L f)) := by
  refine vOf (by decide +kernel) (Nat.le_of_ble_eq_true rfl) (fun p9 e9 s9 m9 below9 meth9 c9 X hret hmn => ?_)
  refine vIloadN X dX3_readerAt_0 1 rfl ?_
  refine vIfN_ltF X 13 dX3_readerAt_1 (by decide) (by omega) (by omega) ?_
  refine vIloadN X dX3_readerAt_4 1 rfl ?_
  refine vAloadN X dX3_readerAt_5 0 rfl ?_
  refine vpGet X (C := RX3) (T := TX3) (N := 5) (ci := 3) (vcons inB) rfl hx fx 2 (by decide) (List.mem_cons_of_mem _ q_111) (fun _ h => h) rfl dX3_readerAt_6 ?_
  refine vpAlen X (v := nI (3)) haR faR 3 rfl rfl dX3_readerAt_9 ?_
  refine vIcmpN_ltT X 23 dX3_readerAt_10 (by decide) (by omega) (by omega) (by omega) ?_
  refine vAloadN X dX3_readerAt_23 0 rfl ?_
  refine vpGet X (C := RX3) (T := TX3) (N := 5) (ci := 3) (vcons inB) rfl hx fx 2 (by decide) (List.mem_cons_of_mem _ q_111) (fun _ h => h) rfl dX3_readerAt_24 ?_
  refine vIloadN X dX3_readerAt_27 1 rfl ?_
  refine vpAaload X (r := h) haR faR 3 rfl rfl (by omega) (by omega) eh dX3_readerAt_28 ?_
  exact vRetA X hret dX3_readerAt_29 ⟨rfl, rfl⟩
set_option maxHeartbeats 4000000 in
set_option maxRecDepth 100000 in
theorem cb_needPlaces (l : Launch) (D : va_G) (k : Nat → ClassId) (sb : Nat) (L : List Nat) (f : Nat → va_E) (h b n : Nat) (g : Nat → Int32) (a m : Nat) (hh : h ∈ L) (fh : f h = .inr (2, [.ref b])) (hb : b ∈ L) (fb : f b = .inl (k 0, n, .inl g)) (hn : n ≤ 256) (hp : a + m ≤ n) : vCt l yX3_needPlaces cX3_needPlaces 3 none 8 110 0 0 D vCl (vTy k) sb [.ref (h), .int (nI (a)), .int (nI (m))] (va_pl L f) (vDet none (va_pl L f)) := by
  refine vOf (by decide +kernel) (Nat.le_of_ble_eq_true rfl) (fun p9 e9 s9 m9 below9 meth9 c9 X hret hmn => ?_)
  refine vAloadN X dX3_needPlaces_0 0 rfl ?_
  refine vIloadN X dX3_needPlaces_1 1 rfl ?_
  refine vIloadN X dX3_needPlaces_2 2 rfl ?_
  obtain ⟨ix3, hix3⟩ := vp_ix (f := f) hh
  refine vCallVd X [] (cr_hasPartT l D k sb L f h b (n) (g) a m hh fh hb fb (by omega) (by omega)) (vGV q_402 q_188 q_189 q_25 q_190) ⟨by decide, by decide, (show _ = some 2 from by decide +kernel)⟩ ⟨Nat.le_of_ble_eq_true rfl, Nat.le_of_ble_eq_true rfl⟩ ix3 2 rfl rfl (hix3.trans (by rw [fh])) rfl (Nat.le_of_ble_eq_true rfl) dX3_needPlaces_3 ⟨Nat.le_of_ble_eq_true rfl, Nat.le_of_ble_eq_true rfl⟩ ?_
  refine vIfN_neT X 19 dX3_needPlaces_6 (by decide) (by omega) (by omega) ?_
  exact vRetV X hret dX3_needPlaces_19 ⟨rfl, rfl⟩
set_option maxHeartbeats 4000000 in
set_option maxRecDepth 100000 in
theorem ct_needPlaces (l : Launch) (D : va_G) (k : Nat → ClassId) (sb : Nat) (L : List Nat) (f : Nat → va_E) (h b n : Nat) (g : Nat → Int32) (v z : Int32) (hl : l.stackTraces = false) (hh : h ∈ L) (fh : f h = .inr (2, [.ref b])) (hb : b ∈ L) (fb : f b = .inl (k 0, n, .inl g)) (hn : n ≤ 256) (hpart : ¬ vPt n v z) : vCtX l yX3_needPlaces cX3_needPlaces 3 none 8 110 1 6 D vCl (vTy k) sb [.ref (h), .int (v), .int (z)] (va_pl L f) "java/lang/IndexOutOfBoundsException" := by
  refine vOfX (by decide +kernel) (Nat.le_of_ble_eq_true rfl) (fun p9 e9 s9 m9 below9 meth9 c9 X hE hnt => ?_)
  refine vAloadN X dX3_needPlaces_0 0 rfl ?_
  refine vIloadN X dX3_needPlaces_1 1 rfl ?_
  refine vIloadN X dX3_needPlaces_2 2 rfl ?_
  obtain ⟨ix3, hix3⟩ := vp_ix (f := f) hh
  refine vCallVd X [] (cr_hasPartF l D k sb L f h b (n) (g) v z hh fh hb fb (by omega) hpart) (vGV q_402 q_188 q_189 q_25 q_190) ⟨by decide, by decide, (show _ = some 2 from by decide +kernel)⟩ ⟨Nat.le_of_ble_eq_true rfl, Nat.le_of_ble_eq_true rfl⟩ ix3 2 rfl rfl (hix3.trans (by rw [fh])) rfl (Nat.le_of_ble_eq_true rfl) dX3_needPlaces_3 ⟨Nat.le_of_ble_eq_true rfl, Nat.le_of_ble_eq_true rfl⟩ ?_
  refine vIfN_neF X 19 dX3_needPlaces_6 (by decide) (by omega) (by omega) ?_
  exact vThrowS X hE hl hnt (by decide +kernel) q_349 q_33 t_403 xg1_210 xg2_210 xg3_210 dX3_needPlaces_9 dX3_needPlaces_12 dX3_needPlaces_13 dX3_needPlaces_15 dX3_needPlaces_18 (Nat.le_of_ble_eq_true rfl) (Nat.le_of_ble_eq_true rfl) (Nat.le_of_ble_eq_true rfl) (Nat.le_of_ble_eq_true rfl) (Nat.le_of_ble_eq_true rfl) (Nat.le_of_ble_eq_true rfl)
set_option maxHeartbeats 4000000 in
set_option maxRecDepth 100000 in
theorem cb_needRoom (l : Launch) (D : va_G) (k : Nat → ClassId) (sb : Nat) (L : List Nat) (f : Nat → va_E) (u ur ub c : Nat) (gu : Nat → Int32) (m : Nat) (hu : u ∈ L) (fu : f u = .inr (0, [.ref ur, .int (nI c)])) (hur : ur ∈ L) (fur : f ur = .inr (2, [.ref ub])) (hub : ub ∈ L) (fub : f ub = .inl (k 0, 256, .inl gu)) (hc : c ≤ 256) (hm : c + m ≤ 256) : vCt l yX3_needRoom cX3_needRoom 2 none 8 110 0 0 D vCl (vTy k) sb [.ref (u), .int (nI (m))] (va_pl L f) (vDet none (va_pl L f)) := by
  refine vOf (by decide +kernel) (Nat.le_of_ble_eq_true rfl) (fun p9 e9 s9 m9 below9 meth9 c9 X hret hmn => ?_)
  refine vIloadN X dX3_needRoom_0 1 rfl ?_
  refine vAloadN X dX3_needRoom_1 0 rfl ?_
  obtain ⟨ix2, hix2⟩ := vp_ix (f := f) hu
  refine vCallVd X [.int (nI (m))] (cg_room l D k sb L f u ur ub (c) (gu)  hu fu hur fur hub fub (by omega) ) (vGV q_446 q_447 q_448 q_27 q_449) ⟨by decide, by decide, (show _ = some 0 from by decide +kernel)⟩ ⟨Nat.le_of_ble_eq_true rfl, Nat.le_of_ble_eq_true rfl⟩ ix2 0 rfl rfl (hix2.trans (by rw [fu])) rfl (Nat.le_of_ble_eq_true rfl) dX3_needRoom_2 ⟨Nat.le_of_ble_eq_true rfl, Nat.le_of_ble_eq_true rfl⟩ ?_
  refine vIcmpN_leT X 18 dX3_needRoom_5 (by decide) (by omega) (by omega) (by omega) ?_
  exact vRetV X hret dX3_needRoom_18 ⟨rfl, rfl⟩
set_option maxHeartbeats 4000000 in
set_option maxRecDepth 100000 in
theorem ct_needRoom (l : Launch) (D : va_G) (k : Nat → ClassId) (sb : Nat) (L : List Nat) (f : Nat → va_E) (u ur ub c : Nat) (gu : Nat → Int32) (m : Nat) (hl : l.stackTraces = false) (hu : u ∈ L) (fu : f u = .inr (0, [.ref ur, .int (nI c)])) (hur : ur ∈ L) (fur : f ur = .inr (2, [.ref ub])) (hub : ub ∈ L) (fub : f ub = .inl (k 0, 256, .inl gu)) (hc : c ≤ 256) (hm2 : m ≤ 256) (hm : 256 < c + m) : vCtX l yX3_needRoom cX3_needRoom 2 none 8 110 1 6 D vCl (vTy k) sb [.ref (u), .int (nI (m))] (va_pl L f) "java/lang/IllegalStateException" := by
  refine vOfX (by decide +kernel) (Nat.le_of_ble_eq_true rfl) (fun p9 e9 s9 m9 below9 meth9 c9 X hE hnt => ?_)
  refine vIloadN X dX3_needRoom_0 1 rfl ?_
  refine vAloadN X dX3_needRoom_1 0 rfl ?_
  obtain ⟨ix2, hix2⟩ := vp_ix (f := f) hu
  refine vCallVd X [.int (nI (m))] (cg_room l D k sb L f u ur ub (c) (gu)  hu fu hur fur hub fub (by omega) ) (vGV q_446 q_447 q_448 q_27 q_449) ⟨by decide, by decide, (show _ = some 0 from by decide +kernel)⟩ ⟨Nat.le_of_ble_eq_true rfl, Nat.le_of_ble_eq_true rfl⟩ ix2 0 rfl rfl (hix2.trans (by rw [fu])) rfl (Nat.le_of_ble_eq_true rfl) dX3_needRoom_2 ⟨Nat.le_of_ble_eq_true rfl, Nat.le_of_ble_eq_true rfl⟩ ?_
  refine vIcmpN_leF X 18 dX3_needRoom_5 (by decide) (by omega) (by omega) (by omega) ?_
  exact vThrowS X hE hl hnt (by decide +kernel) q_451 q_37 t_460 xg1_228 xg2_228 xg3_228 dX3_needRoom_8 dX3_needRoom_11 dX3_needRoom_12 dX3_needRoom_14 dX3_needRoom_17 (Nat.le_of_ble_eq_true rfl) (Nat.le_of_ble_eq_true rfl) (Nat.le_of_ble_eq_true rfl) (Nat.le_of_ble_eq_true rfl) (Nat.le_of_ble_eq_true rfl) (Nat.le_of_ble_eq_true rfl)
set_option maxHeartbeats 4000000 in
set_option maxRecDepth 100000 in
theorem cb_needWanted (l : Launch) (D : va_G) (k : Nat → ClassId) (sb : Nat) (L : List Nat) (f : Nat → va_E) (m : Nat) (hm : m < 2 ^ 63) : vCt l yX3_needWanted cX3_needWanted 2 none 8 110 0 0 D vCl (vTy k) sb [.long (lN (m))] (va_pl L f) (vDet none (va_pl L f)) := by
  refine vOf (by decide +kernel) (Nat.le_of_ble_eq_true rfl) (fun p9 e9 s9 m9 below9 meth9 c9 X hret hmn => ?_)
  refine vLloadN X dX3_needWanted_0 0 rfl ?_
  refine vLconst X dX3_needWanted_1 (v := lN 0) (by decide) ?_
  refine vLcmp X dX3_needWanted_2 ?_
  refine vIf_geT X 16 dX3_needWanted_3 (by decide) (lgc_ge hm (by omega) (by omega)) ?_
  exact vRetV X hret dX3_needWanted_16 ⟨rfl, rfl⟩
set_option maxHeartbeats 4000000 in
set_option maxRecDepth 100000 in
theorem ct_needWanted (l : Launch) (D : va_G) (k : Nat → ClassId) (sb : Nat) (L : List Nat) (f : Nat → va_E) (v : Int64) (hl : l.stackTraces = false) (hv : v < lN 0) : vCtX l yX3_needWanted cX3_needWanted 2 none 8 110 1 6 D vCl (vTy k) sb [.long (v)] (va_pl L f) "java/lang/IllegalArgumentException" := by
  refine vOfX (by decide +kernel) (Nat.le_of_ble_eq_true rfl) (fun p9 e9 s9 m9 below9 meth9 c9 X hE hnt => ?_)
  refine vLloadN X dX3_needWanted_0 0 rfl ?_
  refine vLconst X dX3_needWanted_1 (v := lN 0) (by decide) ?_
  refine vLcmp X dX3_needWanted_2 ?_
  refine vIf_geF X 16 dX3_needWanted_3 (by decide) (lgc_neg hv) ?_
  exact vThrowS X hE hl hnt (by decide +kernel) q_362 q_36 t_595 xg1_48 xg2_48 xg3_48 dX3_needWanted_6 dX3_needWanted_9 dX3_needWanted_10 dX3_needWanted_12 dX3_needWanted_15 (Nat.le_of_ble_eq_true rfl) (Nat.le_of_ble_eq_true rfl) (Nat.le_of_ble_eq_true rfl) (Nat.le_of_ble_eq_true rfl) (Nat.le_of_ble_eq_true rfl) (Nat.le_of_ble_eq_true rfl)
set_option maxHeartbeats 4000000 in
set_option maxRecDepth 100000 in
theorem cb_needOpen (l : Launch) (D : va_G) (k : Nat → ClassId) (sb : Nat) (L : List Nat) (f : Nat → va_E) (r w b n s P M T Mt : Nat) (g : Nat → Int32) (hr : r ∈ L) (fr : f r = .inr (1, [.ref w, .int (nI s), .int (nI P), .int (nI M), .int (nI T), .int (nI Mt)])) (hw : w ∈ L) (fw : f w = .inr (2, [.ref b])) (hb : b ∈ L) (fb : f b = .inl (k 0, n, .inl g)) (hn : n ≤ 256) (hP : P ≤ n) (hs : s = 1) : vCt l yX3_needOpen cX3_needOpen 1 none 8 110 0 0 D vCl (vTy k) sb [.ref (r)] (va_pl L f) (vDet none (va_pl L f)) := by
  refine vOf (by decide +kernel) (Nat.le_of_ble_eq_true rfl) (fun p9 e9 s9 m9 below9 meth9 c9 X hret hmn => ?_)
  refine vAloadN X dX3_needOpen_0 0 rfl ?_
  obtain ⟨ix1, hix1⟩ := vp_ix (f := f) hr
  refine vCallVd X [] (cq_isStarted1 l D k sb L f r w b (n) (s) (P) (M) (T) (Mt) (g)  hr fr hw fw hb fb (by omega) (by omega) (by first | rfl | assumption)) (vGV q_157 q_158 q_159 q_28 q_160) ⟨by decide, by decide, (show _ = some 0 from by decide +kernel)⟩ ⟨Nat.le_of_ble_eq_true rfl, Nat.le_of_ble_eq_true rfl⟩ ix1 1 rfl rfl (hix1.trans (by rw [fr])) rfl (Nat.le_of_ble_eq_true rfl) dX3_needOpen_1 ⟨Nat.le_of_ble_eq_true rfl, Nat.le_of_ble_eq_true rfl⟩ ?_
  refine vIfN_neT X 17 dX3_needOpen_4 (by decide) (by omega) (by omega) ?_
  exact vRetV X hret dX3_needOpen_17 ⟨rfl, rfl⟩
set_option maxHeartbeats 4000000 in
set_option maxRecDepth 100000 in
theorem ct_needOpen (l : Launch) (D : va_G) (k : Nat → ClassId) (sb : Nat) (L : List Nat) (f : Nat → va_E) (r w b n s P M T Mt : Nat) (g : Nat → Int32) (hl : l.stackTraces = false) (hr : r ∈ L) (fr : f r = .inr (1, [.ref w, .int (nI s), .int (nI P), .int (nI M), .int (nI T), .int (nI Mt)])) (hw : w ∈ L) (fw : f w = .inr (2, [.ref b])) (hb : b ∈ L) (fb : f b = .inl (k 0, n, .inl g)) (hn : n ≤ 256) (hP : P ≤ n) (hs : s = 0) : vCtX l yX3_needOpen cX3_needOpen 1 none 8 110 1 6 D vCl (vTy k) sb [.ref (r)] (va_pl L f) "java/lang/UnsupportedOperationException" := by
  refine vOfX (by decide +kernel) (Nat.le_of_ble_eq_true rfl) (fun p9 e9 s9 m9 below9 meth9 c9 X hE hnt => ?_)
  refine vAloadN X dX3_needOpen_0 0 rfl ?_
  obtain ⟨ix1, hix1⟩ := vp_ix (f := f) hr
  refine vCallVd X [] (cq_isStarted0 l D k sb L f r w b (n) (s) (P) (M) (T) (Mt) (g)  hr fr hw fw hb fb (by omega) (by omega) (by first | rfl | assumption)) (vGV q_157 q_158 q_159 q_28 q_160) ⟨by decide, by decide, (show _ = some 0 from by decide +kernel)⟩ ⟨Nat.le_of_ble_eq_true rfl, Nat.le_of_ble_eq_true rfl⟩ ix1 1 rfl rfl (hix1.trans (by rw [fr])) rfl (Nat.le_of_ble_eq_true rfl) dX3_needOpen_1 ⟨Nat.le_of_ble_eq_true rfl, Nat.le_of_ble_eq_true rfl⟩ ?_
  refine vIfN_neF X 17 dX3_needOpen_4 (by decide) (by omega) (by omega) ?_
  exact vThrowS X hE hl hnt (by decide +kernel) q_545 q_39 t_554 xg1_235 xg2_235 xg3_235 dX3_needOpen_7 dX3_needOpen_10 dX3_needOpen_11 dX3_needOpen_13 dX3_needOpen_16 (Nat.le_of_ble_eq_true rfl) (Nat.le_of_ble_eq_true rfl) (Nat.le_of_ble_eq_true rfl) (Nat.le_of_ble_eq_true rfl) (Nat.le_of_ble_eq_true rfl) (Nat.le_of_ble_eq_true rfl)
