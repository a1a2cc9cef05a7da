theorem cpy_cpy (g gu : Nat → Int32) (P c m m2 : Nat) : va_cpy g (va_cpy g gu P c m) (P + m) (c + m) m2 = va_cpy g gu P c (m + m2) := by
  funext j
  simp only [va_cpy]
  by_cases h1 : c + m ≤ j ∧ j < c + m + m2
  · rw [if_pos h1, if_pos (by omega)]
    congr 1; omega
  · rw [if_neg h1]
    by_cases h2 : c ≤ j ∧ j < c + m
    · rw [if_pos h2, if_pos (by omega)]
    · rw [if_neg h2, if_neg (by omega)]
theorem cpy_0 (g gu : Nat → Int32) (P c : Nat) : va_cpy g gu P c 0 = gu := by
  funext j
  simp only [va_cpy]
  rw [if_neg (by omega)]
theorem pp_lt {i t n : Nat} (ht : 0 < t) (h : i < (n + t - 1) / t) : i * t < n := by
  have := (Nat.le_div_iff_mul_le ht).mp (Nat.succ_le_of_lt h)
  rw [Nat.succ_mul] at this
  omega
theorem pp_ge {i t n : Nat} (ht : 0 < t) (h : i = (n + t - 1) / t) : n ≤ i * t := by
  have h1 : (n + t - 1) / t < i + 1 := by omega
  have := (Nat.div_lt_iff_lt_mul ht).mp h1
  rw [Nat.succ_mul] at this
  omega
theorem pp_256 {t n : Nat} (ht : 0 < t) (h : n ≤ 256) : (n + t - 1) / t ≤ 256 := by
  have h1 : (n + t - 1) / t < 257 := by
    rw [Nat.div_lt_iff_lt_mul ht]
    omega
  omega
theorem va_id3 {f : Nat → va_E} {a b c : Nat} {X Y Z : va_E} (ha : f a = X) (hb : f b = Y) (hc : f c = Z) : f = va_up (va_up (va_up f a X) b Y) c Z := by
  rw [← va_up_id f a X ha, ← va_up_id f b Y hb, ← va_up_id f c Z hc]
theorem va_id2 {f : Nat → va_E} {a b : Nat} {X Y : va_E} (ha : f a = X) (hb : f b = Y) : f = va_up (va_up f a X) b Y := by
  rw [← va_up_id f a X ha, ← va_up_id f b Y hb]
set_option maxHeartbeats 4000000 in
set_option maxRecDepth 100000 in
theorem cLp_pourByParts {p9 : Program} {l : Launch} {e9 : Env} {s9 : State} {m9 : MethodId} {args9 : Array Value} {below9 : List Frame} {meth9 : Method} {c9 : Code} {Q9 : State → Prop} (D : va_G) (k : Nat → ClassId) (sb : Nat) (L : List Nat) (f : Nat → va_E) (rd w b n s P M T Mt : Nat) (g : Nat → Int32) (u ur ub c : Nat) (gu : Nat → Int32) (t K : Nat) (hrd : rd ∈ L) (frd : f rd = .inr (1, [.ref w, .int (nI s), .int (nI P), .int (nI M), .int (nI T), .int (nI Mt)])) (hw : w ∈ L) (fw : f w = .inr (2, [.ref b])) (hb : b ∈ L) (fb : f b = .inl (k 0, n, .inl g)) (hn : n ≤ 256) (hP : P ≤ n) (hu : u ∈ L) (fu : f u = .inr (0, [.ref ur, .int (nI c)])) (hur : ur ∈ L) (fur : f ur = .inr (2, [.ref ub])) (hub : ub ∈ L) (fub : f ub = .inl (k 0, 256, .inl gu)) (hc : c ≤ 256) (hbu : b ≠ ub) (ht : 0 < t) (ht2 : t ≤ 64) (hK : K = (n - P + t - 1) / t) (hK2 : K ≤ 256) (hm : c + (n - P) ≤ 256) (hgf : ∀ j, lb (g j) = g j) (X : vCX p9 s9 m9 args9 meth9 c9 cX3_pourByParts 4 yX3_pourByParts.cls (Cond.code yX3_pourByParts cX3_pourByParts 4 (some .int) :: vGW) D vCl (vTy k) sb) (hex : vV p9 l e9 ({ frames := 5, cells := 0, slots := 0, locals := 130 }) s9 m9 args9 below9 meth9 c9 4 D vCl sb Q9 (va_pl L (va_up (va_up (va_up f ub (.inl (k 0, 256, .inl (va_cpy g gu P c (n - P))))) u (.inr (0, [.ref (ur), .int (nI (c + (n - P)))]))) rd (.inr (1, [.ref (w), .int (nI (s)), .int (nI (P + (n - P))), .int (nI (M)), .int (nI (T + (n - P))), .int (nI (Mt))])))) 0 0 33 [(3, .int (nI (K)))] []) : ∀ (z i : Nat) (m1 : Nat), i + z = K → m1 = min (i * t) (n - P) → vV p9 l e9 ({ frames := 5, cells := 0, slots := 0, locals := 130 }) s9 m9 args9 below9 meth9 c9 4 D vCl sb Q9 (va_pl L (va_up (va_up (va_up f ub (.inl (k 0, 256, .inl (va_cpy g gu P c m1)))) u (.inr (0, [.ref (ur), .int (nI (c + m1))]))) rd (.inr (1, [.ref (w), .int (nI (s)), .int (nI (P + m1)), .int (nI (M)), .int (nI (T + m1)), .int (nI (Mt))])))) 0 0 2 [(3, .int (nI (i))), (0, .ref (rd)), (1, .ref (u)), (2, .int (nI (t)))] [] := by
  intro z
  induction z with
  | zero =>
    intro i m1 hi hm1
    have hin : K = i := by omega
    subst hin
    have hm2 : m1 = n - P := by
      have := pp_ge ht hK
      rw [hm1]; omega
    subst hm2
    refine vIloadN X dX3_pourByParts_2 0 rfl ?_
    refine vSipush X dX3_pourByParts_3 (v := nI (256)) (by decide) ?_
    refine vIcmp_ge X 33 dX3_pourByParts_6 (by decide) (fun hc6 => ?_) (fun hc6 => ?_)
    · refine vSub [0] [(3, .int (nI (K)))] rfl ?_
      exact hex
    · refine vAloadN X dX3_pourByParts_9 1 rfl ?_
      obtain ⟨ix10, hix10⟩ := vp_ix (f := va_up (va_up (va_up f ub (.inl (k 0, 256, .inl (va_cpy g gu P c (n - P))))) u (.inr (0, [.ref (ur), .int (nI (c + (n - P)))]))) rd (.inr (1, [.ref (w), .int (nI (s)), .int (nI (P + (n - P))), .int (nI (M)), .int (nI (T + (n - P))), .int (nI (Mt))]))) hrd
      refine vCallVd X [] (cq_remaining l D k sb L (va_up (va_up (va_up f ub (.inl (k 0, 256, .inl (va_cpy g gu P c (n - P))))) u (.inr (0, [.ref (ur), .int (nI (c + (n - P)))]))) rd (.inr (1, [.ref (w), .int (nI (s)), .int (nI (P + (n - P))), .int (nI (M)), .int (nI (T + (n - P))), .int (nI (Mt))]))) rd w b (n) (s) (P + (n - P)) (M) (T + (n - P)) (Mt) (g)  hrd (va_up_eq _ _ _) hw ((va_up_nq _ (ne_of fw frd (by simp))).trans ((va_up_nq _ (ne_of fw fu (by simp))).trans ((va_up_nq _ (ne_of fw fub (by simp))).trans fw))) hb ((va_up_nq _ (ne_of fb frd (by simp))).trans ((va_up_nq _ (ne_of fb fu (by simp))).trans ((va_up_nq _ hbu).trans fb))) (by omega) (by omega) ) (vGV q_161 q_162 q_163 q_28 q_164) ⟨by decide, by decide, (show _ = some 0 from by decide +kernel)⟩ ⟨Nat.le_of_ble_eq_true rfl, Nat.le_of_ble_eq_true rfl⟩ ix10 1 rfl rfl (hix10.trans (by rw [(va_up_eq _ _ _)])) rfl (Nat.le_of_ble_eq_true rfl) dX3_pourByParts_10 ⟨Nat.le_of_ble_eq_true rfl, Nat.le_of_ble_eq_true rfl⟩ ?_
      refine vIfN_leT X 33 dX3_pourByParts_13 (by decide) (by omega) (by omega) ?_
      refine vSub [0] [(3, .int (nI (K)))] rfl ?_
      exact hex
  | succ z ih =>
    intro i m1 hi hm1
    have hlt : i * t < n - P := pp_lt ht (show i < (n - P + t - 1) / t by rw [← hK]; omega)
    have hm3 : m1 = i * t := by rw [hm1]; omega
    obtain ⟨d, hd9⟩ : ∃ d, d = min t (n - (P + m1)) := ⟨_, rfl⟩
    refine vIloadN X dX3_pourByParts_2 0 rfl ?_
    refine vSipush X dX3_pourByParts_3 (v := nI (256)) (by decide) ?_
    refine vIcmpN_geF X 33 dX3_pourByParts_6 (by decide) (by omega) (by omega) (by omega) ?_
    refine vAloadN X dX3_pourByParts_9 1 rfl ?_
    obtain ⟨ix10, hix10⟩ := vp_ix (f := va_up (va_up (va_up f ub (.inl (k 0, 256, .inl (va_cpy g gu P c m1)))) u (.inr (0, [.ref (ur), .int (nI (c + m1))]))) rd (.inr (1, [.ref (w), .int (nI (s)), .int (nI (P + m1)), .int (nI (M)), .int (nI (T + m1)), .int (nI (Mt))]))) hrd
    refine vCallVd X [] (cq_remaining l D k sb L (va_up (va_up (va_up f ub (.inl (k 0, 256, .inl (va_cpy g gu P c m1)))) u (.inr (0, [.ref (ur), .int (nI (c + m1))]))) rd (.inr (1, [.ref (w), .int (nI (s)), .int (nI (P + m1)), .int (nI (M)), .int (nI (T + m1)), .int (nI (Mt))]))) rd w b (n) (s) (P + m1) (M) (T + m1) (Mt) (g)  hrd (va_up_eq _ _ _) hw ((va_up_nq _ (ne_of fw frd (by simp))).trans ((va_up_nq _ (ne_of fw fu (by simp))).trans ((va_up_nq _ (ne_of fw fub (by simp))).trans fw))) hb ((va_up_nq _ (ne_of fb frd (by simp))).trans ((va_up_nq _ (ne_of fb fu (by simp))).trans ((va_up_nq _ hbu).trans fb))) (by omega) (by omega) ) (vGV q_161 q_162 q_163 q_28 q_164) ⟨by decide, by decide, (show _ = some 0 from by decide +kernel)⟩ ⟨Nat.le_of_ble_eq_true rfl, Nat.le_of_ble_eq_true rfl⟩ ix10 1 rfl rfl (hix10.trans (by rw [(va_up_eq _ _ _)])) rfl (Nat.le_of_ble_eq_true rfl) dX3_pourByParts_10 ⟨Nat.le_of_ble_eq_true rfl, Nat.le_of_ble_eq_true rfl⟩ ?_
    refine vIfN_leF X 33 dX3_pourByParts_13 (by decide) (by omega) (by omega) ?_
    refine vAloadN X dX3_pourByParts_16 1 rfl ?_
    refine vAloadN X dX3_pourByParts_17 1 rfl ?_
    refine vAloadN X dX3_pourByParts_18 2 rfl ?_
    refine vIloadN X dX3_pourByParts_19 3 rfl ?_
    obtain ⟨ix20, hix20⟩ := vp_ix (f := va_up (va_up (va_up f ub (.inl (k 0, 256, .inl (va_cpy g gu P c m1)))) u (.inr (0, [.ref (ur), .int (nI (c + m1))]))) rd (.inr (1, [.ref (w), .int (nI (s)), .int (nI (P + m1)), .int (nI (M)), .int (nI (T + m1)), .int (nI (Mt))]))) hrd
    refine vCallVd X [.ref (rd)] (cq_pourInto l D k sb L (va_up (va_up (va_up f ub (.inl (k 0, 256, .inl (va_cpy g gu P c m1)))) u (.inr (0, [.ref (ur), .int (nI (c + m1))]))) rd (.inr (1, [.ref (w), .int (nI (s)), .int (nI (P + m1)), .int (nI (M)), .int (nI (T + m1)), .int (nI (Mt))]))) rd w b (n) (s) (P + m1) (M) (T + m1) (Mt) (g) u ur ub (c + m1) (va_cpy g gu P c m1) (t) (d) hrd (va_up_eq _ _ _) hw ((va_up_nq _ (ne_of fw frd (by simp))).trans ((va_up_nq _ (ne_of fw fu (by simp))).trans ((va_up_nq _ (ne_of fw fub (by simp))).trans fw))) hb ((va_up_nq _ (ne_of fb frd (by simp))).trans ((va_up_nq _ (ne_of fb fu (by simp))).trans ((va_up_nq _ hbu).trans fb))) (by omega) (by omega) hu ((va_up_nq _ (ne_of fu frd (by simp))).trans (va_up_eq _ _ _)) hur ((va_up_nq _ (ne_of fur frd (by simp))).trans ((va_up_nq _ (ne_of fur fu (by simp))).trans ((va_up_nq _ (ne_of fur fub (by simp))).trans fur))) hub ((va_up_nq _ (ne_of fub frd (by simp))).trans ((va_up_nq _ (ne_of fub fu (by simp))).trans (va_up_eq _ _ _))) (by omega) hbu (by omega) (by omega) (by omega) hgf) (vGV q_242 q_243 q_244 q_28 q_245) ⟨by decide, by decide, (show _ = some 2 from by decide +kernel)⟩ ⟨Nat.le_of_ble_eq_true rfl, Nat.le_of_ble_eq_true rfl⟩ ix20 1 rfl rfl (hix20.trans (by rw [(va_up_eq _ _ _)])) rfl (Nat.le_of_ble_eq_true rfl) dX3_pourByParts_20 ⟨Nat.le_of_ble_eq_true rfl, Nat.le_of_ble_eq_true rfl⟩ ?_
    refine vWs (ws' := va_pl L (va_up (va_up (va_up (va_up (va_up f u (.inr (0, [.ref (ur), .int (nI (c + m1))]))) rd (.inr (1, [.ref (w), .int (nI (s)), .int (nI (P + m1)), .int (nI (M)), .int (nI (T + m1)), .int (nI (Mt))]))) ub (.inl (k 0, 256, .inl (va_cpy g (va_cpy g gu P c m1) (P + m1) (c + m1) (d))))) u (.inr (0, [.ref (ur), .int (nI ((c + m1) + (d)))]))) rd (.inr (1, [.ref (w), .int (nI (s)), .int (nI ((P + m1) + (d))), .int (nI (M)), .int (nI (T + m1)), .int (nI (Mt))])))) (congrArg (fun φ9 => va_pl L (va_up (va_up φ9 u (.inr (0, [.ref (ur), .int (nI ((c + m1) + (d)))]))) rd (.inr (1, [.ref (w), .int (nI (s)), .int (nI ((P + m1) + (d))), .int (nI (M)), .int (nI (T + m1)), .int (nI (Mt))])))) va_up_sh2) ?_
    refine vWs (ws' := va_pl L (va_up (va_up (va_up (va_up f rd (.inr (1, [.ref (w), .int (nI (s)), .int (nI (P + m1)), .int (nI (M)), .int (nI (T + m1)), .int (nI (Mt))]))) ub (.inl (k 0, 256, .inl (va_cpy g (va_cpy g gu P c m1) (P + m1) (c + m1) (d))))) u (.inr (0, [.ref (ur), .int (nI ((c + m1) + (d)))]))) rd (.inr (1, [.ref (w), .int (nI (s)), .int (nI ((P + m1) + (d))), .int (nI (M)), .int (nI (T + m1)), .int (nI (Mt))])))) (congrArg (fun φ9 => va_pl L (va_up φ9 rd (.inr (1, [.ref (w), .int (nI (s)), .int (nI ((P + m1) + (d))), .int (nI (M)), .int (nI (T + m1)), .int (nI (Mt))])))) va_up_sh2) ?_
    refine vWs (ws' := va_pl L (va_up (va_up (va_up f ub (.inl (k 0, 256, .inl (va_cpy g (va_cpy g gu P c m1) (P + m1) (c + m1) (d))))) u (.inr (0, [.ref (ur), .int (nI ((c + m1) + (d)))]))) rd (.inr (1, [.ref (w), .int (nI (s)), .int (nI ((P + m1) + (d))), .int (nI (M)), .int (nI (T + m1)), .int (nI (Mt))])))) (congrArg (fun φ9 => va_pl L (φ9)) va_up_sh2) ?_
    obtain ⟨ix23, hix23⟩ := vp_ix (f := va_up (va_up (va_up f ub (.inl (k 0, 256, .inl (va_cpy g (va_cpy g gu P c m1) (P + m1) (c + m1) (d))))) u (.inr (0, [.ref (ur), .int (nI ((c + m1) + (d)))]))) rd (.inr (1, [.ref (w), .int (nI (s)), .int (nI ((P + m1) + (d))), .int (nI (M)), .int (nI (T + m1)), .int (nI (Mt))]))) hrd
    refine vCallVd X [] (cq_tell l D k sb L (va_up (va_up (va_up f ub (.inl (k 0, 256, .inl (va_cpy g (va_cpy g gu P c m1) (P + m1) (c + m1) (d))))) u (.inr (0, [.ref (ur), .int (nI ((c + m1) + (d)))]))) rd (.inr (1, [.ref (w), .int (nI (s)), .int (nI ((P + m1) + (d))), .int (nI (M)), .int (nI (T + m1)), .int (nI (Mt))]))) rd w b (n) (s) ((P + m1) + (d)) (M) (T + m1) (Mt) (g) d hrd (va_up_eq _ _ _) hw ((va_up_nq _ (ne_of fw frd (by simp))).trans ((va_up_nq _ (ne_of fw fu (by simp))).trans ((va_up_nq _ (ne_of fw fub (by simp))).trans fw))) hb ((va_up_nq _ (ne_of fb frd (by simp))).trans ((va_up_nq _ (ne_of fb fu (by simp))).trans ((va_up_nq _ hbu).trans fb))) (by omega) (by omega) ) (vGV q_250 q_251 q_252 q_28 q_253) ⟨by decide, by decide, (show _ = some 1 from by decide +kernel)⟩ ⟨Nat.le_of_ble_eq_true rfl, Nat.le_of_ble_eq_true rfl⟩ ix23 1 rfl rfl (hix23.trans (by rw [(va_up_eq _ _ _)])) rfl (Nat.le_of_ble_eq_true rfl) dX3_pourByParts_23 ⟨Nat.le_of_ble_eq_true rfl, Nat.le_of_ble_eq_true rfl⟩ ?_
    refine vWs (ws' := va_pl L (va_up (va_up (va_up f ub (.inl (k 0, 256, .inl (va_cpy g (va_cpy g gu P c m1) (P + m1) (c + m1) (d))))) u (.inr (0, [.ref (ur), .int (nI ((c + m1) + (d)))]))) rd (.inr (1, [.ref (w), .int (nI (s)), .int (nI ((P + m1) + (d))), .int (nI (M)), .int (nI ((T + m1) + (d))), .int (nI (Mt))])))) (congrArg (fun φ9 => va_pl L (φ9)) (va_up_up _ _ _ _)) ?_
    refine vPop X dX3_pourByParts_26 rfl ?_
    refine vIinc X [(3, .int (nI (i + 1))), (0, .ref (rd)), (1, .ref (u)), (2, .int (nI (t)))] dX3_pourByParts_27 0 rfl (nI_inc _) (by decide) rfl ?_
    refine vGoto X 2 dX3_pourByParts_30 (by decide) ?_
    refine vSub [0, 1, 2, 3] [(3, .int (nI (i + 1))), (0, .ref (rd)), (1, .ref (u)), (2, .int (nI (t)))] rfl ?_
    refine vWs (ws' := va_pl L (va_up (va_up (va_up f ub (.inl (k 0, 256, .inl (va_cpy g gu P c (m1 + d))))) u (.inr (0, [.ref (ur), .int (nI (c + (m1 + d)))]))) rd (.inr (1, [.ref (w), .int (nI (s)), .int (nI (P + (m1 + d))), .int (nI (M)), .int (nI (T + (m1 + d))), .int (nI (Mt))])))) (by simp only [cpy_cpy, Nat.add_assoc]) ?_
    exact ih (i + 1) (m1 + d) (by omega) (by rw [Nat.succ_mul]; omega)
set_option maxHeartbeats 4000000 in
set_option maxRecDepth 100000 in
theorem cb_pourByParts (l : Launch) (D : va_G) (k : Nat → ClassId) (sb : Nat) (L : List Nat) (f : Nat → va_E) (rd w b n s P M T Mt : Nat) (g : Nat → Int32) (u ur ub c : Nat) (gu : Nat → Int32) (t K : Nat) (hrd : rd ∈ L) (frd : f rd = .inr (1, [.ref w, .int (nI s), .int (nI P), .int (nI M), .int (nI T), .int (nI Mt)])) (hw : w ∈ L) (fw : f w = .inr (2, [.ref b])) (hb : b ∈ L) (fb : f b = .inl (k 0, n, .inl g)) (hn : n ≤ 256) (hP : P ≤ n) (hu : u ∈ L) (fu : f u = .inr (0, [.ref ur, .int (nI c)])) (hur : ur ∈ L) (fur : f ur = .inr (2, [.ref ub])) (hub : ub ∈ L) (fub : f ub = .inl (k 0, 256, .inl gu)) (hc : c ≤ 256) (hbu : b ≠ ub) (ht : 0 < t) (ht2 : t ≤ 64) (hK : K = (n - P + t - 1) / t) (hK2 : K ≤ 256) (hm : c + (n - P) ≤ 256) (hgf : ∀ j, lb (g j) = g j) : vCt l yX3_pourByParts cX3_pourByParts 4 (some .int) 5 130 0 0 D vCl (vTy k) sb [.ref (rd), .ref (u), .int (nI (t))] (va_pl L f) (vDet (some (.int (nI (K)))) (va_pl L (va_up (va_up (va_up f ub (.inl (k 0, 256, .inl (va_cpy g gu P c (n - P))))) u (.inr (0, [.ref (ur), .int (nI (c + (n - P)))]))) rd (.inr (1, [.ref (w), .int (nI (s)), .int (nI (P + (n - P))), .int (nI (M)), .int (nI (T + (n - P))), .int (nI (Mt))]))))) := by
  refine vOf (by decide +kernel) (Nat.le_of_ble_eq_true rfl) (fun p9 e9 s9 m9 below9 meth9 c9 X hret hmn => ?_)
  refine vIconst X dX3_pourByParts_0 (v := nI (0)) (by decide) ?_
  refine vIstoreN X [(3, .int (nI (0))), (0, .ref (rd)), (1, .ref (u)), (2, .int (nI (t)))] dX3_pourByParts_1 (by decide) rfl ?_
  refine vWs (ws' := va_pl L (va_up (va_up (va_up f ub (.inl (k 0, 256, .inl (va_cpy g gu P c 0)))) u (.inr (0, [.ref (ur), .int (nI (c + 0))]))) rd (.inr (1, [.ref (w), .int (nI (s)), .int (nI (P + 0)), .int (nI (M)), .int (nI (T + 0)), .int (nI (Mt))])))) (congrArg (va_pl L) (va_id3 (by rw [cpy_0]; exact fub) fu frd)) ?_
  refine vSub [0, 1, 2, 3] [(3, .int (nI (0))), (0, .ref (rd)), (1, .ref (u)), (2, .int (nI (t)))] rfl ?_
  refine cLp_pourByParts D k sb L f rd w b n s P M T Mt g u ur ub c gu t K hrd frd hw fw hb fb hn hP hu fu hur fur hub fub hc hbu ht ht2 hK hK2 hm hgf X ?_ (K) 0 0 (by omega) (by rw [Nat.zero_mul]; omega)
  refine vIloadN X dX3_pourByParts_33 0 rfl ?_
  exact vRetI X hret dX3_pourByParts_34 ⟨rfl, rfl⟩
set_option maxHeartbeats 4000000 in
set_option maxRecDepth 100000 in
theorem ct_pourParts3a (l : Launch) (D : va_G) (k : Nat → ClassId) (sb : Nat) (L : List Nat) (f : Nat → va_E) (x aW aG aR tr tg : Nat) (gW gG gR : Nat → Option Nat) (q : Nat) (rd w b n s P M T Mt : Nat) (g : Nat → Int32) (y : Nat) (u ur ub c : Nat) (gu : Nat → Int32) (pt : Int32) (hl : l.stackTraces = false) (hx : x ∈ L) (fx : f x = .inr (3, [.ref aW, .ref aG, .ref aR, .ref tr, .ref tg])) (haW : aW ∈ L) (faW : f aW = .inl (k 4, 4, .inr (.inr (.inr (.inr gW))))) (haG : aG ∈ L) (faG : f aG = .inl (k 2, 3, .inr (.inr (.inr (.inr gG))))) (haR : aR ∈ L) (faR : f aR = .inl (k 3, 3, .inr (.inr (.inr (.inr gR))))) (hq9 : q < 3) (eq : gR q = some rd) (hrd : rd ∈ L) (frd : f rd = .inr (1, [.ref w, .int (nI s), .int (nI P), .int (nI M), .int (nI T), .int (nI Mt)])) (hw : w ∈ L) (fw : f w = .inr (2, [.ref b])) (hb : b ∈ L) (fb : f b = .inl (k 0, n, .inl g)) (hn : n ≤ 256) (hP : P ≤ n) (hy9 : y < 3) (eu : gG y = some u) (hu : u ∈ L) (fu : f u = .inr (0, [.ref ur, .int (nI c)])) (hur : ur ∈ L) (fur : f ur = .inr (2, [.ref ub])) (hub : ub ∈ L) (fub : f ub = .inl (k 0, 256, .inl gu)) (hc : c ≤ 256) (hv9 : pt < nI 1) : vCtX l yX3_pourParts cX3_pourParts 6 (some .int) 9 153 1 6 D vCl (vTy k) sb [.ref (x), .int (nI (q)), .int (nI (y)), .int (pt)] (va_pl L f) "java/lang/IllegalArgumentException" := by
  refine vOfX (by decide +kernel) (Nat.le_of_ble_eq_true rfl) (fun p9 e9 s9 m9 below9 meth9 c9 X hE hnt => ?_)
  refine vAloadN X dX3_pourParts_0 0 rfl ?_
  refine vIloadN X dX3_pourParts_1 1 rfl ?_
  obtain ⟨ix2, hix2⟩ := vp_ix (f := f) hx
  refine vCallVd X [] (cb_readerAt l D k sb L f x aW aG aR tr tg (gW) (gG) (gR) q rd hx fx haW faW haG faG haR faR (by omega) eq) (vGV q_522 q_524 q_6 q_24 q_525) ⟨by decide, by decide, (show _ = some 1 from by decide +kernel)⟩ ⟨Nat.le_of_ble_eq_true rfl, Nat.le_of_ble_eq_true rfl⟩ ix2 3 rfl rfl (hix2.trans (by rw [fx])) rfl (Nat.le_of_ble_eq_true rfl) dX3_pourParts_2 ⟨Nat.le_of_ble_eq_true rfl, Nat.le_of_ble_eq_true rfl⟩ ?_
  refine vAstore X [(4, .ref (rd)), (0, .ref (x)), (1, .int (nI (q))), (2, .int (nI (y))), (3, .int (pt))] dX3_pourParts_5 (by decide) rfl ?_
  refine vAloadN X dX3_pourParts_7 1 rfl ?_
  refine vIloadN X dX3_pourParts_8 3 rfl ?_
  obtain ⟨ix9, hix9⟩ := vp_ix (f := f) hx
  refine vCallVd X [] (cb_gathererAt l D k sb L f x aW aG aR tr tg (gW) (gG) (gR) y u hx fx haW faW haG faG haR faR (by omega) eu) (vGV q_438 q_440 q_5 q_24 q_441) ⟨by decide, by decide, (show _ = some 1 from by decide +kernel)⟩ ⟨Nat.le_of_ble_eq_true rfl, Nat.le_of_ble_eq_true rfl⟩ ix9 3 rfl rfl (hix9.trans (by rw [fx])) rfl (Nat.le_of_ble_eq_true rfl) dX3_pourParts_9 ⟨Nat.le_of_ble_eq_true rfl, Nat.le_of_ble_eq_true rfl⟩ ?_
  refine vAstore X [(5, .ref (u)), (4, .ref (rd)), (0, .ref (x)), (1, .int (nI (q))), (2, .int (nI (y))), (3, .int (pt))] dX3_pourParts_12 (by decide) rfl ?_
  refine vIloadN X dX3_pourParts_14 5 rfl ?_
  refine vIconst X dX3_pourParts_15 (v := nI (1)) (by decide) ?_
  refine vIcmp_ltT X 25 dX3_pourParts_16 (by decide) (by first | assumption | exact Int32.not_lt.mpr (by assumption) | exact Int32.not_le.mpr (by assumption) | exact Int32.not_lt.mp (by assumption) | exact Int32.not_le.mp (by assumption) | decide) ?_
  exact vThrowS X hE hl hnt (by decide +kernel) q_362 q_36 t_687 xg1_48 xg2_48 xg3_48 dX3_pourParts_25 dX3_pourParts_28 dX3_pourParts_29 dX3_pourParts_31 dX3_pourParts_34 (Nat.le_of_ble_eq_true rfl) (Nat.le_of_ble_eq_true rfl) (Nat.le_of_ble_eq_true rfl) (Nat.le_of_ble_eq_true rfl) (Nat.le_of_ble_eq_true rfl) (Nat.le_of_ble_eq_true rfl)
set_option maxHeartbeats 4000000 in
set_option maxRecDepth 100000 in
theorem ct_pourParts3b (l : Launch) (D : va_G) (k : Nat → ClassId) (sb : Nat) (L : List Nat) (f : Nat → va_E) (x aW aG aR tr tg : Nat) (gW gG gR : Nat → Option Nat) (q : Nat) (rd w b n s P M T Mt : Nat) (g : Nat → Int32) (y : Nat) (u ur ub c : Nat) (gu : Nat → Int32) (pt : Int32) (hl : l.stackTraces = false) (hx : x ∈ L) (fx : f x = .inr (3, [.ref aW, .ref aG, .ref aR, .ref tr, .ref tg])) (haW : aW ∈ L) (faW : f aW = .inl (k 4, 4, .inr (.inr (.inr (.inr gW))))) (haG : aG ∈ L) (faG : f aG = .inl (k 2, 3, .inr (.inr (.inr (.inr gG))))) (haR : aR ∈ L) (faR : f aR = .inl (k 3, 3, .inr (.inr (.inr (.inr gR))))) (hq9 : q < 3) (eq : gR q = some rd) (hrd : rd ∈ L) (frd : f rd = .inr (1, [.ref w, .int (nI s), .int (nI P), .int (nI M), .int (nI T), .int (nI Mt)])) (hw : w ∈ L) (fw : f w = .inr (2, [.ref b])) (hb : b ∈ L) (fb : f b = .inl (k 0, n, .inl g)) (hn : n ≤ 256) (hP : P ≤ n) (hy9 : y < 3) (eu : gG y = some u) (hu : u ∈ L) (fu : f u = .inr (0, [.ref ur, .int (nI c)])) (hur : ur ∈ L) (fur : f ur = .inr (2, [.ref ub])) (hub : ub ∈ L) (fub : f ub = .inl (k 0, 256, .inl gu)) (hc : c ≤ 256) (hv8 : nI 1 ≤ pt) (hv9 : nI 64 < pt) : vCtX l yX3_pourParts cX3_pourParts 6 (some .int) 9 153 1 6 D vCl (vTy k) sb [.ref (x), .int (nI (q)), .int (nI (y)), .int (pt)] (va_pl L f) "java/lang/IllegalArgumentException" := by
  refine vOfX (by decide +kernel) (Nat.le_of_ble_eq_true rfl) (fun p9 e9 s9 m9 below9 meth9 c9 X hE hnt => ?_)
  refine vAloadN X dX3_pourParts_0 0 rfl ?_
  refine vIloadN X dX3_pourParts_1 1 rfl ?_
  obtain ⟨ix2, hix2⟩ := vp_ix (f := f) hx
  refine vCallVd X [] (cb_readerAt l D k sb L f x aW aG aR tr tg (gW) (gG) (gR) q rd hx fx haW faW haG faG haR faR (by omega) eq) (vGV q_522 q_524 q_6 q_24 q_525) ⟨by decide, by decide, (show _ = some 1 from by decide +kernel)⟩ ⟨Nat.le_of_ble_eq_true rfl, Nat.le_of_ble_eq_true rfl⟩ ix2 3 rfl rfl (hix2.trans (by rw [fx])) rfl (Nat.le_of_ble_eq_true rfl) dX3_pourParts_2 ⟨Nat.le_of_ble_eq_true rfl, Nat.le_of_ble_eq_true rfl⟩ ?_
  refine vAstore X [(4, .ref (rd)), (0, .ref (x)), (1, .int (nI (q))), (2, .int (nI (y))), (3, .int (pt))] dX3_pourParts_5 (by decide) rfl ?_
  refine vAloadN X dX3_pourParts_7 1 rfl ?_
  refine vIloadN X dX3_pourParts_8 3 rfl ?_
  obtain ⟨ix9, hix9⟩ := vp_ix (f := f) hx
  refine vCallVd X [] (cb_gathererAt l D k sb L f x aW aG aR tr tg (gW) (gG) (gR) y u hx fx haW faW haG faG haR faR (by omega) eu) (vGV q_438 q_440 q_5 q_24 q_441) ⟨by decide, by decide, (show _ = some 1 from by decide +kernel)⟩ ⟨Nat.le_of_ble_eq_true rfl, Nat.le_of_ble_eq_true rfl⟩ ix9 3 rfl rfl (hix9.trans (by rw [fx])) rfl (Nat.le_of_ble_eq_true rfl) dX3_pourParts_9 ⟨Nat.le_of_ble_eq_true rfl, Nat.le_of_ble_eq_true rfl⟩ ?_
  refine vAstore X [(5, .ref (u)), (4, .ref (rd)), (0, .ref (x)), (1, .int (nI (q))), (2, .int (nI (y))), (3, .int (pt))] dX3_pourParts_12 (by decide) rfl ?_
  refine vIloadN X dX3_pourParts_14 5 rfl ?_
  refine vIconst X dX3_pourParts_15 (v := nI (1)) (by decide) ?_
  refine vIcmp_ltF X 25 dX3_pourParts_16 (by decide) (by first | assumption | exact Int32.not_lt.mpr (by assumption) | exact Int32.not_le.mpr (by assumption) | exact Int32.not_lt.mp (by assumption) | exact Int32.not_le.mp (by assumption) | decide) ?_
  refine vIloadN X dX3_pourParts_19 5 rfl ?_
  refine vBipush X dX3_pourParts_20 (v := nI (64)) (by decide) ?_
  refine vIcmp_leF X 35 dX3_pourParts_22 (by decide) (by first | assumption | exact Int32.not_lt.mpr (by assumption) | exact Int32.not_le.mpr (by assumption) | exact Int32.not_lt.mp (by assumption) | exact Int32.not_le.mp (by assumption) | decide) ?_
  exact vThrowS X hE hl hnt (by decide +kernel) q_362 q_36 t_687 xg1_48 xg2_48 xg3_48 dX3_pourParts_25 dX3_pourParts_28 dX3_pourParts_29 dX3_pourParts_31 dX3_pourParts_34 (Nat.le_of_ble_eq_true rfl) (Nat.le_of_ble_eq_true rfl) (Nat.le_of_ble_eq_true rfl) (Nat.le_of_ble_eq_true rfl) (Nat.le_of_ble_eq_true rfl) (Nat.le_of_ble_eq_true rfl)
set_option maxHeartbeats 4000000 in
set_option maxRecDepth 100000 in
theorem ct_pourParts4 (l : Launch) (D : va_G) (k : Nat → ClassId) (sb : Nat) (L : List Nat) (f : Nat → va_E) (x aW aG aR tr tg : Nat) (gW gG gR : Nat → Option Nat) (q : Nat) (rd w b n s P M T Mt : Nat) (g : Nat → Int32) (y : Nat) (u ur ub c : Nat) (gu : Nat → Int32) (t : Nat) (hl : l.stackTraces = false) (hx : x ∈ L) (fx : f x = .inr (3, [.ref aW, .ref aG, .ref aR, .ref tr, .ref tg])) (haW : aW ∈ L) (faW : f aW = .inl (k 4, 4, .inr (.inr (.inr (.inr gW))))) (haG : aG ∈ L) (faG : f aG = .inl (k 2, 3, .inr (.inr (.inr (.inr gG))))) (haR : aR ∈ L) (faR : f aR = .inl (k 3, 3, .inr (.inr (.inr (.inr gR))))) (hq9 : q < 3) (eq : gR q = some rd) (hrd : rd ∈ L) (frd : f rd = .inr (1, [.ref w, .int (nI s), .int (nI P), .int (nI M), .int (nI T), .int (nI Mt)])) (hw : w ∈ L) (fw : f w = .inr (2, [.ref b])) (hb : b ∈ L) (fb : f b = .inl (k 0, n, .inl g)) (hn : n ≤ 256) (hP : P ≤ n) (hy9 : y < 3) (eu : gG y = some u) (hu : u ∈ L) (fu : f u = .inr (0, [.ref ur, .int (nI c)])) (hur : ur ∈ L) (fur : f ur = .inr (2, [.ref ub])) (hub : ub ∈ L) (fub : f ub = .inl (k 0, 256, .inl gu)) (hc : c ≤ 256) (ht : 0 < t) (ht2 : t ≤ 64) (hs : s = 0) : vCtX l yX3_pourParts cX3_pourParts 6 (some .int) 9 153 1 6 D vCl (vTy k) sb [.ref (x), .int (nI (q)), .int (nI (y)), .int (nI (t))] (va_pl L f) "java/lang/UnsupportedOperationException" := by
  refine vOfX (by decide +kernel) (Nat.le_of_ble_eq_true rfl) (fun p9 e9 s9 m9 below9 meth9 c9 X hE hnt => ?_)
  refine vAloadN X dX3_pourParts_0 0 rfl ?_
  refine vIloadN X dX3_pourParts_1 1 rfl ?_
  obtain ⟨ix2, hix2⟩ := vp_ix (f := f) hx
  refine vCallVd X [] (cb_readerAt l D k sb L f x aW aG aR tr tg (gW) (gG) (gR) q rd hx fx haW faW haG faG haR faR (by omega) eq) (vGV q_522 q_524 q_6 q_24 q_525) ⟨by decide, by decide, (show _ = some 1 from by decide +kernel)⟩ ⟨Nat.le_of_ble_eq_true rfl, Nat.le_of_ble_eq_true rfl⟩ ix2 3 rfl rfl (hix2.trans (by rw [fx])) rfl (Nat.le_of_ble_eq_true rfl) dX3_pourParts_2 ⟨Nat.le_of_ble_eq_true rfl, Nat.le_of_ble_eq_true rfl⟩ ?_
  refine vAstore X [(4, .ref (rd)), (0, .ref (x)), (1, .int (nI (q))), (2, .int (nI (y))), (3, .int (nI (t)))] dX3_pourParts_5 (by decide) rfl ?_
  refine vAloadN X dX3_pourParts_7 1 rfl ?_
  refine vIloadN X dX3_pourParts_8 3 rfl ?_
  obtain ⟨ix9, hix9⟩ := vp_ix (f := f) hx
  refine vCallVd X [] (cb_gathererAt l D k sb L f x aW aG aR tr tg (gW) (gG) (gR) y u hx fx haW faW haG faG haR faR (by omega) eu) (vGV q_438 q_440 q_5 q_24 q_441) ⟨by decide, by decide, (show _ = some 1 from by decide +kernel)⟩ ⟨Nat.le_of_ble_eq_true rfl, Nat.le_of_ble_eq_true rfl⟩ ix9 3 rfl rfl (hix9.trans (by rw [fx])) rfl (Nat.le_of_ble_eq_true rfl) dX3_pourParts_9 ⟨Nat.le_of_ble_eq_true rfl, Nat.le_of_ble_eq_true rfl⟩ ?_
  refine vAstore X [(5, .ref (u)), (4, .ref (rd)), (0, .ref (x)), (1, .int (nI (q))), (2, .int (nI (y))), (3, .int (nI (t)))] dX3_pourParts_12 (by decide) rfl ?_
  refine vIloadN X dX3_pourParts_14 5 rfl ?_
  refine vIconst X dX3_pourParts_15 (v := nI (1)) (by decide) ?_
  refine vIcmpN_ltF X 25 dX3_pourParts_16 (by decide) (by omega) (by omega) (by omega) ?_
  refine vIloadN X dX3_pourParts_19 5 rfl ?_
  refine vBipush X dX3_pourParts_20 (v := nI (64)) (by decide) ?_
  refine vIcmpN_leT X 35 dX3_pourParts_22 (by decide) (by omega) (by omega) (by omega) ?_
  refine vAload X dX3_pourParts_35 1 rfl ?_
  exact vCallST X hE hnt [] (ct_needOpen l D k sb L f rd w b (n) (s) (P) (M) (T) (Mt) (g) hl hrd frd hw fw hb fb (by omega) (by omega) (by first | rfl | assumption)) (vGS q_542 q_543 q_24 q_544) rfl ⟨by decide, by decide, (show _ = some 1 from by decide +kernel)⟩ ⟨Nat.le_of_ble_eq_true rfl, Nat.le_of_ble_eq_true rfl⟩ rfl (Nat.le_of_ble_eq_true rfl) dX3_pourParts_37 ⟨(Nat.le_of_ble_eq_true rfl), (Nat.le_of_ble_eq_true rfl)⟩ (Nat.le_of_ble_eq_true rfl) (Nat.le_of_ble_eq_true rfl)
set_option maxHeartbeats 4000000 in
set_option maxRecDepth 100000 in
theorem ct_pourParts5 (l : Launch) (D : va_G) (k : Nat → ClassId) (sb : Nat) (L : List Nat) (f : Nat → va_E) (x aW aG aR tr tg : Nat) (gW gG gR : Nat → Option Nat) (q : Nat) (rd w b n s P M T Mt : Nat) (g : Nat → Int32) (y : Nat) (u ur ub c : Nat) (gu : Nat → Int32) (t : Nat) (hl : l.stackTraces = false) (hx : x ∈ L) (fx : f x = .inr (3, [.ref aW, .ref aG, .ref aR, .ref tr, .ref tg])) (haW : aW ∈ L) (faW : f aW = .inl (k 4, 4, .inr (.inr (.inr (.inr gW))))) (haG : aG ∈ L) (faG : f aG = .inl (k 2, 3, .inr (.inr (.inr (.inr gG))))) (haR : aR ∈ L) (faR : f aR = .inl (k 3, 3, .inr (.inr (.inr (.inr gR))))) (hq9 : q < 3) (eq : gR q = some rd) (hrd : rd ∈ L) (frd : f rd = .inr (1, [.ref w, .int (nI s), .int (nI P), .int (nI M), .int (nI T), .int (nI Mt)])) (hw : w ∈ L) (fw : f w = .inr (2, [.ref b])) (hb : b ∈ L) (fb : f b = .inl (k 0, n, .inl g)) (hn : n ≤ 256) (hP : P ≤ n) (hy9 : y < 3) (eu : gG y = some u) (hu : u ∈ L) (fu : f u = .inr (0, [.ref ur, .int (nI c)])) (hur : ur ∈ L) (fur : f ur = .inr (2, [.ref ub])) (hub : ub ∈ L) (fub : f ub = .inl (k 0, 256, .inl gu)) (hc : c ≤ 256) (ht : 0 < t) (ht2 : t ≤ 64) (hs : s = 1) (hm : 256 < c + (n - P)) : vCtX l yX3_pourParts cX3_pourParts 6 (some .int) 9 153 1 6 D vCl (vTy k) sb [.ref (x), .int (nI (q)), .int (nI (y)), .int (nI (t))] (va_pl L f) "java/lang/IllegalStateException" := by
  refine vOfX (by decide +kernel) (Nat.le_of_ble_eq_true rfl) (fun p9 e9 s9 m9 below9 meth9 c9 X hE hnt => ?_)
  refine vAloadN X dX3_pourParts_0 0 rfl ?_
  refine vIloadN X dX3_pourParts_1 1 rfl ?_
  obtain ⟨ix2, hix2⟩ := vp_ix (f := f) hx
  refine vCallVd X [] (cb_readerAt l D k sb L f x aW aG aR tr tg (gW) (gG) (gR) q rd hx fx haW faW haG faG haR faR (by omega) eq) (vGV q_522 q_524 q_6 q_24 q_525) ⟨by decide, by decide, (show _ = some 1 from by decide +kernel)⟩ ⟨Nat.le_of_ble_eq_true rfl, Nat.le_of_ble_eq_true rfl⟩ ix2 3 rfl rfl (hix2.trans (by rw [fx])) rfl (Nat.le_of_ble_eq_true rfl) dX3_pourParts_2 ⟨Nat.le_of_ble_eq_true rfl, Nat.le_of_ble_eq_true rfl⟩ ?_
  refine vAstore X [(4, .ref (rd)), (0, .ref (x)), (1, .int (nI (q))), (2, .int (nI (y))), (3, .int (nI (t)))] dX3_pourParts_5 (by decide) rfl ?_
  refine vAloadN X dX3_pourParts_7 1 rfl ?_
  refine vIloadN X dX3_pourParts_8 3 rfl ?_
  obtain ⟨ix9, hix9⟩ := vp_ix (f := f) hx
  refine vCallVd X [] (cb_gathererAt l D k sb L f x aW aG aR tr tg (gW) (gG) (gR) y u hx fx haW faW haG faG haR faR (by omega) eu) (vGV q_438 q_440 q_5 q_24 q_441) ⟨by decide, by decide, (show _ = some 1 from by decide +kernel)⟩ ⟨Nat.le_of_ble_eq_true rfl, Nat.le_of_ble_eq_true rfl⟩ ix9 3 rfl rfl (hix9.trans (by rw [fx])) rfl (Nat.le_of_ble_eq_true rfl) dX3_pourParts_9 ⟨Nat.le_of_ble_eq_true rfl, Nat.le_of_ble_eq_true rfl⟩ ?_
  refine vAstore X [(5, .ref (u)), (4, .ref (rd)), (0, .ref (x)), (1, .int (nI (q))), (2, .int (nI (y))), (3, .int (nI (t)))] dX3_pourParts_12 (by decide) rfl ?_
  refine vIloadN X dX3_pourParts_14 5 rfl ?_
  refine vIconst X dX3_pourParts_15 (v := nI (1)) (by decide) ?_
  refine vIcmpN_ltF X 25 dX3_pourParts_16 (by decide) (by omega) (by omega) (by omega) ?_
  refine vIloadN X dX3_pourParts_19 5 rfl ?_
  refine vBipush X dX3_pourParts_20 (v := nI (64)) (by decide) ?_
  refine vIcmpN_leT X 35 dX3_pourParts_22 (by decide) (by omega) (by omega) (by omega) ?_
  refine vAload X dX3_pourParts_35 1 rfl ?_
  refine vCallSd X [] (cb_needOpen l D k sb L f rd w b (n) (s) (P) (M) (T) (Mt) (g)  hrd frd hw fw hb fb (by omega) (by omega) (by first | rfl | assumption)) (vGS q_542 q_543 q_24 q_544) rfl ⟨by decide, by decide, (show _ = some 1 from by decide +kernel)⟩ ⟨Nat.le_of_ble_eq_true rfl, Nat.le_of_ble_eq_true rfl⟩ rfl (Nat.le_of_ble_eq_true rfl) dX3_pourParts_37 ⟨Nat.le_of_ble_eq_true rfl, Nat.le_of_ble_eq_true rfl⟩ ?_
  refine vAload X dX3_pourParts_40 0 rfl ?_
  refine vAload X dX3_pourParts_42 1 rfl ?_
  obtain ⟨ix44, hix44⟩ := vp_ix (f := f) hrd
  refine vCallVd X [.ref (u)] (cq_remaining l D k sb L f rd w b (n) (s) (P) (M) (T) (Mt) (g)  hrd frd hw fw hb fb (by omega) (by omega) ) (vGV q_161 q_162 q_163 q_28 q_164) ⟨by decide, by decide, (show _ = some 0 from by decide +kernel)⟩ ⟨Nat.le_of_ble_eq_true rfl, Nat.le_of_ble_eq_true rfl⟩ ix44 1 rfl rfl (hix44.trans (by rw [frd])) rfl (Nat.le_of_ble_eq_true rfl) dX3_pourParts_44 ⟨Nat.le_of_ble_eq_true rfl, Nat.le_of_ble_eq_true rfl⟩ ?_
  exact vCallST X hE hnt [] (ct_needRoom l D k sb L f u ur ub (c) (gu) ((n) - (P)) hl hu fu hur fur hub fub (by omega) (by omega) (by omega)) (vGS q_443 q_444 q_24 q_445) rfl ⟨by decide, by decide, (show _ = some 2 from by decide +kernel)⟩ ⟨Nat.le_of_ble_eq_true rfl, Nat.le_of_ble_eq_true rfl⟩ rfl (Nat.le_of_ble_eq_true rfl) dX3_pourParts_47 ⟨(Nat.le_of_ble_eq_true rfl), (Nat.le_of_ble_eq_true rfl)⟩ (Nat.le_of_ble_eq_true rfl) (Nat.le_of_ble_eq_true rfl)
set_option maxHeartbeats 4000000 in
set_option maxRecDepth 100000 in
theorem cb_pourParts (l : Launch) (D : va_G) (k : Nat → ClassId) (sb : Nat) (L : List Nat) (f : Nat → va_E) (x aW aG aR tr tg : Nat) (gW gG gR : Nat → Option Nat) (q : Nat) (rd w b n s P M T Mt : Nat) (g : Nat → Int32) (y : Nat) (u ur ub c : Nat) (gu : Nat → Int32) (t : Nat) (hx : x ∈ L) (fx : f x = .inr (3, [.ref aW, .ref aG, .ref aR, .ref tr, .ref tg])) (haW : aW ∈ L) (faW : f aW = .inl (k 4, 4, .inr (.inr (.inr (.inr gW))))) (haG : aG ∈ L) (faG : f aG = .inl (k 2, 3, .inr (.inr (.inr (.inr gG))))) (haR : aR ∈ L) (faR : f aR = .inl (k 3, 3, .inr (.inr (.inr (.inr gR))))) (hq9 : q < 3) (eq : gR q = some rd) (hrd : rd ∈ L) (frd : f rd = .inr (1, [.ref w, .int (nI s), .int (nI P), .int (nI M), .int (nI T), .int (nI Mt)])) (hw : w ∈ L) (fw : f w = .inr (2, [.ref b])) (hb : b ∈ L) (fb : f b = .inl (k 0, n, .inl g)) (hn : n ≤ 256) (hP : P ≤ n) (hy9 : y < 3) (eu : gG y = some u) (hu : u ∈ L) (fu : f u = .inr (0, [.ref ur, .int (nI c)])) (hur : ur ∈ L) (fur : f ur = .inr (2, [.ref ub])) (hub : ub ∈ L) (fub : f ub = .inl (k 0, 256, .inl gu)) (hc : c ≤ 256) (ht : 0 < t) (ht2 : t ≤ 64) (hs : s = 1) (hbu : b ≠ ub) (hm : c + (n - P) ≤ 256) (hgf : ∀ j, lb (g j) = g j) : vCt l yX3_pourParts cX3_pourParts 6 (some .int) 9 153 0 0 D vCl (vTy k) sb [.ref (x), .int (nI (q)), .int (nI (y)), .int (nI (t))] (va_pl L f) (vDet (some (.int (nI ((n - P + t - 1) / t)))) (va_pl L (va_up (va_up (va_up f ub (.inl (k 0, 256, .inl (va_cpy g gu P c (n - P))))) u (.inr (0, [.ref (ur), .int (nI (c + (n - P)))]))) rd (.inr (1, [.ref (w), .int (nI (s)), .int (nI (P + (n - P))), .int (nI (M)), .int (nI (T + (n - P))), .int (nI (Mt))]))))) := by
  refine vOf (by decide +kernel) (Nat.le_of_ble_eq_true rfl) (fun p9 e9 s9 m9 below9 meth9 c9 X hret hmn => ?_)
  refine vAloadN X dX3_pourParts_0 0 rfl ?_
  refine vIloadN X dX3_pourParts_1 1 rfl ?_
  obtain ⟨ix2, hix2⟩ := vp_ix (f := f) hx
  refine vCallVd X [] (cb_readerAt l D k sb L f x aW aG aR tr tg (gW) (gG) (gR) q rd hx fx haW faW haG faG haR faR (by omega) eq) (vGV q_522 q_524 q_6 q_24 q_525) ⟨by decide, by decide, (show _ = some 1 from by decide +kernel)⟩ ⟨Nat.le_of_ble_eq_true rfl, Nat.le_of_ble_eq_true rfl⟩ ix2 3 rfl rfl (hix2.trans (by rw [fx])) rfl (Nat.le_of_ble_eq_true rfl) dX3_pourParts_2 ⟨Nat.le_of_ble_eq_true rfl, Nat.le_of_ble_eq_true rfl⟩ ?_
  refine vAstore X [(4, .ref (rd)), (0, .ref (x)), (1, .int (nI (q))), (2, .int (nI (y))), (3, .int (nI (t)))] dX3_pourParts_5 (by decide) rfl ?_
  refine vAloadN X dX3_pourParts_7 1 rfl ?_
  refine vIloadN X dX3_pourParts_8 3 rfl ?_
  obtain ⟨ix9, hix9⟩ := vp_ix (f := f) hx
  refine vCallVd X [] (cb_gathererAt l D k sb L f x aW aG aR tr tg (gW) (gG) (gR) y u hx fx haW faW haG faG haR faR (by omega) eu) (vGV q_438 q_440 q_5 q_24 q_441) ⟨by decide, by decide, (show _ = some 1 from by decide +kernel)⟩ ⟨Nat.le_of_ble_eq_true rfl, Nat.le_of_ble_eq_true rfl⟩ ix9 3 rfl rfl (hix9.trans (by rw [fx])) rfl (Nat.le_of_ble_eq_true rfl) dX3_pourParts_9 ⟨Nat.le_of_ble_eq_true rfl, Nat.le_of_ble_eq_true rfl⟩ ?_
  refine vAstore X [(5, .ref (u)), (4, .ref (rd)), (0, .ref (x)), (1, .int (nI (q))), (2, .int (nI (y))), (3, .int (nI (t)))] dX3_pourParts_12 (by decide) rfl ?_
  refine vIloadN X dX3_pourParts_14 5 rfl ?_
  refine vIconst X dX3_pourParts_15 (v := nI (1)) (by decide) ?_
  refine vIcmpN_ltF X 25 dX3_pourParts_16 (by decide) (by omega) (by omega) (by omega) ?_
  refine vIloadN X dX3_pourParts_19 5 rfl ?_
  refine vBipush X dX3_pourParts_20 (v := nI (64)) (by decide) ?_
  refine vIcmpN_leT X 35 dX3_pourParts_22 (by decide) (by omega) (by omega) (by omega) ?_
  refine vAload X dX3_pourParts_35 1 rfl ?_
  refine vCallSd X [] (cb_needOpen l D k sb L f rd w b (n) (s) (P) (M) (T) (Mt) (g)  hrd frd hw fw hb fb (by omega) (by omega) (by first | rfl | assumption)) (vGS q_542 q_543 q_24 q_544) rfl ⟨by decide, by decide, (show _ = some 1 from by decide +kernel)⟩ ⟨Nat.le_of_ble_eq_true rfl, Nat.le_of_ble_eq_true rfl⟩ rfl (Nat.le_of_ble_eq_true rfl) dX3_pourParts_37 ⟨Nat.le_of_ble_eq_true rfl, Nat.le_of_ble_eq_true rfl⟩ ?_
  refine vAload X dX3_pourParts_40 0 rfl ?_
  refine vAload X dX3_pourParts_42 1 rfl ?_
  obtain ⟨ix44, hix44⟩ := vp_ix (f := f) hrd
  refine vCallVd X [.ref (u)] (cq_remaining l D k sb L f rd w b (n) (s) (P) (M) (T) (Mt) (g)  hrd frd hw fw hb fb (by omega) (by omega) ) (vGV q_161 q_162 q_163 q_28 q_164) ⟨by decide, by decide, (show _ = some 0 from by decide +kernel)⟩ ⟨Nat.le_of_ble_eq_true rfl, Nat.le_of_ble_eq_true rfl⟩ ix44 1 rfl rfl (hix44.trans (by rw [frd])) rfl (Nat.le_of_ble_eq_true rfl) dX3_pourParts_44 ⟨Nat.le_of_ble_eq_true rfl, Nat.le_of_ble_eq_true rfl⟩ ?_
  refine vCallSd X [] (cb_needRoom l D k sb L f u ur ub (c) (gu) ((n) - (P)) hu fu hur fur hub fub (by omega) (by omega)) (vGS q_443 q_444 q_24 q_445) rfl ⟨by decide, by decide, (show _ = some 2 from by decide +kernel)⟩ ⟨Nat.le_of_ble_eq_true rfl, Nat.le_of_ble_eq_true rfl⟩ rfl (Nat.le_of_ble_eq_true rfl) dX3_pourParts_47 ⟨Nat.le_of_ble_eq_true rfl, Nat.le_of_ble_eq_true rfl⟩ ?_
  refine vAload X dX3_pourParts_50 1 rfl ?_
  refine vAload X dX3_pourParts_52 0 rfl ?_
  refine vIloadN X dX3_pourParts_54 5 rfl ?_
  refine vCallSd X [] (cb_pourByParts l D k sb L f rd w b (n) (s) (P) (M) (T) (Mt) (g) u ur ub (c) (gu) (t) ((n - P + t - 1) / t) hrd frd hw fw hb fb (by omega) (by omega) hu fu hur fur hub fub (by omega) hbu (by omega) (by omega) rfl (pp_256 ht (by omega)) (by omega) hgf) (vGS q_239 q_240 q_24 q_241) rfl ⟨by decide, by decide, (show _ = some 3 from by decide +kernel)⟩ ⟨Nat.le_of_ble_eq_true rfl, Nat.le_of_ble_eq_true rfl⟩ rfl (Nat.le_of_ble_eq_true rfl) dX3_pourParts_55 ⟨Nat.le_of_ble_eq_true rfl, Nat.le_of_ble_eq_true rfl⟩ ?_
  exact vRetI X hret dX3_pourParts_58 ⟨rfl, rfl⟩
set_option maxHeartbeats 4000000 in
set_option maxRecDepth 100000 in
theorem ct_alike1 (l : Launch) (D : va_G) (k : Nat → ClassId) (sb : Nat) (L : List Nat) (f : Nat → va_E) (x aW aG aR tr tg : Nat) (gW gG gR : Nat → Option Nat) (v z : Int32) (hl : l.stackTraces = false) (hx : x ∈ L) (fx : f x = .inr (3, [.ref aW, .ref aG, .ref aR, .ref tr, .ref tg])) (haW : aW ∈ L) (faW : f aW = .inl (k 4, 4, .inr (.inr (.inr (.inr gW))))) (haG : aG ∈ L) (faG : f aG = .inl (k 2, 3, .inr (.inr (.inr (.inr gG))))) (haR : aR ∈ L) (faR : f aR = .inl (k 3, 3, .inr (.inr (.inr (.inr gR))))) (hv : ¬ vOther v) : vCtX l yX3_alike cX3_alike 7 (some .int) 9 131 1 6 D vCl (vTy k) sb [.ref (x), .int (v), .int (z)] (va_pl L f) "java/lang/IndexOutOfBoundsException" := by
  refine vOfX (by decide +kernel) (Nat.le_of_ble_eq_true rfl) (fun p9 e9 s9 m9 below9 meth9 c9 X hE hnt => ?_)
  refine vAloadN X dX3_alike_0 0 rfl ?_
  refine vIloadN X dX3_alike_1 1 rfl ?_
  obtain ⟨ix2, hix2⟩ := vp_ix (f := f) hx
  exact vCallVT X hE hnt [] (ct_readerAt l D k sb L f x aW aG aR tr tg (gW) (gG) (gR) v hl hx fx haW faW haG faG haR faR hv) (vGV q_522 q_524 q_6 q_24 q_525) ⟨by decide, by decide, (show _ = some 1 from by decide +kernel)⟩ ⟨Nat.le_of_ble_eq_true rfl, Nat.le_of_ble_eq_true rfl⟩ ix2 3 rfl rfl (hix2.trans (by rw [fx])) rfl (Nat.le_of_ble_eq_true rfl) dX3_alike_2 ⟨(Nat.le_of_ble_eq_true rfl), (Nat.le_of_ble_eq_true rfl)⟩ (Nat.le_of_ble_eq_true rfl) (Nat.le_of_ble_eq_true rfl)
set_option maxHeartbeats 4000000 in
set_option maxRecDepth 100000 in
theorem ct_alike2 (l : Launch) (D : va_G) (k : Nat → ClassId) (sb : Nat) (L : List Nat) (f : Nat → va_E) (x aW aG aR tr tg : Nat) (gW gG gR : Nat → Option Nat) (q : Nat) (rd w b n s P M T Mt : Nat) (g : Nat → Int32) (z : Int32) (hl : l.stackTraces = false) (hx : x ∈ L) (fx : f x = .inr (3, [.ref aW, .ref aG, .ref aR, .ref tr, .ref tg])) (haW : aW ∈ L) (faW : f aW = .inl (k 4, 4, .inr (.inr (.inr (.inr gW))))) (haG : aG ∈ L) (faG : f aG = .inl (k 2, 3, .inr (.inr (.inr (.inr gG))))) (haR : aR ∈ L) (faR : f aR = .inl (k 3, 3, .inr (.inr (.inr (.inr gR))))) (hq9 : q < 3) (eq : gR q = some rd) (hrd : rd ∈ L) (frd : f rd = .inr (1, [.ref w, .int (nI s), .int (nI P), .int (nI M), .int (nI T), .int (nI Mt)])) (hw : w ∈ L) (fw : f w = .inr (2, [.ref b])) (hb : b ∈ L) (fb : f b = .inl (k 0, n, .inl g)) (hn : n ≤ 256) (hP : P ≤ n) (hz : ¬ vOther z) : vCtX l yX3_alike cX3_alike 7 (some .int) 9 131 1 6 D vCl (vTy k) sb [.ref (x), .int (nI (q)), .int (z)] (va_pl L f) "java/lang/IndexOutOfBoundsException" := by
  refine vOfX (by decide +kernel) (Nat.le_of_ble_eq_true rfl) (fun p9 e9 s9 m9 below9 meth9 c9 X hE hnt => ?_)
  refine vAloadN X dX3_alike_0 0 rfl ?_
  refine vIloadN X dX3_alike_1 1 rfl ?_
  obtain ⟨ix2, hix2⟩ := vp_ix (f := f) hx
  refine vCallVd X [] (cb_readerAt l D k sb L f x aW aG aR tr tg (gW) (gG) (gR) q rd hx fx haW faW haG faG haR faR (by omega) eq) (vGV q_522 q_524 q_6 q_24 q_525) ⟨by decide, by decide, (show _ = some 1 from by decide +kernel)⟩ ⟨Nat.le_of_ble_eq_true rfl, Nat.le_of_ble_eq_true rfl⟩ ix2 3 rfl rfl (hix2.trans (by rw [fx])) rfl (Nat.le_of_ble_eq_true rfl) dX3_alike_2 ⟨Nat.le_of_ble_eq_true rfl, Nat.le_of_ble_eq_true rfl⟩ ?_
  refine vAstoreN X [(3, .ref (rd)), (0, .ref (x)), (1, .int (nI (q))), (2, .int (z))] dX3_alike_5 (by decide) rfl ?_
  refine vAloadN X dX3_alike_6 1 rfl ?_
  refine vIloadN X dX3_alike_7 3 rfl ?_
  obtain ⟨ix8, hix8⟩ := vp_ix (f := f) hx
  exact vCallVT X hE hnt [] (ct_readerAt l D k sb L f x aW aG aR tr tg (gW) (gG) (gR) z hl hx fx haW faW haG faG haR faR hz) (vGV q_522 q_524 q_6 q_24 q_525) ⟨by decide, by decide, (show _ = some 1 from by decide +kernel)⟩ ⟨Nat.le_of_ble_eq_true rfl, Nat.le_of_ble_eq_true rfl⟩ ix8 3 rfl rfl (hix8.trans (by rw [fx])) rfl (Nat.le_of_ble_eq_true rfl) dX3_alike_8 ⟨(Nat.le_of_ble_eq_true rfl), (Nat.le_of_ble_eq_true rfl)⟩ (Nat.le_of_ble_eq_true rfl) (Nat.le_of_ble_eq_true rfl)
set_option maxHeartbeats 4000000 in
set_option maxRecDepth 100000 in
theorem ct_alike3 (l : Launch) (D : va_G) (k : Nat → ClassId) (sb : Nat) (L : List Nat) (f : Nat → va_E) (x aW aG aR tr tg : Nat) (gW gG gR : Nat → Option Nat) (q : Nat) (rd w b n s P M T Mt : Nat) (g : Nat → Int32) (hl : l.stackTraces = false) (hx : x ∈ L) (fx : f x = .inr (3, [.ref aW, .ref aG, .ref aR, .ref tr, .ref tg])) (haW : aW ∈ L) (faW : f aW = .inl (k 4, 4, .inr (.inr (.inr (.inr gW))))) (haG : aG ∈ L) (faG : f aG = .inl (k 2, 3, .inr (.inr (.inr (.inr gG))))) (haR : aR ∈ L) (faR : f aR = .inl (k 3, 3, .inr (.inr (.inr (.inr gR))))) (hq9 : q < 3) (eq : gR q = some rd) (hrd : rd ∈ L) (frd : f rd = .inr (1, [.ref w, .int (nI s), .int (nI P), .int (nI M), .int (nI T), .int (nI Mt)])) (hw : w ∈ L) (fw : f w = .inr (2, [.ref b])) (hb : b ∈ L) (fb : f b = .inl (k 0, n, .inl g)) (hn : n ≤ 256) (hP : P ≤ n) : vCtX l yX3_alike cX3_alike 7 (some .int) 9 131 1 6 D vCl (vTy k) sb [.ref (x), .int (nI (q)), .int (nI (q))] (va_pl L f) "java/lang/IllegalArgumentException" := by
  refine vOfX (by decide +kernel) (Nat.le_of_ble_eq_true rfl) (fun p9 e9 s9 m9 below9 meth9 c9 X hE hnt => ?_)
  refine vAloadN X dX3_alike_0 0 rfl ?_
  refine vIloadN X dX3_alike_1 1 rfl ?_
  obtain ⟨ix2, hix2⟩ := vp_ix (f := f) hx
  refine vCallVd X [] (cb_readerAt l D k sb L f x aW aG aR tr tg (gW) (gG) (gR) q rd hx fx haW faW haG faG haR faR (by omega) eq) (vGV q_522 q_524 q_6 q_24 q_525) ⟨by decide, by decide, (show _ = some 1 from by decide +kernel)⟩ ⟨Nat.le_of_ble_eq_true rfl, Nat.le_of_ble_eq_true rfl⟩ ix2 3 rfl rfl (hix2.trans (by rw [fx])) rfl (Nat.le_of_ble_eq_true rfl) dX3_alike_2 ⟨Nat.le_of_ble_eq_true rfl, Nat.le_of_ble_eq_true rfl⟩ ?_
  refine vAstoreN X [(3, .ref (rd)), (0, .ref (x)), (1, .int (nI (q))), (2, .int (nI (q)))] dX3_alike_5 (by decide) rfl ?_
  refine vAloadN X dX3_alike_6 1 rfl ?_
  refine vIloadN X dX3_alike_7 3 rfl ?_
  obtain ⟨ix8, hix8⟩ := vp_ix (f := f) hx
  refine vCallVd X [] (cb_readerAt l D k sb L f x aW aG aR tr tg (gW) (gG) (gR) q rd hx fx haW faW haG faG haR faR (by omega) eq) (vGV q_522 q_524 q_6 q_24 q_525) ⟨by decide, by decide, (show _ = some 1 from by decide +kernel)⟩ ⟨Nat.le_of_ble_eq_true rfl, Nat.le_of_ble_eq_true rfl⟩ ix8 3 rfl rfl (hix8.trans (by rw [fx])) rfl (Nat.le_of_ble_eq_true rfl) dX3_alike_8 ⟨Nat.le_of_ble_eq_true rfl, Nat.le_of_ble_eq_true rfl⟩ ?_
  refine vAstore X [(4, .ref (rd)), (3, .ref (rd)), (0, .ref (x)), (1, .int (nI (q))), (2, .int (nI (q)))] dX3_alike_11 (by decide) rfl ?_
  refine vIloadN X dX3_alike_13 3 rfl ?_
  refine vIloadN X dX3_alike_14 4 rfl ?_
  refine vIcmpN_neF X 28 dX3_alike_15 (by decide) (by omega) (by omega) (by omega) ?_
  exact vThrowS X hE hl hnt (by decide +kernel) q_362 q_36 t_695 xg1_48 xg2_48 xg3_48 dX3_alike_18 dX3_alike_21 dX3_alike_22 dX3_alike_24 dX3_alike_27 (Nat.le_of_ble_eq_true rfl) (Nat.le_of_ble_eq_true rfl) (Nat.le_of_ble_eq_true rfl) (Nat.le_of_ble_eq_true rfl) (Nat.le_of_ble_eq_true rfl) (Nat.le_of_ble_eq_true rfl)
set_option maxHeartbeats 4000000 in
set_option maxRecDepth 100000 in
theorem ct_alike4 (l : Launch) (D : va_G) (k : Nat → ClassId) (sb : Nat) (L : List Nat) (f : Nat → va_E) (x aW aG aR tr tg : Nat) (gW gG gR : Nat → Option Nat) (q : Nat) (rd w b n s P M T Mt : Nat) (g : Nat → Int32) (u : Nat) (rd2 w2 b2 n2 s2 P2 M2 T2 Mt2 : Nat) (g2 : Nat → Int32) (hl : l.stackTraces = false) (hx : x ∈ L) (fx : f x = .inr (3, [.ref aW, .ref aG, .ref aR, .ref tr, .ref tg])) (haW : aW ∈ L) (faW : f aW = .inl (k 4, 4, .inr (.inr (.inr (.inr gW))))) (haG : aG ∈ L) (faG : f aG = .inl (k 2, 3, .inr (.inr (.inr (.inr gG))))) (haR : aR ∈ L) (faR : f aR = .inl (k 3, 3, .inr (.inr (.inr (.inr gR))))) (hq9 : q < 3) (eq : gR q = some rd) (hrd : rd ∈ L) (frd : f rd = .inr (1, [.ref w, .int (nI s), .int (nI P), .int (nI M), .int (nI T), .int (nI Mt)])) (hw : w ∈ L) (fw : f w = .inr (2, [.ref b])) (hb : b ∈ L) (fb : f b = .inl (k 0, n, .inl g)) (hn : n ≤ 256) (hP : P ≤ n) (hu9 : u < 3) (eq2 : gR u = some rd2) (hrd2 : rd2 ∈ L) (frd2 : f rd2 = .inr (1, [.ref w2, .int (nI s2), .int (nI P2), .int (nI M2), .int (nI T2), .int (nI Mt2)])) (hw2 : w2 ∈ L) (fw2 : f w2 = .inr (2, [.ref b2])) (hb2 : b2 ∈ L) (fb2 : f b2 = .inl (k 0, n2, .inl g2)) (hn2 : n2 ≤ 256) (hP2 : P2 ≤ n2) (hrr : rd ≠ rd2) (hqu : ¬ q = u) (hs : s = 0) : vCtX l yX3_alike cX3_alike 7 (some .int) 9 131 1 6 D vCl (vTy k) sb [.ref (x), .int (nI (q)), .int (nI (u))] (va_pl L f) "java/lang/UnsupportedOperationException" := by
  refine vOfX (by decide +kernel) (Nat.le_of_ble_eq_true rfl) (fun p9 e9 s9 m9 below9 meth9 c9 X hE hnt => ?_)
  refine vAloadN X dX3_alike_0 0 rfl ?_
  refine vIloadN X dX3_alike_1 1 rfl ?_
  obtain ⟨ix2, hix2⟩ := vp_ix (f := f) hx
  refine vCallVd X [] (cb_readerAt l D k sb L f x aW aG aR tr tg (gW) (gG) (gR) q rd hx fx haW faW haG faG haR faR (by omega) eq) (vGV q_522 q_524 q_6 q_24 q_525) ⟨by decide, by decide, (show _ = some 1 from by decide +kernel)⟩ ⟨Nat.le_of_ble_eq_true rfl, Nat.le_of_ble_eq_true rfl⟩ ix2 3 rfl rfl (hix2.trans (by rw [fx])) rfl (Nat.le_of_ble_eq_true rfl) dX3_alike_2 ⟨Nat.le_of_ble_eq_true rfl, Nat.le_of_ble_eq_true rfl⟩ ?_
  refine vAstoreN X [(3, .ref (rd)), (0, .ref (x)), (1, .int (nI (q))), (2, .int (nI (u)))] dX3_alike_5 (by decide) rfl ?_
  refine vAloadN X dX3_alike_6 1 rfl ?_
  refine vIloadN X dX3_alike_7 3 rfl ?_
  obtain ⟨ix8, hix8⟩ := vp_ix (f := f) hx
  refine vCallVd X [] (cb_readerAt l D k sb L f x aW aG aR tr tg (gW) (gG) (gR) u rd2 hx fx haW faW haG faG haR faR (by omega) eq2) (vGV q_522 q_524 q_6 q_24 q_525) ⟨by decide, by decide, (show _ = some 1 from by decide +kernel)⟩ ⟨Nat.le_of_ble_eq_true rfl, Nat.le_of_ble_eq_true rfl⟩ ix8 3 rfl rfl (hix8.trans (by rw [fx])) rfl (Nat.le_of_ble_eq_true rfl) dX3_alike_8 ⟨Nat.le_of_ble_eq_true rfl, Nat.le_of_ble_eq_true rfl⟩ ?_
  refine vAstore X [(4, .ref (rd2)), (3, .ref (rd)), (0, .ref (x)), (1, .int (nI (q))), (2, .int (nI (u)))] dX3_alike_11 (by decide) rfl ?_
  refine vIloadN X dX3_alike_13 3 rfl ?_
  refine vIloadN X dX3_alike_14 4 rfl ?_
  refine vIcmpN_neT X 28 dX3_alike_15 (by decide) (by omega) (by omega) (by omega) ?_
  refine vAloadN X dX3_alike_28 1 rfl ?_
  exact vCallST X hE hnt [] (ct_needOpen l D k sb L f rd w b (n) (s) (P) (M) (T) (Mt) (g) hl hrd frd hw fw hb fb (by omega) (by omega) (by first | rfl | assumption)) (vGS q_542 q_543 q_24 q_544) rfl ⟨by decide, by decide, (show _ = some 1 from by decide +kernel)⟩ ⟨Nat.le_of_ble_eq_true rfl, Nat.le_of_ble_eq_true rfl⟩ rfl (Nat.le_of_ble_eq_true rfl) dX3_alike_29 ⟨(Nat.le_of_ble_eq_true rfl), (Nat.le_of_ble_eq_true rfl)⟩ (Nat.le_of_ble_eq_true rfl) (Nat.le_of_ble_eq_true rfl)
set_option maxHeartbeats 4000000 in
set_option maxRecDepth 100000 in
theorem ct_alike5 (l : Launch) (D : va_G) (k : Nat → ClassId) (sb : Nat) (L : List Nat) (f : Nat → va_E) (x aW aG aR tr tg : Nat) (gW gG gR : Nat → Option Nat) (q : Nat) (rd w b n s P M T Mt : Nat) (g : Nat → Int32) (u : Nat) (rd2 w2 b2 n2 s2 P2 M2 T2 Mt2 : Nat) (g2 : Nat → Int32) (hl : l.stackTraces = false) (hx : x ∈ L) (fx : f x = .inr (3, [.ref aW, .ref aG, .ref aR, .ref tr, .ref tg])) (haW : aW ∈ L) (faW : f aW = .inl (k 4, 4, .inr (.inr (.inr (.inr gW))))) (haG : aG ∈ L) (faG : f aG = .inl (k 2, 3, .inr (.inr (.inr (.inr gG))))) (haR : aR ∈ L) (faR : f aR = .inl (k 3, 3, .inr (.inr (.inr (.inr gR))))) (hq9 : q < 3) (eq : gR q = some rd) (hrd : rd ∈ L) (frd : f rd = .inr (1, [.ref w, .int (nI s), .int (nI P), .int (nI M), .int (nI T), .int (nI Mt)])) (hw : w ∈ L) (fw : f w = .inr (2, [.ref b])) (hb : b ∈ L) (fb : f b = .inl (k 0, n, .inl g)) (hn : n ≤ 256) (hP : P ≤ n) (hu9 : u < 3) (eq2 : gR u = some rd2) (hrd2 : rd2 ∈ L) (frd2 : f rd2 = .inr (1, [.ref w2, .int (nI s2), .int (nI P2), .int (nI M2), .int (nI T2), .int (nI Mt2)])) (hw2 : w2 ∈ L) (fw2 : f w2 = .inr (2, [.ref b2])) (hb2 : b2 ∈ L) (fb2 : f b2 = .inl (k 0, n2, .inl g2)) (hn2 : n2 ≤ 256) (hP2 : P2 ≤ n2) (hrr : rd ≠ rd2) (hqu : ¬ q = u) (hs : s = 1) (hs2 : s2 = 0) : vCtX l yX3_alike cX3_alike 7 (some .int) 9 131 1 6 D vCl (vTy k) sb [.ref (x), .int (nI (q)), .int (nI (u))] (va_pl L f) "java/lang/UnsupportedOperationException" := by
  refine vOfX (by decide +kernel) (Nat.le_of_ble_eq_true rfl) (fun p9 e9 s9 m9 below9 meth9 c9 X hE hnt => ?_)
  refine vAloadN X dX3_alike_0 0 rfl ?_
  refine vIloadN X dX3_alike_1 1 rfl ?_
  obtain ⟨ix2, hix2⟩ := vp_ix (f := f) hx
  refine vCallVd X [] (cb_readerAt l D k sb L f x aW aG aR tr tg (gW) (gG) (gR) q rd hx fx haW faW haG faG haR faR (by omega) eq) (vGV q_522 q_524 q_6 q_24 q_525) ⟨by decide, by decide, (show _ = some 1 from by decide +kernel)⟩ ⟨Nat.le_of_ble_eq_true rfl, Nat.le_of_ble_eq_true rfl⟩ ix2 3 rfl rfl (hix2.trans (by rw [fx])) rfl (Nat.le_of_ble_eq_true rfl) dX3_alike_2 ⟨Nat.le_of_ble_eq_true rfl, Nat.le_of_ble_eq_true rfl⟩ ?_
  refine vAstoreN X [(3, .ref (rd)), (0, .ref (x)), (1, .int (nI (q))), (2, .int (nI (u)))] dX3_alike_5 (by decide) rfl ?_
  refine vAloadN X dX3_alike_6 1 rfl ?_
  refine vIloadN X dX3_alike_7 3 rfl ?_
  obtain ⟨ix8, hix8⟩ := vp_ix (f := f) hx
  refine vCallVd X [] (cb_readerAt l D k sb L f x aW aG aR tr tg (gW) (gG) (gR) u rd2 hx fx haW faW haG faG haR faR (by omega) eq2) (vGV q_522 q_524 q_6 q_24 q_525) ⟨by decide, by decide, (show _ = some 1 from by decide +kernel)⟩ ⟨Nat.le_of_ble_eq_true rfl, Nat.le_of_ble_eq_true rfl⟩ ix8 3 rfl rfl (hix8.trans (by rw [fx])) rfl (Nat.le_of_ble_eq_true rfl) dX3_alike_8 ⟨Nat.le_of_ble_eq_true rfl, Nat.le_of_ble_eq_true rfl⟩ ?_
  refine vAstore X [(4, .ref (rd2)), (3, .ref (rd)), (0, .ref (x)), (1, .int (nI (q))), (2, .int (nI (u)))] dX3_alike_11 (by decide) rfl ?_
  refine vIloadN X dX3_alike_13 3 rfl ?_
  refine vIloadN X dX3_alike_14 4 rfl ?_
  refine vIcmpN_neT X 28 dX3_alike_15 (by decide) (by omega) (by omega) (by omega) ?_
  refine vAloadN X dX3_alike_28 1 rfl ?_
  refine vCallSd X [] (cb_needOpen l D k sb L f rd w b (n) (s) (P) (M) (T) (Mt) (g)  hrd frd hw fw hb fb (by omega) (by omega) (by first | rfl | assumption)) (vGS q_542 q_543 q_24 q_544) rfl ⟨by decide, by decide, (show _ = some 1 from by decide +kernel)⟩ ⟨Nat.le_of_ble_eq_true rfl, Nat.le_of_ble_eq_true rfl⟩ rfl (Nat.le_of_ble_eq_true rfl) dX3_alike_29 ⟨Nat.le_of_ble_eq_true rfl, Nat.le_of_ble_eq_true rfl⟩ ?_
  refine vAload X dX3_alike_32 0 rfl ?_
  exact vCallST X hE hnt [] (ct_needOpen l D k sb L f rd2 w2 b2 (n2) (s2) (P2) (M2) (T2) (Mt2) (g2) hl hrd2 frd2 hw2 fw2 hb2 fb2 (by omega) (by omega) (by first | rfl | assumption)) (vGS q_542 q_543 q_24 q_544) rfl ⟨by decide, by decide, (show _ = some 1 from by decide +kernel)⟩ ⟨Nat.le_of_ble_eq_true rfl, Nat.le_of_ble_eq_true rfl⟩ rfl (Nat.le_of_ble_eq_true rfl) dX3_alike_34 ⟨(Nat.le_of_ble_eq_true rfl), (Nat.le_of_ble_eq_true rfl)⟩ (Nat.le_of_ble_eq_true rfl) (Nat.le_of_ble_eq_true rfl)
set_option maxHeartbeats 4000000 in
set_option maxRecDepth 100000 in
theorem cLp_alike {p9 : Program} {l : Launch} {e9 : Env} {s9 : State} {m9 : MethodId} {args9 : Array Value} {below9 : List Frame} {meth9 : Method} {c9 : Code} {Q9 : State → Prop} (D : va_G) (k : Nat → ClassId) (sb : Nat) (L : List Nat) (f : Nat → va_E) (rd w b n s P M T Mt : Nat) (g : Nat → Int32) (rd2 w2 b2 n2 s2 P2 M2 T2 Mt2 : Nat) (g2 : Nat → Int32) (d : Nat) (hrd : rd ∈ L) (frd : f rd = .inr (1, [.ref w, .int (nI s), .int (nI P), .int (nI M), .int (nI T), .int (nI Mt)])) (hw : w ∈ L) (fw : f w = .inr (2, [.ref b])) (hb : b ∈ L) (fb : f b = .inl (k 0, n, .inl g)) (hn : n ≤ 256) (hP : P ≤ n) (hrd2 : rd2 ∈ L) (frd2 : f rd2 = .inr (1, [.ref w2, .int (nI s2), .int (nI P2), .int (nI M2), .int (nI T2), .int (nI Mt2)])) (hw2 : w2 ∈ L) (fw2 : f w2 = .inr (2, [.ref b2])) (hb2 : b2 ∈ L) (fb2 : f b2 = .inl (k 0, n2, .inl g2)) (hn2 : n2 ≤ 256) (hP2 : P2 ≤ n2) (hrr : rd ≠ rd2) (hd1 : d ≤ n - P) (hd2 : d ≤ n2 - P2) (hnv : ∀ j, j < d → (g (P + j)) &&& (nI 255) = (g2 (P2 + j)) &&& (nI 255)) (X : vCX p9 s9 m9 args9 meth9 c9 cX3_alike 7 yX3_alike.cls (Cond.code yX3_alike cX3_alike 7 (some .int) :: vGW) D vCl (vTy k) sb) (hex : vV p9 l e9 ({ frames := 9, cells := 0, slots := 0, locals := 131 }) s9 m9 args9 below9 meth9 c9 7 D vCl sb Q9 (va_pl L (va_up (va_up f rd (.inr (1, [.ref (w), .int (nI (s)), .int (nI (P + d)), .int (nI (M)), .int (nI (T)), .int (nI (Mt))]))) rd2 (.inr (1, [.ref (w2), .int (nI (s2)), .int (nI (P2 + d)), .int (nI (M2)), .int (nI (T2)), .int (nI (Mt2))])))) 0 0 54 [(6, .int (nI (d))), (5, .int (nI (min (n - P) (n2 - P2)))), (3, .ref (rd)), (4, .ref (rd2))] []) : ∀ (z i : Nat) , i + z = d → vV p9 l e9 ({ frames := 9, cells := 0, slots := 0, locals := 131 }) s9 m9 args9 below9 meth9 c9 7 D vCl sb Q9 (va_pl L (va_up (va_up f rd (.inr (1, [.ref (w), .int (nI (s)), .int (nI (P + i)), .int (nI (M)), .int (nI (T)), .int (nI (Mt))]))) rd2 (.inr (1, [.ref (w2), .int (nI (s2)), .int (nI (P2 + i)), .int (nI (M2)), .int (nI (T2)), .int (nI (Mt2))])))) 0 0 54 [(6, .int (nI (i))), (5, .int (nI (min (n - P) (n2 - P2)))), (3, .ref (rd)), (4, .ref (rd2))] [] := by
  intro z
  induction z with
  | zero =>
    intro i  hi 
    have hin : d = i := by omega
    subst hin
    exact hex
  | succ z ih =>
    intro i  hi 
    refine vIload X dX3_alike_54 0 rfl ?_
    refine vIload X dX3_alike_56 1 rfl ?_
    refine vIcmpN_geF X 92 dX3_alike_58 (by decide) (by omega) (by omega) (by omega) ?_
    refine vAloadN X dX3_alike_61 2 rfl ?_
    obtain ⟨ix62, hix62⟩ := vp_ix (f := va_up (va_up f rd (.inr (1, [.ref (w), .int (nI (s)), .int (nI (P + i)), .int (nI (M)), .int (nI (T)), .int (nI (Mt))]))) rd2 (.inr (1, [.ref (w2), .int (nI (s2)), .int (nI (P2 + i)), .int (nI (M2)), .int (nI (T2)), .int (nI (Mt2))]))) hrd
    refine vCallVd X [] (cq_peek l D k sb L (va_up (va_up f rd (.inr (1, [.ref (w), .int (nI (s)), .int (nI (P + i)), .int (nI (M)), .int (nI (T)), .int (nI (Mt))]))) rd2 (.inr (1, [.ref (w2), .int (nI (s2)), .int (nI (P2 + i)), .int (nI (M2)), .int (nI (T2)), .int (nI (Mt2))]))) rd w b (n) (s) (P + i) (M) (T) (Mt) (g)  hrd ((va_up_nq _ hrr).trans (va_up_eq _ _ _)) hw ((va_up_nq _ (ne_of fw frd2 (by simp))).trans ((va_up_nq _ (ne_of fw frd (by simp))).trans fw)) hb ((va_up_nq _ (ne_of fb frd2 (by simp))).trans ((va_up_nq _ (ne_of fb frd (by simp))).trans fb)) (by omega) (by omega) (by omega)) (vGV q_699 q_207 q_208 q_28 q_209) ⟨by decide, by decide, (show _ = some 0 from by decide +kernel)⟩ ⟨Nat.le_of_ble_eq_true rfl, Nat.le_of_ble_eq_true rfl⟩ ix62 1 rfl rfl (hix62.trans (by rw [((va_up_nq _ hrr).trans (va_up_eq _ _ _))])) rfl (Nat.le_of_ble_eq_true rfl) dX3_alike_62 ⟨Nat.le_of_ble_eq_true rfl, Nat.le_of_ble_eq_true rfl⟩ ?_
    refine vAload X dX3_alike_65 3 rfl ?_
    obtain ⟨ix67, hix67⟩ := vp_ix (f := va_up (va_up f rd (.inr (1, [.ref (w), .int (nI (s)), .int (nI (P + i)), .int (nI (M)), .int (nI (T)), .int (nI (Mt))]))) rd2 (.inr (1, [.ref (w2), .int (nI (s2)), .int (nI (P2 + i)), .int (nI (M2)), .int (nI (T2)), .int (nI (Mt2))]))) hrd2
    refine vCallVd X [.int ((g (P + i)) &&& (nI 255))] (cq_peek l D k sb L (va_up (va_up f rd (.inr (1, [.ref (w), .int (nI (s)), .int (nI (P + i)), .int (nI (M)), .int (nI (T)), .int (nI (Mt))]))) rd2 (.inr (1, [.ref (w2), .int (nI (s2)), .int (nI (P2 + i)), .int (nI (M2)), .int (nI (T2)), .int (nI (Mt2))]))) rd2 w2 b2 (n2) (s2) (P2 + i) (M2) (T2) (Mt2) (g2)  hrd2 (va_up_eq _ _ _) hw2 ((va_up_nq _ (ne_of fw2 frd2 (by simp))).trans ((va_up_nq _ (ne_of fw2 frd (by simp))).trans fw2)) hb2 ((va_up_nq _ (ne_of fb2 frd2 (by simp))).trans ((va_up_nq _ (ne_of fb2 frd (by simp))).trans fb2)) (by omega) (by omega) (by omega)) (vGV q_699 q_207 q_208 q_28 q_209) ⟨by decide, by decide, (show _ = some 0 from by decide +kernel)⟩ ⟨Nat.le_of_ble_eq_true rfl, Nat.le_of_ble_eq_true rfl⟩ ix67 1 rfl rfl (hix67.trans (by rw [(va_up_eq _ _ _)])) rfl (Nat.le_of_ble_eq_true rfl) dX3_alike_67 ⟨Nat.le_of_ble_eq_true rfl, Nat.le_of_ble_eq_true rfl⟩ ?_
    refine vIcmp_neF X 92 dX3_alike_70 (by decide) (hnv i (by omega)) ?_
    refine vAloadN X dX3_alike_73 2 rfl ?_
    refine vLconst X dX3_alike_74 (v := lN 1) (by decide) ?_
    obtain ⟨ix75, hix75⟩ := vp_ix (f := va_up (va_up f rd (.inr (1, [.ref (w), .int (nI (s)), .int (nI (P + i)), .int (nI (M)), .int (nI (T)), .int (nI (Mt))]))) rd2 (.inr (1, [.ref (w2), .int (nI (s2)), .int (nI (P2 + i)), .int (nI (M2)), .int (nI (T2)), .int (nI (Mt2))]))) hrd
    refine vCallVd X [] (cq_pass l D k sb L (va_up (va_up f rd (.inr (1, [.ref (w), .int (nI (s)), .int (nI (P + i)), .int (nI (M)), .int (nI (T)), .int (nI (Mt))]))) rd2 (.inr (1, [.ref (w2), .int (nI (s2)), .int (nI (P2 + i)), .int (nI (M2)), .int (nI (T2)), .int (nI (Mt2))]))) rd w b (n) (s) (P + i) (M) (T) (Mt) (g) (1) (1) hrd ((va_up_nq _ hrr).trans (va_up_eq _ _ _)) hw ((va_up_nq _ (ne_of fw frd2 (by simp))).trans ((va_up_nq _ (ne_of fw frd (by simp))).trans fw)) hb ((va_up_nq _ (ne_of fb frd2 (by simp))).trans ((va_up_nq _ (ne_of fb frd (by simp))).trans fb)) (by omega) (by omega) (by omega) (by omega)) (vGV q_636 q_212 q_213 q_28 q_214) ⟨by decide, by decide, (show _ = some 1 from by decide +kernel)⟩ ⟨Nat.le_of_ble_eq_true rfl, Nat.le_of_ble_eq_true rfl⟩ ix75 1 rfl rfl (hix75.trans (by rw [((va_up_nq _ hrr).trans (va_up_eq _ _ _))])) rfl (Nat.le_of_ble_eq_true rfl) dX3_alike_75 ⟨Nat.le_of_ble_eq_true rfl, Nat.le_of_ble_eq_true rfl⟩ ?_
    refine vWs (ws' := va_pl L (va_up (va_up f rd2 (.inr (1, [.ref (w2), .int (nI (s2)), .int (nI (P2 + i)), .int (nI (M2)), .int (nI (T2)), .int (nI (Mt2))]))) rd (.inr (1, [.ref (w), .int (nI (s)), .int (nI ((P + i) + (1))), .int (nI (M)), .int (nI (T)), .int (nI (Mt))])))) (congrArg (fun φ9 => va_pl L (φ9)) va_up_sh) ?_
    refine vPop X dX3_alike_78 rfl ?_
    refine vAload X dX3_alike_79 3 rfl ?_
    refine vLconst X dX3_alike_81 (v := lN 1) (by decide) ?_
    obtain ⟨ix82, hix82⟩ := vp_ix (f := va_up (va_up f rd2 (.inr (1, [.ref (w2), .int (nI (s2)), .int (nI (P2 + i)), .int (nI (M2)), .int (nI (T2)), .int (nI (Mt2))]))) rd (.inr (1, [.ref (w), .int (nI (s)), .int (nI ((P + i) + (1))), .int (nI (M)), .int (nI (T)), .int (nI (Mt))]))) hrd2
    refine vCallVd X [] (cq_pass l D k sb L (va_up (va_up f rd2 (.inr (1, [.ref (w2), .int (nI (s2)), .int (nI (P2 + i)), .int (nI (M2)), .int (nI (T2)), .int (nI (Mt2))]))) rd (.inr (1, [.ref (w), .int (nI (s)), .int (nI ((P + i) + (1))), .int (nI (M)), .int (nI (T)), .int (nI (Mt))]))) rd2 w2 b2 (n2) (s2) (P2 + i) (M2) (T2) (Mt2) (g2) (1) (1) hrd2 ((va_up_nq _ (Ne.symm hrr)).trans (va_up_eq _ _ _)) hw2 ((va_up_nq _ (ne_of fw2 frd (by simp))).trans ((va_up_nq _ (ne_of fw2 frd2 (by simp))).trans fw2)) hb2 ((va_up_nq _ (ne_of fb2 frd (by simp))).trans ((va_up_nq _ (ne_of fb2 frd2 (by simp))).trans fb2)) (by omega) (by omega) (by omega) (by omega)) (vGV q_636 q_212 q_213 q_28 q_214) ⟨by decide, by decide, (show _ = some 1 from by decide +kernel)⟩ ⟨Nat.le_of_ble_eq_true rfl, Nat.le_of_ble_eq_true rfl⟩ ix82 1 rfl rfl (hix82.trans (by rw [((va_up_nq _ (Ne.symm hrr)).trans (va_up_eq _ _ _))])) rfl (Nat.le_of_ble_eq_true rfl) dX3_alike_82 ⟨Nat.le_of_ble_eq_true rfl, Nat.le_of_ble_eq_true rfl⟩ ?_
    refine vWs (ws' := va_pl L (va_up (va_up f rd (.inr (1, [.ref (w), .int (nI (s)), .int (nI ((P + i) + (1))), .int (nI (M)), .int (nI (T)), .int (nI (Mt))]))) rd2 (.inr (1, [.ref (w2), .int (nI (s2)), .int (nI ((P2 + i) + (1))), .int (nI (M2)), .int (nI (T2)), .int (nI (Mt2))])))) (congrArg (fun φ9 => va_pl L (φ9)) va_up_sh) ?_
    refine vPop X dX3_alike_85 rfl ?_
    refine vIinc X [(6, .int (nI (i + 1))), (5, .int (nI (min (n - P) (n2 - P2)))), (3, .ref (rd)), (4, .ref (rd2))] dX3_alike_86 0 rfl (nI_inc _) (by decide) rfl ?_
    refine vGoto X 54 dX3_alike_89 (by decide) ?_
    refine vSub [0, 1, 2, 3] [(6, .int (nI (i + 1))), (5, .int (nI (min (n - P) (n2 - P2)))), (3, .ref (rd)), (4, .ref (rd2))] rfl ?_
    exact ih (i + 1) (by omega)
set_option maxHeartbeats 4000000 in
set_option maxRecDepth 100000 in
theorem cb_alikeA (l : Launch) (D : va_G) (k : Nat → ClassId) (sb : Nat) (L : List Nat) (f : Nat → va_E) (x aW aG aR tr tg : Nat) (gW gG gR : Nat → Option Nat) (q : Nat) (rd w b n s P M T Mt : Nat) (g : Nat → Int32) (u : Nat) (rd2 w2 b2 n2 s2 P2 M2 T2 Mt2 : Nat) (g2 : Nat → Int32) (d : Nat) (hx : x ∈ L) (fx : f x = .inr (3, [.ref aW, .ref aG, .ref aR, .ref tr, .ref tg])) (haW : aW ∈ L) (faW : f aW = .inl (k 4, 4, .inr (.inr (.inr (.inr gW))))) (haG : aG ∈ L) (faG : f aG = .inl (k 2, 3, .inr (.inr (.inr (.inr gG))))) (haR : aR ∈ L) (faR : f aR = .inl (k 3, 3, .inr (.inr (.inr (.inr gR))))) (hq9 : q < 3) (eq : gR q = some rd) (hrd : rd ∈ L) (frd : f rd = .inr (1, [.ref w, .int (nI s), .int (nI P), .int (nI M), .int (nI T), .int (nI Mt)])) (hw : w ∈ L) (fw : f w = .inr (2, [.ref b])) (hb : b ∈ L) (fb : f b = .inl (k 0, n, .inl g)) (hn : n ≤ 256) (hP : P ≤ n) (hu9 : u < 3) (eq2 : gR u = some rd2) (hrd2 : rd2 ∈ L) (frd2 : f rd2 = .inr (1, [.ref w2, .int (nI s2), .int (nI P2), .int (nI M2), .int (nI T2), .int (nI Mt2)])) (hw2 : w2 ∈ L) (fw2 : f w2 = .inr (2, [.ref b2])) (hb2 : b2 ∈ L) (fb2 : f b2 = .inl (k 0, n2, .inl g2)) (hn2 : n2 ≤ 256) (hP2 : P2 ≤ n2) (hrr : rd ≠ rd2) (hqu : ¬ q = u) (hs : s = 1) (hs2 : s2 = 1) (hd1 : d ≤ n - P) (hd2 : d ≤ n2 - P2) (hnv : ∀ j, j < d → (g (P + j)) &&& (nI 255) = (g2 (P2 + j)) &&& (nI 255)) (he : d = min (n - P) (n2 - P2)) : vCt l yX3_alike cX3_alike 7 (some .int) 9 131 0 0 D vCl (vTy k) sb [.ref (x), .int (nI (q)), .int (nI (u))] (va_pl L f) (vDet (some (.int (nI (d)))) (va_pl L (va_up (va_up f rd (.inr (1, [.ref (w), .int (nI (s)), .int (nI (P + d)), .int (nI (P + d)), .int (nI ((T) + (d))), .int (nI ((T) + (d)))]))) rd2 (.inr (1, [.ref (w2), .int (nI (s2)), .int (nI (P2 + d)), .int (nI (P2 + d)), .int (nI ((T2) + (d))), .int (nI ((T2) + (d)))]))))) := by
  refine vOf (by decide +kernel) (Nat.le_of_ble_eq_true rfl) (fun p9 e9 s9 m9 below9 meth9 c9 X hret hmn => ?_)
  refine vAloadN X dX3_alike_0 0 rfl ?_
  refine vIloadN X dX3_alike_1 1 rfl ?_
  obtain ⟨ix2, hix2⟩ := vp_ix (f := f) hx
  refine vCallVd X [] (cb_readerAt l D k sb L f x aW aG aR tr tg (gW) (gG) (gR) q rd hx fx haW faW haG faG haR faR (by omega) eq) (vGV q_522 q_524 q_6 q_24 q_525) ⟨by decide, by decide, (show _ = some 1 from by decide +kernel)⟩ ⟨Nat.le_of_ble_eq_true rfl, Nat.le_of_ble_eq_true rfl⟩ ix2 3 rfl rfl (hix2.trans (by rw [fx])) rfl (Nat.le_of_ble_eq_true rfl) dX3_alike_2 ⟨Nat.le_of_ble_eq_true rfl, Nat.le_of_ble_eq_true rfl⟩ ?_
  refine vAstoreN X [(3, .ref (rd)), (0, .ref (x)), (1, .int (nI (q))), (2, .int (nI (u)))] dX3_alike_5 (by decide) rfl ?_
  refine vAloadN X dX3_alike_6 1 rfl ?_
  refine vIloadN X dX3_alike_7 3 rfl ?_
  obtain ⟨ix8, hix8⟩ := vp_ix (f := f) hx
  refine vCallVd X [] (cb_readerAt l D k sb L f x aW aG aR tr tg (gW) (gG) (gR) u rd2 hx fx haW faW haG faG haR faR (by omega) eq2) (vGV q_522 q_524 q_6 q_24 q_525) ⟨by decide, by decide, (show _ = some 1 from by decide +kernel)⟩ ⟨Nat.le_of_ble_eq_true rfl, Nat.le_of_ble_eq_true rfl⟩ ix8 3 rfl rfl (hix8.trans (by rw [fx])) rfl (Nat.le_of_ble_eq_true rfl) dX3_alike_8 ⟨Nat.le_of_ble_eq_true rfl, Nat.le_of_ble_eq_true rfl⟩ ?_
  refine vAstore X [(4, .ref (rd2)), (3, .ref (rd)), (0, .ref (x)), (1, .int (nI (q))), (2, .int (nI (u)))] dX3_alike_11 (by decide) rfl ?_
  refine vIloadN X dX3_alike_13 3 rfl ?_
  refine vIloadN X dX3_alike_14 4 rfl ?_
  refine vIcmpN_neT X 28 dX3_alike_15 (by decide) (by omega) (by omega) (by omega) ?_
  refine vAloadN X dX3_alike_28 1 rfl ?_
  refine vCallSd X [] (cb_needOpen l D k sb L f rd w b (n) (s) (P) (M) (T) (Mt) (g)  hrd frd hw fw hb fb (by omega) (by omega) (by first | rfl | assumption)) (vGS q_542 q_543 q_24 q_544) rfl ⟨by decide, by decide, (show _ = some 1 from by decide +kernel)⟩ ⟨Nat.le_of_ble_eq_true rfl, Nat.le_of_ble_eq_true rfl⟩ rfl (Nat.le_of_ble_eq_true rfl) dX3_alike_29 ⟨Nat.le_of_ble_eq_true rfl, Nat.le_of_ble_eq_true rfl⟩ ?_
  refine vAload X dX3_alike_32 0 rfl ?_
  refine vCallSd X [] (cb_needOpen l D k sb L f rd2 w2 b2 (n2) (s2) (P2) (M2) (T2) (Mt2) (g2)  hrd2 frd2 hw2 fw2 hb2 fb2 (by omega) (by omega) (by first | rfl | assumption)) (vGS q_542 q_543 q_24 q_544) rfl ⟨by decide, by decide, (show _ = some 1 from by decide +kernel)⟩ ⟨Nat.le_of_ble_eq_true rfl, Nat.le_of_ble_eq_true rfl⟩ rfl (Nat.le_of_ble_eq_true rfl) dX3_alike_34 ⟨Nat.le_of_ble_eq_true rfl, Nat.le_of_ble_eq_true rfl⟩ ?_
  refine vAloadN X dX3_alike_37 1 rfl ?_
  obtain ⟨ix38, hix38⟩ := vp_ix (f := f) hrd
  refine vCallVd X [] (cq_remaining l D k sb L f rd w b (n) (s) (P) (M) (T) (Mt) (g)  hrd frd hw fw hb fb (by omega) (by omega) ) (vGV q_161 q_162 q_163 q_28 q_164) ⟨by decide, by decide, (show _ = some 0 from by decide +kernel)⟩ ⟨Nat.le_of_ble_eq_true rfl, Nat.le_of_ble_eq_true rfl⟩ ix38 1 rfl rfl (hix38.trans (by rw [frd])) rfl (Nat.le_of_ble_eq_true rfl) dX3_alike_38 ⟨Nat.le_of_ble_eq_true rfl, Nat.le_of_ble_eq_true rfl⟩ ?_
  refine vAload X dX3_alike_41 0 rfl ?_
  obtain ⟨ix43, hix43⟩ := vp_ix (f := f) hrd2
  refine vCallVd X [.int (nI ((n) - (P)))] (cq_remaining l D k sb L f rd2 w2 b2 (n2) (s2) (P2) (M2) (T2) (Mt2) (g2)  hrd2 frd2 hw2 fw2 hb2 fb2 (by omega) (by omega) ) (vGV q_161 q_162 q_163 q_28 q_164) ⟨by decide, by decide, (show _ = some 0 from by decide +kernel)⟩ ⟨Nat.le_of_ble_eq_true rfl, Nat.le_of_ble_eq_true rfl⟩ ix43 1 rfl rfl (hix43.trans (by rw [frd2])) rfl (Nat.le_of_ble_eq_true rfl) dX3_alike_43 ⟨Nat.le_of_ble_eq_true rfl, Nat.le_of_ble_eq_true rfl⟩ ?_
  refine vMmin X (v := min ((n) - (P)) ((n2) - (P2))) (List.mem_cons_of_mem _ q_696) (List.mem_cons_of_mem _ q_697) (List.mem_cons_of_mem _ q_26) (List.mem_cons_of_mem _ q_698) (Nat.le_of_ble_eq_true rfl) (Nat.le_of_ble_eq_true rfl) (Nat.le_of_ble_eq_true rfl) (Nat.le_of_ble_eq_true rfl) (by omega) (by omega) rfl dX3_alike_46 ?_
  refine vIstore X [(5, .int (nI (min ((n) - (P)) ((n2) - (P2))))), (4, .ref (rd2)), (3, .ref (rd)), (0, .ref (x)), (1, .int (nI (q))), (2, .int (nI (u)))] dX3_alike_49 (by decide) rfl ?_
  refine vIconst X dX3_alike_51 (v := nI (0)) (by decide) ?_
  refine vIstore X [(6, .int (nI (0))), (5, .int (nI (min ((n) - (P)) ((n2) - (P2))))), (4, .ref (rd2)), (3, .ref (rd)), (0, .ref (x)), (1, .int (nI (q))), (2, .int (nI (u)))] dX3_alike_52 (by decide) rfl ?_
  refine vWs (ws' := va_pl L (va_up (va_up f rd (.inr (1, [.ref (w), .int (nI (s)), .int (nI (P + 0)), .int (nI (M)), .int (nI (T)), .int (nI (Mt))]))) rd2 (.inr (1, [.ref (w2), .int (nI (s2)), .int (nI (P2 + 0)), .int (nI (M2)), .int (nI (T2)), .int (nI (Mt2))])))) (congrArg (va_pl L) (va_id2 frd frd2)) ?_
  refine vSub [0, 1, 3, 2] [(6, .int (nI (0))), (5, .int (nI (min ((n) - (P)) ((n2) - (P2))))), (3, .ref (rd)), (4, .ref (rd2))] rfl ?_
  refine cLp_alike D k sb L f rd w b n s P M T Mt g rd2 w2 b2 n2 s2 P2 M2 T2 Mt2 g2 d hrd frd hw fw hb fb hn hP hrd2 frd2 hw2 fw2 hb2 fb2 hn2 hP2 hrr hd1 hd2 hnv X ?_ (d) 0 (by omega)
  refine vIload X dX3_alike_54 0 rfl ?_
  refine vIload X dX3_alike_56 1 rfl ?_
  refine vIcmpN_geT X 92 dX3_alike_58 (by decide) (by omega) (by omega) (by omega) ?_
  refine vAloadN X dX3_alike_92 2 rfl ?_
  refine vIload X dX3_alike_93 0 rfl ?_
  obtain ⟨ix95, hix95⟩ := vp_ix (f := va_up (va_up f rd (.inr (1, [.ref (w), .int (nI (s)), .int (nI (P + d)), .int (nI (M)), .int (nI (T)), .int (nI (Mt))]))) rd2 (.inr (1, [.ref (w2), .int (nI (s2)), .int (nI (P2 + d)), .int (nI (M2)), .int (nI (T2)), .int (nI (Mt2))]))) hrd
  refine vCallVd X [] (cq_tell l D k sb L (va_up (va_up f rd (.inr (1, [.ref (w), .int (nI (s)), .int (nI (P + d)), .int (nI (M)), .int (nI (T)), .int (nI (Mt))]))) rd2 (.inr (1, [.ref (w2), .int (nI (s2)), .int (nI (P2 + d)), .int (nI (M2)), .int (nI (T2)), .int (nI (Mt2))]))) rd w b (n) (s) (P + d) (M) (T) (Mt) (g) d hrd ((va_up_nq _ hrr).trans (va_up_eq _ _ _)) hw ((va_up_nq _ (ne_of fw frd2 (by simp))).trans ((va_up_nq _ (ne_of fw frd (by simp))).trans fw)) hb ((va_up_nq _ (ne_of fb frd2 (by simp))).trans ((va_up_nq _ (ne_of fb frd (by simp))).trans fb)) (by omega) (by omega) ) (vGV q_250 q_251 q_252 q_28 q_253) ⟨by decide, by decide, (show _ = some 1 from by decide +kernel)⟩ ⟨Nat.le_of_ble_eq_true rfl, Nat.le_of_ble_eq_true rfl⟩ ix95 1 rfl rfl (hix95.trans (by rw [((va_up_nq _ hrr).trans (va_up_eq _ _ _))])) rfl (Nat.le_of_ble_eq_true rfl) dX3_alike_95 ⟨Nat.le_of_ble_eq_true rfl, Nat.le_of_ble_eq_true rfl⟩ ?_
  refine vWs (ws' := va_pl L (va_up (va_up f rd2 (.inr (1, [.ref (w2), .int (nI (s2)), .int (nI (P2 + d)), .int (nI (M2)), .int (nI (T2)), .int (nI (Mt2))]))) rd (.inr (1, [.ref (w), .int (nI (s)), .int (nI (P + d)), .int (nI (M)), .int (nI ((T) + (d))), .int (nI (Mt))])))) (congrArg (fun φ9 => va_pl L (φ9)) va_up_sh) ?_
  refine vPop X dX3_alike_98 rfl ?_
  refine vAload X dX3_alike_99 3 rfl ?_
  refine vIload X dX3_alike_101 0 rfl ?_
  obtain ⟨ix103, hix103⟩ := vp_ix (f := va_up (va_up f rd2 (.inr (1, [.ref (w2), .int (nI (s2)), .int (nI (P2 + d)), .int (nI (M2)), .int (nI (T2)), .int (nI (Mt2))]))) rd (.inr (1, [.ref (w), .int (nI (s)), .int (nI (P + d)), .int (nI (M)), .int (nI ((T) + (d))), .int (nI (Mt))]))) hrd2
  refine vCallVd X [] (cq_tell l D k sb L (va_up (va_up f rd2 (.inr (1, [.ref (w2), .int (nI (s2)), .int (nI (P2 + d)), .int (nI (M2)), .int (nI (T2)), .int (nI (Mt2))]))) rd (.inr (1, [.ref (w), .int (nI (s)), .int (nI (P + d)), .int (nI (M)), .int (nI ((T) + (d))), .int (nI (Mt))]))) rd2 w2 b2 (n2) (s2) (P2 + d) (M2) (T2) (Mt2) (g2) d hrd2 ((va_up_nq _ (Ne.symm hrr)).trans (va_up_eq _ _ _)) hw2 ((va_up_nq _ (ne_of fw2 frd (by simp))).trans ((va_up_nq _ (ne_of fw2 frd2 (by simp))).trans fw2)) hb2 ((va_up_nq _ (ne_of fb2 frd (by simp))).trans ((va_up_nq _ (ne_of fb2 frd2 (by simp))).trans fb2)) (by omega) (by omega) ) (vGV q_250 q_251 q_252 q_28 q_253) ⟨by decide, by decide, (show _ = some 1 from by decide +kernel)⟩ ⟨Nat.le_of_ble_eq_true rfl, Nat.le_of_ble_eq_true rfl⟩ ix103 1 rfl rfl (hix103.trans (by rw [((va_up_nq _ (Ne.symm hrr)).trans (va_up_eq _ _ _))])) rfl (Nat.le_of_ble_eq_true rfl) dX3_alike_103 ⟨Nat.le_of_ble_eq_true rfl, Nat.le_of_ble_eq_true rfl⟩ ?_
  refine vWs (ws' := va_pl L (va_up (va_up f rd (.inr (1, [.ref (w), .int (nI (s)), .int (nI (P + d)), .int (nI (M)), .int (nI ((T) + (d))), .int (nI (Mt))]))) rd2 (.inr (1, [.ref (w2), .int (nI (s2)), .int (nI (P2 + d)), .int (nI (M2)), .int (nI ((T2) + (d))), .int (nI (Mt2))])))) (congrArg (fun φ9 => va_pl L (φ9)) va_up_sh) ?_
  refine vPop X dX3_alike_106 rfl ?_
  refine vAloadN X dX3_alike_107 2 rfl ?_
  obtain ⟨ix108, hix108⟩ := vp_ix (f := va_up (va_up f rd (.inr (1, [.ref (w), .int (nI (s)), .int (nI (P + d)), .int (nI (M)), .int (nI ((T) + (d))), .int (nI (Mt))]))) rd2 (.inr (1, [.ref (w2), .int (nI (s2)), .int (nI (P2 + d)), .int (nI (M2)), .int (nI ((T2) + (d))), .int (nI (Mt2))]))) hrd
  refine vCallVd X [] (cq_setMark l D k sb L (va_up (va_up f rd (.inr (1, [.ref (w), .int (nI (s)), .int (nI (P + d)), .int (nI (M)), .int (nI ((T) + (d))), .int (nI (Mt))]))) rd2 (.inr (1, [.ref (w2), .int (nI (s2)), .int (nI (P2 + d)), .int (nI (M2)), .int (nI ((T2) + (d))), .int (nI (Mt2))]))) rd w b (n) (s) (P + d) (M) ((T) + (d)) (Mt) (g)  hrd ((va_up_nq _ hrr).trans (va_up_eq _ _ _)) hw ((va_up_nq _ (ne_of fw frd2 (by simp))).trans ((va_up_nq _ (ne_of fw frd (by simp))).trans fw)) hb ((va_up_nq _ (ne_of fb frd2 (by simp))).trans ((va_up_nq _ (ne_of fb frd (by simp))).trans fb)) (by omega) (by omega) ) (vGV q_665 q_199 q_200 q_28 q_201) ⟨by decide, by decide, (show _ = some 0 from by decide +kernel)⟩ ⟨Nat.le_of_ble_eq_true rfl, Nat.le_of_ble_eq_true rfl⟩ ix108 1 rfl rfl (hix108.trans (by rw [((va_up_nq _ hrr).trans (va_up_eq _ _ _))])) rfl (Nat.le_of_ble_eq_true rfl) dX3_alike_108 ⟨Nat.le_of_ble_eq_true rfl, Nat.le_of_ble_eq_true rfl⟩ ?_
  refine vWs (ws' := va_pl L (va_up (va_up f rd2 (.inr (1, [.ref (w2), .int (nI (s2)), .int (nI (P2 + d)), .int (nI (M2)), .int (nI ((T2) + (d))), .int (nI (Mt2))]))) rd (.inr (1, [.ref (w), .int (nI (s)), .int (nI (P + d)), .int (nI (P + d)), .int (nI ((T) + (d))), .int (nI ((T) + (d)))])))) (congrArg (fun φ9 => va_pl L (φ9)) va_up_sh) ?_
  refine vAload X dX3_alike_111 3 rfl ?_
  obtain ⟨ix113, hix113⟩ := vp_ix (f := va_up (va_up f rd2 (.inr (1, [.ref (w2), .int (nI (s2)), .int (nI (P2 + d)), .int (nI (M2)), .int (nI ((T2) + (d))), .int (nI (Mt2))]))) rd (.inr (1, [.ref (w), .int (nI (s)), .int (nI (P + d)), .int (nI (P + d)), .int (nI ((T) + (d))), .int (nI ((T) + (d)))]))) hrd2
  refine vCallVd X [] (cq_setMark l D k sb L (va_up (va_up f rd2 (.inr (1, [.ref (w2), .int (nI (s2)), .int (nI (P2 + d)), .int (nI (M2)), .int (nI ((T2) + (d))), .int (nI (Mt2))]))) rd (.inr (1, [.ref (w), .int (nI (s)), .int (nI (P + d)), .int (nI (P + d)), .int (nI ((T) + (d))), .int (nI ((T) + (d)))]))) rd2 w2 b2 (n2) (s2) (P2 + d) (M2) ((T2) + (d)) (Mt2) (g2)  hrd2 ((va_up_nq _ (Ne.symm hrr)).trans (va_up_eq _ _ _)) hw2 ((va_up_nq _ (ne_of fw2 frd (by simp))).trans ((va_up_nq _ (ne_of fw2 frd2 (by simp))).trans fw2)) hb2 ((va_up_nq _ (ne_of fb2 frd (by simp))).trans ((va_up_nq _ (ne_of fb2 frd2 (by simp))).trans fb2)) (by omega) (by omega) ) (vGV q_665 q_199 q_200 q_28 q_201) ⟨by decide, by decide, (show _ = some 0 from by decide +kernel)⟩ ⟨Nat.le_of_ble_eq_true rfl, Nat.le_of_ble_eq_true rfl⟩ ix113 1 rfl rfl (hix113.trans (by rw [((va_up_nq _ (Ne.symm hrr)).trans (va_up_eq _ _ _))])) rfl (Nat.le_of_ble_eq_true rfl) dX3_alike_113 ⟨Nat.le_of_ble_eq_true rfl, Nat.le_of_ble_eq_true rfl⟩ ?_
  refine vWs (ws' := va_pl L (va_up (va_up f rd (.inr (1, [.ref (w), .int (nI (s)), .int (nI (P + d)), .int (nI (P + d)), .int (nI ((T) + (d))), .int (nI ((T) + (d)))]))) rd2 (.inr (1, [.ref (w2), .int (nI (s2)), .int (nI (P2 + d)), .int (nI (P2 + d)), .int (nI ((T2) + (d))), .int (nI ((T2) + (d)))])))) (congrArg (fun φ9 => va_pl L (φ9)) va_up_sh) ?_
  refine vIload X dX3_alike_116 0 rfl ?_
  exact vRetI X hret dX3_alike_118 ⟨rfl, rfl⟩
set_option maxHeartbeats 4000000 in
set_option maxRecDepth 100000 in
theorem cb_alikeB (l : Launch) (D : va_G) (k : Nat → ClassId) (sb : Nat) (L : List Nat) (f : Nat → va_E) (x aW aG aR tr tg : Nat) (gW gG gR : Nat → Option Nat) (q : Nat) (rd w b n s P M T Mt : Nat) (g : Nat → Int32) (u : Nat) (rd2 w2 b2 n2 s2 P2 M2 T2 Mt2 : Nat) (g2 : Nat → Int32) (d : Nat) (hx : x ∈ L) (fx : f x = .inr (3, [.ref aW, .ref aG, .ref aR, .ref tr, .ref tg])) (haW : aW ∈ L) (faW : f aW = .inl (k 4, 4, .inr (.inr (.inr (.inr gW))))) (haG : aG ∈ L) (faG : f aG = .inl (k 2, 3, .inr (.inr (.inr (.inr gG))))) (haR : aR ∈ L) (faR : f aR = .inl (k 3, 3, .inr (.inr (.inr (.inr gR))))) (hq9 : q < 3) (eq : gR q = some rd) (hrd : rd ∈ L) (frd : f rd = .inr (1, [.ref w, .int (nI s), .int (nI P), .int (nI M), .int (nI T), .int (nI Mt)])) (hw : w ∈ L) (fw : f w = .inr (2, [.ref b])) (hb : b ∈ L) (fb : f b = .inl (k 0, n, .inl g)) (hn : n ≤ 256) (hP : P ≤ n) (hu9 : u < 3) (eq2 : gR u = some rd2) (hrd2 : rd2 ∈ L) (frd2 : f rd2 = .inr (1, [.ref w2, .int (nI s2), .int (nI P2), .int (nI M2), .int (nI T2), .int (nI Mt2)])) (hw2 : w2 ∈ L) (fw2 : f w2 = .inr (2, [.ref b2])) (hb2 : b2 ∈ L) (fb2 : f b2 = .inl (k 0, n2, .inl g2)) (hn2 : n2 ≤ 256) (hP2 : P2 ≤ n2) (hrr : rd ≠ rd2) (hqu : ¬ q = u) (hs : s = 1) (hs2 : s2 = 1) (hd1 : d ≤ n - P) (hd2 : d ≤ n2 - P2) (hnv : ∀ j, j < d → (g (P + j)) &&& (nI 255) = (g2 (P2 + j)) &&& (nI 255)) (he : d < min (n - P) (n2 - P2)) (hv : ¬ (g (P + d)) &&& (nI 255) = (g2 (P2 + d)) &&& (nI 255)) : vCt l yX3_alike cX3_alike 7 (some .int) 9 131 0 0 D vCl (vTy k) sb [.ref (x), .int (nI (q)), .int (nI (u))] (va_pl L f) (vDet (some (.int (nI (d)))) (va_pl L (va_up (va_up f rd (.inr (1, [.ref (w), .int (nI (s)), .int (nI (P + d)), .int (nI (P + d)), .int (nI ((T) + (d))), .int (nI ((T) + (d)))]))) rd2 (.inr (1, [.ref (w2), .int (nI (s2)), .int (nI (P2 + d)), .int (nI (P2 + d)), .int (nI ((T2) + (d))), .int (nI ((T2) + (d)))]))))) := by
  refine vOf (by decide +kernel) (Nat.le_of_ble_eq_true rfl) (fun p9 e9 s9 m9 below9 meth9 c9 X hret hmn => ?_)
  refine vAloadN X dX3_alike_0 0 rfl ?_
  refine vIloadN X dX3_alike_1 1 rfl ?_
  obtain ⟨ix2, hix2⟩ := vp_ix (f := f) hx
  refine vCallVd X [] (cb_readerAt l D k sb L f x aW aG aR tr tg (gW) (gG) (gR) q rd hx fx haW faW haG faG haR faR (by omega) eq) (vGV q_522 q_524 q_6 q_24 q_525) ⟨by decide, by decide, (show _ = some 1 from by decide +kernel)⟩ ⟨Nat.le_of_ble_eq_true rfl, Nat.le_of_ble_eq_true rfl⟩ ix2 3 rfl rfl (hix2.trans (by rw [fx])) rfl (Nat.le_of_ble_eq_true rfl) dX3_alike_2 ⟨Nat.le_of_ble_eq_true rfl, Nat.le_of_ble_eq_true rfl⟩ ?_
  refine vAstoreN X [(3, .ref (rd)), (0, .ref (x)), (1, .int (nI (q))), (2, .int (nI (u)))] dX3_alike_5 (by decide) rfl ?_
  refine vAloadN X dX3_alike_6 1 rfl ?_
  refine vIloadN X dX3_alike_7 3 rfl ?_
  obtain ⟨ix8, hix8⟩ := vp_ix (f := f) hx
  refine vCallVd X [] (cb_readerAt l D k sb L f x aW aG aR tr tg (gW) (gG) (gR) u rd2 hx fx haW faW haG faG haR faR (by omega) eq2) (vGV q_522 q_524 q_6 q_24 q_525) ⟨by decide, by decide, (show _ = some 1 from by decide +kernel)⟩ ⟨Nat.le_of_ble_eq_true rfl, Nat.le_of_ble_eq_true rfl⟩ ix8 3 rfl rfl (hix8.trans (by rw [fx])) rfl (Nat.le_of_ble_eq_true rfl) dX3_alike_8 ⟨Nat.le_of_ble_eq_true rfl, Nat.le_of_ble_eq_true rfl⟩ ?_
  refine vAstore X [(4, .ref (rd2)), (3, .ref (rd)), (0, .ref (x)), (1, .int (nI (q))), (2, .int (nI (u)))] dX3_alike_11 (by decide) rfl ?_
  refine vIloadN X dX3_alike_13 3 rfl ?_
  refine vIloadN X dX3_alike_14 4 rfl ?_
  refine vIcmpN_neT X 28 dX3_alike_15 (by decide) (by omega) (by omega) (by omega) ?_
  refine vAloadN X dX3_alike_28 1 rfl ?_
  refine vCallSd X [] (cb_needOpen l D k sb L f rd w b (n) (s) (P) (M) (T) (Mt) (g)  hrd frd hw fw hb fb (by omega) (by omega) (by first | rfl | assumption)) (vGS q_542 q_543 q_24 q_544) rfl ⟨by decide, by decide, (show _ = some 1 from by decide +kernel)⟩ ⟨Nat.le_of_ble_eq_true rfl, Nat.le_of_ble_eq_true rfl⟩ rfl (Nat.le_of_ble_eq_true rfl) dX3_alike_29 ⟨Nat.le_of_ble_eq_true rfl, Nat.le_of_ble_eq_true rfl⟩ ?_
  refine vAload X dX3_alike_32 0 rfl ?_
  refine vCallSd X [] (cb_needOpen l D k sb L f rd2 w2 b2 (n2) (s2) (P2) (M2) (T2) (Mt2) (g2)  hrd2 frd2 hw2 fw2 hb2 fb2 (by omega) (by omega) (by first | rfl | assumption)) (vGS q_542 q_543 q_24 q_544) rfl ⟨by decide, by decide, (show _ = some 1 from by decide +kernel)⟩ ⟨Nat.le_of_ble_eq_true rfl, Nat.le_of_ble_eq_true rfl⟩ rfl (Nat.le_of_ble_eq_true rfl) dX3_alike_34 ⟨Nat.le_of_ble_eq_true rfl, Nat.le_of_ble_eq_true rfl⟩ ?_
  refine vAloadN X dX3_alike_37 1 rfl ?_
  obtain ⟨ix38, hix38⟩ := vp_ix (f := f) hrd
  refine vCallVd X [] (cq_remaining l D k sb L f rd w b (n) (s) (P) (M) (T) (Mt) (g)  hrd frd hw fw hb fb (by omega) (by omega) ) (vGV q_161 q_162 q_163 q_28 q_164) ⟨by decide, by decide, (show _ = some 0 from by decide +kernel)⟩ ⟨Nat.le_of_ble_eq_true rfl, Nat.le_of_ble_eq_true rfl⟩ ix38 1 rfl rfl (hix38.trans (by rw [frd])) rfl (Nat.le_of_ble_eq_true rfl) dX3_alike_38 ⟨Nat.le_of_ble_eq_true rfl, Nat.le_of_ble_eq_true rfl⟩ ?_
  refine vAload X dX3_alike_41 0 rfl ?_
  obtain ⟨ix43, hix43⟩ := vp_ix (f := f) hrd2
  refine vCallVd X [.int (nI ((n) - (P)))] (cq_remaining l D k sb L f rd2 w2 b2 (n2) (s2) (P2) (M2) (T2) (Mt2) (g2)  hrd2 frd2 hw2 fw2 hb2 fb2 (by omega) (by omega) ) (vGV q_161 q_162 q_163 q_28 q_164) ⟨by decide, by decide, (show _ = some 0 from by decide +kernel)⟩ ⟨Nat.le_of_ble_eq_true rfl, Nat.le_of_ble_eq_true rfl⟩ ix43 1 rfl rfl (hix43.trans (by rw [frd2])) rfl (Nat.le_of_ble_eq_true rfl) dX3_alike_43 ⟨Nat.le_of_ble_eq_true rfl, Nat.le_of_ble_eq_true rfl⟩ ?_
  refine vMmin X (v := min ((n) - (P)) ((n2) - (P2))) (List.mem_cons_of_mem _ q_696) (List.mem_cons_of_mem _ q_697) (List.mem_cons_of_mem _ q_26) (List.mem_cons_of_mem _ q_698) (Nat.le_of_ble_eq_true rfl) (Nat.le_of_ble_eq_true rfl) (Nat.le_of_ble_eq_true rfl) (Nat.le_of_ble_eq_true rfl) (by omega) (by omega) rfl dX3_alike_46 ?_
  refine vIstore X [(5, .int (nI (min ((n) - (P)) ((n2) - (P2))))), (4, .ref (rd2)), (3, .ref (rd)), (0, .ref (x)), (1, .int (nI (q))), (2, .int (nI (u)))] dX3_alike_49 (by decide) rfl ?_
  refine vIconst X dX3_alike_51 (v := nI (0)) (by decide) ?_
  refine vIstore X [(6, .int (nI (0))), (5, .int (nI (min ((n) - (P)) ((n2) - (P2))))), (4, .ref (rd2)), (3, .ref (rd)), (0, .ref (x)), (1, .int (nI (q))), (2, .int (nI (u)))] dX3_alike_52 (by decide) rfl ?_
  refine vWs (ws' := va_pl L (va_up (va_up f rd (.inr (1, [.ref (w), .int (nI (s)), .int (nI (P + 0)), .int (nI (M)), .int (nI (T)), .int (nI (Mt))]))) rd2 (.inr (1, [.ref (w2), .int (nI (s2)), .int (nI (P2 + 0)), .int (nI (M2)), .int (nI (T2)), .int (nI (Mt2))])))) (congrArg (va_pl L) (va_id2 frd frd2)) ?_
  refine vSub [0, 1, 3, 2] [(6, .int (nI (0))), (5, .int (nI (min ((n) - (P)) ((n2) - (P2))))), (3, .ref (rd)), (4, .ref (rd2))] rfl ?_
  refine cLp_alike D k sb L f rd w b n s P M T Mt g rd2 w2 b2 n2 s2 P2 M2 T2 Mt2 g2 d hrd frd hw fw hb fb hn hP hrd2 frd2 hw2 fw2 hb2 fb2 hn2 hP2 hrr hd1 hd2 hnv X ?_ (d) 0 (by omega)
  refine vIload X dX3_alike_54 0 rfl ?_
  refine vIload X dX3_alike_56 1 rfl ?_
  refine vIcmpN_geF X 92 dX3_alike_58 (by decide) (by omega) (by omega) (by omega) ?_
  refine vAloadN X dX3_alike_61 2 rfl ?_
  obtain ⟨ix62, hix62⟩ := vp_ix (f := va_up (va_up f rd (.inr (1, [.ref (w), .int (nI (s)), .int (nI (P + d)), .int (nI (M)), .int (nI (T)), .int (nI (Mt))]))) rd2 (.inr (1, [.ref (w2), .int (nI (s2)), .int (nI (P2 + d)), .int (nI (M2)), .int (nI (T2)), .int (nI (Mt2))]))) hrd
  refine vCallVd X [] (cq_peek l D k sb L (va_up (va_up f rd (.inr (1, [.ref (w), .int (nI (s)), .int (nI (P + d)), .int (nI (M)), .int (nI (T)), .int (nI (Mt))]))) rd2 (.inr (1, [.ref (w2), .int (nI (s2)), .int (nI (P2 + d)), .int (nI (M2)), .int (nI (T2)), .int (nI (Mt2))]))) rd w b (n) (s) (P + d) (M) (T) (Mt) (g)  hrd ((va_up_nq _ hrr).trans (va_up_eq _ _ _)) hw ((va_up_nq _ (ne_of fw frd2 (by simp))).trans ((va_up_nq _ (ne_of fw frd (by simp))).trans fw)) hb ((va_up_nq _ (ne_of fb frd2 (by simp))).trans ((va_up_nq _ (ne_of fb frd (by simp))).trans fb)) (by omega) (by omega) (by omega)) (vGV q_699 q_207 q_208 q_28 q_209) ⟨by decide, by decide, (show _ = some 0 from by decide +kernel)⟩ ⟨Nat.le_of_ble_eq_true rfl, Nat.le_of_ble_eq_true rfl⟩ ix62 1 rfl rfl (hix62.trans (by rw [((va_up_nq _ hrr).trans (va_up_eq _ _ _))])) rfl (Nat.le_of_ble_eq_true rfl) dX3_alike_62 ⟨Nat.le_of_ble_eq_true rfl, Nat.le_of_ble_eq_true rfl⟩ ?_
  refine vAload X dX3_alike_65 3 rfl ?_
  obtain ⟨ix67, hix67⟩ := vp_ix (f := va_up (va_up f rd (.inr (1, [.ref (w), .int (nI (s)), .int (nI (P + d)), .int (nI (M)), .int (nI (T)), .int (nI (Mt))]))) rd2 (.inr (1, [.ref (w2), .int (nI (s2)), .int (nI (P2 + d)), .int (nI (M2)), .int (nI (T2)), .int (nI (Mt2))]))) hrd2
  refine vCallVd X [.int ((g (P + d)) &&& (nI 255))] (cq_peek l D k sb L (va_up (va_up f rd (.inr (1, [.ref (w), .int (nI (s)), .int (nI (P + d)), .int (nI (M)), .int (nI (T)), .int (nI (Mt))]))) rd2 (.inr (1, [.ref (w2), .int (nI (s2)), .int (nI (P2 + d)), .int (nI (M2)), .int (nI (T2)), .int (nI (Mt2))]))) rd2 w2 b2 (n2) (s2) (P2 + d) (M2) (T2) (Mt2) (g2)  hrd2 (va_up_eq _ _ _) hw2 ((va_up_nq _ (ne_of fw2 frd2 (by simp))).trans ((va_up_nq _ (ne_of fw2 frd (by simp))).trans fw2)) hb2 ((va_up_nq _ (ne_of fb2 frd2 (by simp))).trans ((va_up_nq _ (ne_of fb2 frd (by simp))).trans fb2)) (by omega) (by omega) (by omega)) (vGV q_699 q_207 q_208 q_28 q_209) ⟨by decide, by decide, (show _ = some 0 from by decide +kernel)⟩ ⟨Nat.le_of_ble_eq_true rfl, Nat.le_of_ble_eq_true rfl⟩ ix67 1 rfl rfl (hix67.trans (by rw [(va_up_eq _ _ _)])) rfl (Nat.le_of_ble_eq_true rfl) dX3_alike_67 ⟨Nat.le_of_ble_eq_true rfl, Nat.le_of_ble_eq_true rfl⟩ ?_
  refine vIcmp_neT X 92 dX3_alike_70 (by decide) hv ?_
  refine vAloadN X dX3_alike_92 2 rfl ?_
  refine vIload X dX3_alike_93 0 rfl ?_
  obtain ⟨ix95, hix95⟩ := vp_ix (f := va_up (va_up f rd (.inr (1, [.ref (w), .int (nI (s)), .int (nI (P + d)), .int (nI (M)), .int (nI (T)), .int (nI (Mt))]))) rd2 (.inr (1, [.ref (w2), .int (nI (s2)), .int (nI (P2 + d)), .int (nI (M2)), .int (nI (T2)), .int (nI (Mt2))]))) hrd
  refine vCallVd X [] (cq_tell l D k sb L (va_up (va_up f rd (.inr (1, [.ref (w), .int (nI (s)), .int (nI (P + d)), .int (nI (M)), .int (nI (T)), .int (nI (Mt))]))) rd2 (.inr (1, [.ref (w2), .int (nI (s2)), .int (nI (P2 + d)), .int (nI (M2)), .int (nI (T2)), .int (nI (Mt2))]))) rd w b (n) (s) (P + d) (M) (T) (Mt) (g) d hrd ((va_up_nq _ hrr).trans (va_up_eq _ _ _)) hw ((va_up_nq _ (ne_of fw frd2 (by simp))).trans ((va_up_nq _ (ne_of fw frd (by simp))).trans fw)) hb ((va_up_nq _ (ne_of fb frd2 (by simp))).trans ((va_up_nq _ (ne_of fb frd (by simp))).trans fb)) (by omega) (by omega) ) (vGV q_250 q_251 q_252 q_28 q_253) ⟨by decide, by decide, (show _ = some 1 from by decide +kernel)⟩ ⟨Nat.le_of_ble_eq_true rfl, Nat.le_of_ble_eq_true rfl⟩ ix95 1 rfl rfl (hix95.trans (by rw [((va_up_nq _ hrr).trans (va_up_eq _ _ _))])) rfl (Nat.le_of_ble_eq_true rfl) dX3_alike_95 ⟨Nat.le_of_ble_eq_true rfl, Nat.le_of_ble_eq_true rfl⟩ ?_
  refine vWs (ws' := va_pl L (va_up (va_up f rd2 (.inr (1, [.ref (w2), .int (nI (s2)), .int (nI (P2 + d)), .int (nI (M2)), .int (nI (T2)), .int (nI (Mt2))]))) rd (.inr (1, [.ref (w), .int (nI (s)), .int (nI (P + d)), .int (nI (M)), .int (nI ((T) + (d))), .int (nI (Mt))])))) (congrArg (fun φ9 => va_pl L (φ9)) va_up_sh) ?_
  refine vPop X dX3_alike_98 rfl ?_
  refine vAload X dX3_alike_99 3 rfl ?_
  refine vIload X dX3_alike_101 0 rfl ?_
  obtain ⟨ix103, hix103⟩ := vp_ix (f := va_up (va_up f rd2 (.inr (1, [.ref (w2), .int (nI (s2)), .int (nI (P2 + d)), .int (nI (M2)), .int (nI (T2)), .int (nI (Mt2))]))) rd (.inr (1, [.ref (w), .int (nI (s)), .int (nI (P + d)), .int (nI (M)), .int (nI ((T) + (d))), .int (nI (Mt))]))) hrd2
  refine vCallVd X [] (cq_tell l D k sb L (va_up (va_up f rd2 (.inr (1, [.ref (w2), .int (nI (s2)), .int (nI (P2 + d)), .int (nI (M2)), .int (nI (T2)), .int (nI (Mt2))]))) rd (.inr (1, [.ref (w), .int (nI (s)), .int (nI (P + d)), .int (nI (M)), .int (nI ((T) + (d))), .int (nI (Mt))]))) rd2 w2 b2 (n2) (s2) (P2 + d) (M2) (T2) (Mt2) (g2) d hrd2 ((va_up_nq _ (Ne.symm hrr)).trans (va_up_eq _ _ _)) hw2 ((va_up_nq _ (ne_of fw2 frd (by simp))).trans ((va_up_nq _ (ne_of fw2 frd2 (by simp))).trans fw2)) hb2 ((va_up_nq _ (ne_of fb2 frd (by simp))).trans ((va_up_nq _ (ne_of fb2 frd2 (by simp))).trans fb2)) (by omega) (by omega) ) (vGV q_250 q_251 q_252 q_28 q_253) ⟨by decide, by decide, (show _ = some 1 from by decide +kernel)⟩ ⟨Nat.le_of_ble_eq_true rfl, Nat.le_of_ble_eq_true rfl⟩ ix103 1 rfl rfl (hix103.trans (by rw [((va_up_nq _ (Ne.symm hrr)).trans (va_up_eq _ _ _))])) rfl (Nat.le_of_ble_eq_true rfl) dX3_alike_103 ⟨Nat.le_of_ble_eq_true rfl, Nat.le_of_ble_eq_true rfl⟩ ?_
  refine vWs (ws' := va_pl L (va_up (va_up f rd (.inr (1, [.ref (w), .int (nI (s)), .int (nI (P + d)), .int (nI (M)), .int (nI ((T) + (d))), .int (nI (Mt))]))) rd2 (.inr (1, [.ref (w2), .int (nI (s2)), .int (nI (P2 + d)), .int (nI (M2)), .int (nI ((T2) + (d))), .int (nI (Mt2))])))) (congrArg (fun φ9 => va_pl L (φ9)) va_up_sh) ?_
  refine vPop X dX3_alike_106 rfl ?_
  refine vAloadN X dX3_alike_107 2 rfl ?_
  obtain ⟨ix108, hix108⟩ := vp_ix (f := va_up (va_up f rd (.inr (1, [.ref (w), .int (nI (s)), .int (nI (P + d)), .int (nI (M)), .int (nI ((T) + (d))), .int (nI (Mt))]))) rd2 (.inr (1, [.ref (w2), .int (nI (s2)), .int (nI (P2 + d)), .int (nI (M2)), .int (nI ((T2) + (d))), .int (nI (Mt2))]))) hrd
  refine vCallVd X [] (cq_setMark l D k sb L (va_up (va_up f rd (.inr (1, [.ref (w), .int (nI (s)), .int (nI (P + d)), .int (nI (M)), .int (nI ((T) + (d))), .int (nI (Mt))]))) rd2 (.inr (1, [.ref (w2), .int (nI (s2)), .int (nI (P2 + d)), .int (nI (M2)), .int (nI ((T2) + (d))), .int (nI (Mt2))]))) rd w b (n) (s) (P + d) (M) ((T) + (d)) (Mt) (g)  hrd ((va_up_nq _ hrr).trans (va_up_eq _ _ _)) hw ((va_up_nq _ (ne_of fw frd2 (by simp))).trans ((va_up_nq _ (ne_of fw frd (by simp))).trans fw)) hb ((va_up_nq _ (ne_of fb frd2 (by simp))).trans ((va_up_nq _ (ne_of fb frd (by simp))).trans fb)) (by omega) (by omega) ) (vGV q_665 q_199 q_200 q_28 q_201) ⟨by decide, by decide, (show _ = some 0 from by decide +kernel)⟩ ⟨Nat.le_of_ble_eq_true rfl, Nat.le_of_ble_eq_true rfl⟩ ix108 1 rfl rfl (hix108.trans (by rw [((va_up_nq _ hrr).trans (va_up_eq _ _ _))])) rfl (Nat.le_of_ble_eq_true rfl) dX3_alike_108 ⟨Nat.le_of_ble_eq_true rfl, Nat.le_of_ble_eq_true rfl⟩ ?_
  refine vWs (ws' := va_pl L (va_up (va_up f rd2 (.inr (1, [.ref (w2), .int (nI (s2)), .int (nI (P2 + d)), .int (nI (M2)), .int (nI ((T2) + (d))), .int (nI (Mt2))]))) rd (.inr (1, [.ref (w), .int (nI (s)), .int (nI (P + d)), .int (nI (P + d)), .int (nI ((T) + (d))), .int (nI ((T) + (d)))])))) (congrArg (fun φ9 => va_pl L (φ9)) va_up_sh) ?_
  refine vAload X dX3_alike_111 3 rfl ?_
  obtain ⟨ix113, hix113⟩ := vp_ix (f := va_up (va_up f rd2 (.inr (1, [.ref (w2), .int (nI (s2)), .int (nI (P2 + d)), .int (nI (M2)), .int (nI ((T2) + (d))), .int (nI (Mt2))]))) rd (.inr (1, [.ref (w), .int (nI (s)), .int (nI (P + d)), .int (nI (P + d)), .int (nI ((T) + (d))), .int (nI ((T) + (d)))]))) hrd2
  refine vCallVd X [] (cq_setMark l D k sb L (va_up (va_up f rd2 (.inr (1, [.ref (w2), .int (nI (s2)), .int (nI (P2 + d)), .int (nI (M2)), .int (nI ((T2) + (d))), .int (nI (Mt2))]))) rd (.inr (1, [.ref (w), .int (nI (s)), .int (nI (P + d)), .int (nI (P + d)), .int (nI ((T) + (d))), .int (nI ((T) + (d)))]))) rd2 w2 b2 (n2) (s2) (P2 + d) (M2) ((T2) + (d)) (Mt2) (g2)  hrd2 ((va_up_nq _ (Ne.symm hrr)).trans (va_up_eq _ _ _)) hw2 ((va_up_nq _ (ne_of fw2 frd (by simp))).trans ((va_up_nq _ (ne_of fw2 frd2 (by simp))).trans fw2)) hb2 ((va_up_nq _ (ne_of fb2 frd (by simp))).trans ((va_up_nq _ (ne_of fb2 frd2 (by simp))).trans fb2)) (by omega) (by omega) ) (vGV q_665 q_199 q_200 q_28 q_201) ⟨by decide, by decide, (show _ = some 0 from by decide +kernel)⟩ ⟨Nat.le_of_ble_eq_true rfl, Nat.le_of_ble_eq_true rfl⟩ ix113 1 rfl rfl (hix113.trans (by rw [((va_up_nq _ (Ne.symm hrr)).trans (va_up_eq _ _ _))])) rfl (Nat.le_of_ble_eq_true rfl) dX3_alike_113 ⟨Nat.le_of_ble_eq_true rfl, Nat.le_of_ble_eq_true rfl⟩ ?_
  refine vWs (ws' := va_pl L (va_up (va_up f rd (.inr (1, [.ref (w), .int (nI (s)), .int (nI (P + d)), .int (nI (P + d)), .int (nI ((T) + (d))), .int (nI ((T) + (d)))]))) rd2 (.inr (1, [.ref (w2), .int (nI (s2)), .int (nI (P2 + d)), .int (nI (P2 + d)), .int (nI ((T2) + (d))), .int (nI ((T2) + (d)))])))) (congrArg (fun φ9 => va_pl L (φ9)) va_up_sh) ?_
  refine vIload X dX3_alike_116 0 rfl ?_
  exact vRetI X hret dX3_alike_118 ⟨rfl, rfl⟩
