def p10 (a0 a1 a2 a3 a4 a5 a6 a7 a8 a9 : Nat) : Nat → Nat := fun i => match i with
  | 0 => a0
  | 1 => a1
  | 2 => a2
  | 3 => a3
  | 4 => a4
  | 5 => a5
  | 6 => a6
  | 7 => a7
  | 8 => a8
  | _ => a9
theorem sRm_eq : upd (upd (upd (upd (fun _ => 0) (0) (nI 0)) (0 + 1) (nI (0 + 1))) (0 + 1 + 1) (nI (0 + 1 + 1))) (0 + 1 + 1 + 1) (nI (0 + 1 + 1 + 1)) = fun j => nI (sRm j) := by
  funext j
  by_cases h : j < 4
  · rcases (show j = 0 ∨ j = 1 ∨ j = 2 ∨ j = 3 by omega) with rfl | rfl | rfl | rfl <;> rfl
  · simp only [upd, sRm, if_neg h]
    rw [if_neg (by omega), if_neg (by omega), if_neg (by omega), if_neg (by omega)]
    rfl
theorem sRd_eq : upd (upd (upd (fun _ => 0) (0) (-1 : Int32)) (0 + 1) (-1 : Int32)) (0 + 1 + 1) (-1 : Int32) = fun j => oI (sRd j) := by
  funext j
  by_cases h : j < 3
  · rcases (show j = 0 ∨ j = 1 ∨ j = 2 by omega) with rfl | rfl | rfl <;> rfl
  · simp only [upd, sRd, if_neg h]
    rw [if_neg (by omega), if_neg (by omega), if_neg (by omega)]
    rfl
section VPN
variable {p : Program} {l : Launch} {e : Env} {R : Room} {s : State} {m : MethodId} {args : Array Value} {below : List Frame} {meth : Method} {c : Code} {cc : ByteArray} {nL : Nat} {own : String} {Ts : List Cond} {D : va_G} {cl : List vw_C} {tys : List (ClassId × FieldType)} {sb : Nat} {Q : State → Prop} {L : List Nat} {f : Nat → va_E} {cells slots : Nat} {pc : Nat} {lv : List (Nat × Value)} {rest : List Value}
theorem vpNewLg (X : vCX p s m args meth c cc nL own Ts D cl tys sb) (harr : Cond.arrayClass .long ∈ Ts) {cA : ClassId} (t0 : Nat) (ht : tys[t0]? = some (cA, .long)) {n : Int32} {N' : Nat} (hn : n = nI N') (hN : N' ≤ 65536) (hcells : cells + 1 ≤ R.cells) (hslots : slots + N' ≤ R.slots) (hd : decode cc pc = .ok (.newarray .long, 2))
    (kk : ∀ q : Nat, q ∉ L → vV p l e R s m args below meth c nL D cl sb Q (va_pl (L ++ [q]) (va_up f q (.inl (cA, N', .inr (.inl (fun _ => 0)))))) (cells + 1) (slots + N') (pc + 2) lv (.ref q :: rest)) : vV p l e R s m args below meth c nL D cl sb Q (va_pl L f) cells slots pc lv (.int n :: rest) := by
  refine vNewa X (atype := .long) (ty := .long) harr rfl t0 ht (a0 := (N', .inr (.inl (fun _ => 0)))) (fun cA => rfl) hn hN (by show N' * 8 ≤ _; omega) hcells hslots hd (fun q hD => ?_)
  have hq : q ∉ L := va_pl_fresh2 (X := []) hD
  rw [va_pl_push hq]
  exact kk q hq
theorem vpNewDb (X : vCX p s m args meth c cc nL own Ts D cl tys sb) (harr : Cond.arrayClass .double ∈ Ts) {cA : ClassId} (t0 : Nat) (ht : tys[t0]? = some (cA, .double)) {n : Int32} {N' : Nat} (hn : n = nI N') (hN : N' ≤ 65536) (hcells : cells + 1 ≤ R.cells) (hslots : slots + N' ≤ R.slots) (hd : decode cc pc = .ok (.newarray .double, 2))
    (kk : ∀ q : Nat, q ∉ L → vV p l e R s m args below meth c nL D cl sb Q (va_pl (L ++ [q]) (va_up f q (.inl (cA, N', .inr (.inr (.inr (.inl (fun _ => 0)))))))) (cells + 1) (slots + N') (pc + 2) lv (.ref q :: rest)) : vV p l e R s m args below meth c nL D cl sb Q (va_pl L f) cells slots pc lv (.int n :: rest) := by
  refine vNewa X (atype := .double) (ty := .double) harr rfl t0 ht (a0 := (N', .inr (.inr (.inr (.inl (fun _ => 0)))))) (fun cA => rfl) hn hN (by show N' * 8 ≤ _; omega) hcells hslots hd (fun q hD => ?_)
  have hq : q ∉ L := va_pl_fresh2 (X := []) hD
  rw [va_pl_push hq]
  exact kk q hq
end VPN
set_option maxHeartbeats 4000000 in
/-- YOUR PART: from the entry, for every script of at most 3072 ints, the law comes to its end with true -/
theorem whole_start {p : Program} {e : Env} {s : State} {m : MethodId} {below : List Frame} {meth : Method} {c : Code} (l : Launch) (hflags : l.flags = flags0) {b L : Nat} {xs : Nat → Int32} (hL : L ≤ 3072) (C0 : lw_At p s m meth c b L xs) : W p l e room_1 s m #[Value.ref b] below meth c s.heap [] 0 0 (lw_Z below #[Value.ref b] s) (entryFrame m ([Value.ref b] : List Value).toArray 9) := by
  obtain ⟨hx, hb, hr, hml, hown, hts, hX, hbl, hlocks, hgv⟩ := C0
  have hl : l.stackTraces = false := by unfold Launch.stackTraces; rw [hflags]; decide
  obtain ⟨D, k, hK⟩ := enK hts
  have hcl : s.vm.findClass RX3 = some (D.1 3) := (hK.1 3 (RX3, TX3, 5) rfl).2.1
  have hE : vEL s.heap.size s := enE hts hgv hcl
  have hO : vAO s := enA hts
  have hg : ∀ w ∈ (Cond.initialized "Bytewell" :: vGW), w.before #[Value.ref b] s = true := List.forall_mem_cons.mpr ⟨hts _ (vGW_good q_24).1, fun w hw => hts w (vGW_good hw).1⟩
  have X : vCX p s m #[.ref b] meth c cL_law 9 RL (Cond.initialized "Bytewell" :: vGW) D vCl (vTy k) s.heap.size := ⟨hx, hb, hml, hown, hg, hK, Nat.le_refl _, hlocks⟩
  have hexit : ∀ (ws : va_W) (cells slots : Nat) (lv : List (Nat × Value)), cells ≤ 603072 → slots ≤ 7219306 → vV p l e room_1 s m #[.ref b] below meth c 9 D vCl s.heap.size (lw_Z below #[Value.ref b] s) ws cells slots 2505 lv [] := fun ws cells slots lv hc hs => by
    refine vIconst X dL_law_2505 (v := 1) (by decide) ?_
    exact fun H locs ls hP hD hS hls => va_forget hS.2.2 (W.widen hc hs (lw_ret (d0 := s.drawn) (Drawn.sameBut.refl s.drawn lw_cs) hx hb hr hlocks dL_law_2506))
  have start : vV p l e room_1 s m #[.ref b] below meth c 9 D vCl s.heap.size (lw_Z below #[Value.ref b] s) (va_pl [] (fun _ => .inr (0, []))) 0 0 0 [(0, .ref b)] [] := by
    refine vpNew X (C := RX3) (T := TX3) (N := 5) (ci := 3) (fs := [.null, .null, .null, .null, .null]) (vcons inB) tyX3 tyX3_ok (List.mem_cons_of_mem _ q_42) (List.mem_cons_of_mem _ q_43) (List.mem_cons_of_mem _ q_24) rfl (fun j hj => by rcases (show j = 0 ∨ j = 1 ∨ j = 2 ∨ j = 3 ∨ j = 4 by omega) with rfl | rfl | rfl | rfl | rfl <;> rfl) (Nat.le_of_ble_eq_true rfl) (Nat.le_of_ble_eq_true rfl) dL_law_0 (fun x hx9 => ?_)
    refine vDup X dL_law_3 rfl ?_
    refine vCallIO X hO [.ref x] (cb_init l D k s.heap.size ([] ++ [x]) _ x (List.mem_cons_self) (va_up_eq _ _ _)) (vGI q_46) rfl (List.mem_cons_of_mem _ q_24) (List.mem_cons_of_mem _ q_44) (List.mem_cons_of_mem _ q_45) ⟨by decide, by decide, (show _ = some 0 from by decide +kernel)⟩ ⟨(Nat.le_of_ble_eq_true rfl), (Nat.le_of_ble_eq_true rfl)⟩ rfl (Nat.le_of_ble_eq_true rfl) dL_law_4 ⟨(Nat.le_of_ble_eq_true rfl), (Nat.le_of_ble_eq_true rfl)⟩ (fun v9 w9 hp9 => ?_)
    obtain ⟨aW, aG, aR, h0, b0, h1, b1, h2, b2, h3, b3, u0, ur0, ub0, u1, ur1, ub1, u2, ur2, ub2, r0, w0, wb0, r1, w1, wb1, r2, w2, wb2, tr, tw, twb, tg, tur, tub, gW, gG, gR, L1, f1, hk1, y0, y1, y2, y3, y4, y5, y6, y7, y8, y9, y10, y11, y12, y13, y14, y15, y16, y17, y18, y19, y20, y21, y22, y23, y24, y25, y26, y27, y28, y29, y30, y31, y32, y33, y34, y35, y36, y37, y38, y39, y40, y41, y42, y43, y44, y45, y46, y47, y48, y49, y50, y51, y52, y53, y54, y55, y56, y57, y58, y59, y60, y61, y62, y63, y64, y65, y66, y67, y68, y69, y70, y71, y72, y73, y74, y75, rfl, rfl⟩ := hp9
    have hI1 : ∀ Z : Nat → Prop, (∀ a, a ∈ L1 → ¬ Z a) → cInv k L1 f1 Z x sB sN sRm sRd sN sN sB sN := fun Z hZ => cI_start k L1 f1 Z x aW aG aR h0 b0 h1 b1 h2 b2 h3 b3 u0 ur0 ub0 u1 ur1 ub1 u2 ur2 ub2 r0 w0 wb0 r1 w1 wb1 r2 w2 wb2 tr tw twb tg tur tub gW gG gR hZ y0 y1 y2 y3 y4 y5 y6 y7 y8 y9 y10 y11 y12 y13 y14 y15 y16 y17 y18 y19 y20 y21 y22 y23 y24 y25 y26 y27 y28 y29 y30 y31 y32 y33 y34 y35 y36 y37 y38 y39 y40 y41 y42 y43 y44 y45 y46 y47 y48 y49 y50 y51 y52 y53 y54 y55 y56 y57 y58 y59 y60 y61 y62 y63 y64 y65 y66 y67 y68 y69 y70 y71 y72 y73 y74 y75
    refine vAstoreN X [(1, .ref x), (0, .ref b)] dL_law_7 (by decide) rfl ?_
    refine vpNew X (C := RX4) (T := TX4) (N := 10) (ci := 4) (fs := [.null, .null, .null, .null, .null, .null, .null, .null, .null, .int 0]) (vcons inM) tyX4 tyX4_ok (List.mem_cons_of_mem _ q_736) (List.mem_cons_of_mem _ q_737) (List.mem_cons_of_mem _ q_29) rfl (fun j hj => by rcases (show j = 0 ∨ j = 1 ∨ j = 2 ∨ j = 3 ∨ j = 4 ∨ j = 5 ∨ j = 6 ∨ j = 7 ∨ j = 8 ∨ j = 9 by omega) with rfl | rfl | rfl | rfl | rfl | rfl | rfl | rfl | rfl | rfl <;> rfl) (Nat.le_of_ble_eq_true rfl) (Nat.le_of_ble_eq_true rfl) dL_law_8 (fun mq hm9 => ?_)
    refine vDup X dL_law_11 rfl ?_
    refine vCallI X [.ref mq] (cm_init l D k s.heap.size (L1 ++ [mq]) _ mq (List.mem_append_right _ List.mem_cons_self) (va_up_eq _ _ _)) (vGI q_740) rfl (List.mem_cons_of_mem _ q_29) (List.mem_cons_of_mem _ q_738) (List.mem_cons_of_mem _ q_739) ⟨by decide, by decide, (show _ = some 0 from by decide +kernel)⟩ ⟨(Nat.le_of_ble_eq_true rfl), (Nat.le_of_ble_eq_true rfl)⟩ rfl (Nat.le_of_ble_eq_true rfl) dL_law_12 ⟨(Nat.le_of_ble_eq_true rfl), (Nat.le_of_ble_eq_true rfl)⟩ (fun v8 w8 hp8 => ?_)
    obtain ⟨o1, o2, o3, o4, o5, o6, o7, o8, o9, L2, f2, hk2, z0, z1, z2, z3, z4, z5, z6, z7, z8, z9, z10, z11, z12, z13, z14, z15, z16, z17, z18, z19, z20, z21, z22, z23, z24, z25, z26, z27, z28, z29, z30, z31, z32, z33, z34, z35, z36, z37, z38, z39, z40, z41, z42, z43, z44, z45, z46, z47, z48, z49, z50, z51, z52, z53, z54, z55, z56, z57, z58, z59, z60, z61, z62, z63, z64, rfl, rfl⟩ := hp8
    refine vAstoreN X [(2, .ref mq), (1, .ref x), (0, .ref b)] dL_law_15 (by decide) rfl ?_
    refine vIconst X dL_law_16 (v := nI 1) (by decide) ?_
    refine vpNewLg X (List.mem_cons_of_mem _ q_983) 5 rfl rfl (by decide) (Nat.le_of_ble_eq_true rfl) (Nat.le_of_ble_eq_true rfl) dL_law_17 (fun ou hou => ?_)
    refine vAstoreN X [(3, .ref ou), (2, .ref mq), (1, .ref x), (0, .ref b)] dL_law_19 (by decide) rfl ?_
    refine vIconst X dL_law_20 (v := nI 1) (by decide) ?_
    refine vpNewDb X (List.mem_cons_of_mem _ q_984) 6 rfl rfl (by decide) (Nat.le_of_ble_eq_true rfl) (Nat.le_of_ble_eq_true rfl) dL_law_21 (fun od hod => ?_)
    refine vAstore X [(4, .ref od), (3, .ref ou), (2, .ref mq), (1, .ref x), (0, .ref b)] dL_law_23 (by decide) rfl ?_
    refine vIconst X dL_law_25 (v := nI 0) (by decide) ?_
    refine vIstore X [(5, .int (nI 0)), (4, .ref od), (3, .ref ou), (2, .ref mq), (1, .ref x), (0, .ref b)] dL_law_26 (by decide) rfl ?_
    have m0 : mq ∈ L2 := z0
    have nou : ∀ t, t ∈ L2 → t ≠ ou := fun t ht z => hou (by rw [← z]; exact ht)
    have nod : ∀ t, t ∈ L2 → t ≠ od := fun t ht z => hod (by rw [← z]; exact List.mem_append_left _ ht)
    have noo : ou ≠ od := fun z => hod (by rw [← z]; exact List.mem_append_right _ List.mem_cons_self)
    have m3 : ∀ t, t ∈ L2 → t ∈ (L2 ++ [ou]) ++ [od] := fun t ht => List.mem_append_left _ (List.mem_append_left _ ht)
    have v3 : ∀ t, t ∈ L2 → va_up (va_up f2 ou (.inl (k 5, 1, .inr (.inl (fun _ => 0))))) od (.inl (k 6, 1, .inr (.inr (.inr (.inl (fun _ => 0)))))) t = f2 t := fun t ht => (va_up_nq _ (nod t ht)).trans (va_up_nq _ (nou t ht))
    have oL : ∀ i, i < 10 → (p10 mq o1 o2 o3 o4 o5 o6 o7 o8 o9) i ∈ L2 := fun i hi => by
      rcases (show i = 0 ∨ i = 1 ∨ i = 2 ∨ i = 3 ∨ i = 4 ∨ i = 5 ∨ i = 6 ∨ i = 7 ∨ i = 8 ∨ i = 9 by omega) with rfl | rfl | rfl | rfl | rfl | rfl | rfl | rfl | rfl | rfl
      · exact m0
      · exact z3
      · exact z6
      · exact z9
      · exact z12
      · exact z15
      · exact z18
      · exact z21
      · exact z24
      · exact z27
    have nm : ∀ t, t ∈ L1 → t ≠ mq := fun t ht z => hm9 (by rw [← z]; exact ht)
    have oN : ∀ i, i < 10 → ∀ t, t ∈ L1 → t ≠ (p10 mq o1 o2 o3 o4 o5 o6 o7 o8 o9) i := fun i hi t ht => by
      rcases (show i = 0 ∨ i = 1 ∨ i = 2 ∨ i = 3 ∨ i = 4 ∨ i = 5 ∨ i = 6 ∨ i = 7 ∨ i = 8 ∨ i = 9 by omega) with rfl | rfl | rfl | rfl | rfl | rfl | rfl | rfl | rfl | rfl
      · exact nm t ht
      · exact fun z => z2 (by rw [show o1 = t from z.symm]; exact List.mem_append_left _ ht)
      · exact fun z => z5 (by rw [show o2 = t from z.symm]; exact List.mem_append_left _ ht)
      · exact fun z => z8 (by rw [show o3 = t from z.symm]; exact List.mem_append_left _ ht)
      · exact fun z => z11 (by rw [show o4 = t from z.symm]; exact List.mem_append_left _ ht)
      · exact fun z => z14 (by rw [show o5 = t from z.symm]; exact List.mem_append_left _ ht)
      · exact fun z => z17 (by rw [show o6 = t from z.symm]; exact List.mem_append_left _ ht)
      · exact fun z => z20 (by rw [show o7 = t from z.symm]; exact List.mem_append_left _ ht)
      · exact fun z => z23 (by rw [show o8 = t from z.symm]; exact List.mem_append_left _ ht)
      · exact fun z => z26 (by rw [show o9 = t from z.symm]; exact List.mem_append_left _ ht)
    have oJ : ∀ i j, i < 10 → j < 10 → (p10 mq o1 o2 o3 o4 o5 o6 o7 o8 o9) i = (p10 mq o1 o2 o3 o4 o5 o6 o7 o8 o9) j → i = j := fun i j hi hj => by
      rcases (show i = 0 ∨ i = 1 ∨ i = 2 ∨ i = 3 ∨ i = 4 ∨ i = 5 ∨ i = 6 ∨ i = 7 ∨ i = 8 ∨ i = 9 by omega) with rfl | rfl | rfl | rfl | rfl | rfl | rfl | rfl | rfl | rfl <;> rcases (show j = 0 ∨ j = 1 ∨ j = 2 ∨ j = 3 ∨ j = 4 ∨ j = 5 ∨ j = 6 ∨ j = 7 ∨ j = 8 ∨ j = 9 by omega) with rfl | rfl | rfl | rfl | rfl | rfl | rfl | rfl | rfl | rfl
      · exact fun _ => rfl
      · exact fun z => absurd z (show mq ≠ o1 from (Ne.symm (show o1 ≠ mq from (fun z => z2 (by rw [z]; exact List.mem_append_right _ List.mem_cons_self)))))
      · exact fun z => absurd z (show mq ≠ o2 from (Ne.symm (show o2 ≠ mq from (fun z => z5 (by rw [z]; exact List.mem_append_right _ List.mem_cons_self)))))
      · exact fun z => absurd z (show mq ≠ o3 from (Ne.symm (show o3 ≠ mq from (fun z => z8 (by rw [z]; exact List.mem_append_right _ List.mem_cons_self)))))
      · exact fun z => absurd z (show mq ≠ o4 from (Ne.symm (show o4 ≠ mq from (fun z => z11 (by rw [z]; exact List.mem_append_right _ List.mem_cons_self)))))
      · exact fun z => absurd z (show mq ≠ o5 from (Ne.symm (show o5 ≠ mq from (fun z => z14 (by rw [z]; exact List.mem_append_right _ List.mem_cons_self)))))
      · exact fun z => absurd z (show mq ≠ o6 from (Ne.symm (show o6 ≠ mq from (fun z => z17 (by rw [z]; exact List.mem_append_right _ List.mem_cons_self)))))
      · exact fun z => absurd z (show mq ≠ o7 from (Ne.symm (show o7 ≠ mq from (fun z => z20 (by rw [z]; exact List.mem_append_right _ List.mem_cons_self)))))
      · exact fun z => absurd z (show mq ≠ o8 from (Ne.symm (show o8 ≠ mq from (fun z => z23 (by rw [z]; exact List.mem_append_right _ List.mem_cons_self)))))
      · exact fun z => absurd z (show mq ≠ o9 from (Ne.symm (show o9 ≠ mq from (fun z => z26 (by rw [z]; exact List.mem_append_right _ List.mem_cons_self)))))
      · exact fun z => absurd z (show o1 ≠ mq from (fun z => z2 (by rw [z]; exact List.mem_append_right _ List.mem_cons_self)))
      · exact fun _ => rfl
      · exact fun z => absurd z (show o1 ≠ o2 from z29)
      · exact fun z => absurd z (show o1 ≠ o3 from z30)
      · exact fun z => absurd z (show o1 ≠ o4 from z32)
      · exact fun z => absurd z (show o1 ≠ o5 from z35)
      · exact fun z => absurd z (show o1 ≠ o6 from z39)
      · exact fun z => absurd z (show o1 ≠ o7 from z44)
      · exact fun z => absurd z (show o1 ≠ o8 from z50)
      · exact fun z => absurd z (show o1 ≠ o9 from z57)
      · exact fun z => absurd z (show o2 ≠ mq from (fun z => z5 (by rw [z]; exact List.mem_append_right _ List.mem_cons_self)))
      · exact fun z => absurd z (show o2 ≠ o1 from (Ne.symm z29))
      · exact fun _ => rfl
      · exact fun z => absurd z (show o2 ≠ o3 from z31)
      · exact fun z => absurd z (show o2 ≠ o4 from z33)
      · exact fun z => absurd z (show o2 ≠ o5 from z36)
      · exact fun z => absurd z (show o2 ≠ o6 from z40)
      · exact fun z => absurd z (show o2 ≠ o7 from z45)
      · exact fun z => absurd z (show o2 ≠ o8 from z51)
      · exact fun z => absurd z (show o2 ≠ o9 from z58)
      · exact fun z => absurd z (show o3 ≠ mq from (fun z => z8 (by rw [z]; exact List.mem_append_right _ List.mem_cons_self)))
      · exact fun z => absurd z (show o3 ≠ o1 from (Ne.symm z30))
      · exact fun z => absurd z (show o3 ≠ o2 from (Ne.symm z31))
      · exact fun _ => rfl
      · exact fun z => absurd z (show o3 ≠ o4 from z34)
      · exact fun z => absurd z (show o3 ≠ o5 from z37)
      · exact fun z => absurd z (show o3 ≠ o6 from z41)
      · exact fun z => absurd z (show o3 ≠ o7 from z46)
      · exact fun z => absurd z (show o3 ≠ o8 from z52)
      · exact fun z => absurd z (show o3 ≠ o9 from z59)
      · exact fun z => absurd z (show o4 ≠ mq from (fun z => z11 (by rw [z]; exact List.mem_append_right _ List.mem_cons_self)))
      · exact fun z => absurd z (show o4 ≠ o1 from (Ne.symm z32))
      · exact fun z => absurd z (show o4 ≠ o2 from (Ne.symm z33))
      · exact fun z => absurd z (show o4 ≠ o3 from (Ne.symm z34))
      · exact fun _ => rfl
      · exact fun z => absurd z (show o4 ≠ o5 from z38)
      · exact fun z => absurd z (show o4 ≠ o6 from z42)
      · exact fun z => absurd z (show o4 ≠ o7 from z47)
      · exact fun z => absurd z (show o4 ≠ o8 from z53)
      · exact fun z => absurd z (show o4 ≠ o9 from z60)
      · exact fun z => absurd z (show o5 ≠ mq from (fun z => z14 (by rw [z]; exact List.mem_append_right _ List.mem_cons_self)))
      · exact fun z => absurd z (show o5 ≠ o1 from (Ne.symm z35))
      · exact fun z => absurd z (show o5 ≠ o2 from (Ne.symm z36))
      · exact fun z => absurd z (show o5 ≠ o3 from (Ne.symm z37))
      · exact fun z => absurd z (show o5 ≠ o4 from (Ne.symm z38))
      · exact fun _ => rfl
      · exact fun z => absurd z (show o5 ≠ o6 from z43)
      · exact fun z => absurd z (show o5 ≠ o7 from z48)
      · exact fun z => absurd z (show o5 ≠ o8 from z54)
      · exact fun z => absurd z (show o5 ≠ o9 from z61)
      · exact fun z => absurd z (show o6 ≠ mq from (fun z => z17 (by rw [z]; exact List.mem_append_right _ List.mem_cons_self)))
      · exact fun z => absurd z (show o6 ≠ o1 from (Ne.symm z39))
      · exact fun z => absurd z (show o6 ≠ o2 from (Ne.symm z40))
      · exact fun z => absurd z (show o6 ≠ o3 from (Ne.symm z41))
      · exact fun z => absurd z (show o6 ≠ o4 from (Ne.symm z42))
      · exact fun z => absurd z (show o6 ≠ o5 from (Ne.symm z43))
      · exact fun _ => rfl
      · exact fun z => absurd z (show o6 ≠ o7 from z49)
      · exact fun z => absurd z (show o6 ≠ o8 from z55)
      · exact fun z => absurd z (show o6 ≠ o9 from z62)
      · exact fun z => absurd z (show o7 ≠ mq from (fun z => z20 (by rw [z]; exact List.mem_append_right _ List.mem_cons_self)))
      · exact fun z => absurd z (show o7 ≠ o1 from (Ne.symm z44))
      · exact fun z => absurd z (show o7 ≠ o2 from (Ne.symm z45))
      · exact fun z => absurd z (show o7 ≠ o3 from (Ne.symm z46))
      · exact fun z => absurd z (show o7 ≠ o4 from (Ne.symm z47))
      · exact fun z => absurd z (show o7 ≠ o5 from (Ne.symm z48))
      · exact fun z => absurd z (show o7 ≠ o6 from (Ne.symm z49))
      · exact fun _ => rfl
      · exact fun z => absurd z (show o7 ≠ o8 from z56)
      · exact fun z => absurd z (show o7 ≠ o9 from z63)
      · exact fun z => absurd z (show o8 ≠ mq from (fun z => z23 (by rw [z]; exact List.mem_append_right _ List.mem_cons_self)))
      · exact fun z => absurd z (show o8 ≠ o1 from (Ne.symm z50))
      · exact fun z => absurd z (show o8 ≠ o2 from (Ne.symm z51))
      · exact fun z => absurd z (show o8 ≠ o3 from (Ne.symm z52))
      · exact fun z => absurd z (show o8 ≠ o4 from (Ne.symm z53))
      · exact fun z => absurd z (show o8 ≠ o5 from (Ne.symm z54))
      · exact fun z => absurd z (show o8 ≠ o6 from (Ne.symm z55))
      · exact fun z => absurd z (show o8 ≠ o7 from (Ne.symm z56))
      · exact fun _ => rfl
      · exact fun z => absurd z (show o8 ≠ o9 from z64)
      · exact fun z => absurd z (show o9 ≠ mq from (fun z => z26 (by rw [z]; exact List.mem_append_right _ List.mem_cons_self)))
      · exact fun z => absurd z (show o9 ≠ o1 from (Ne.symm z57))
      · exact fun z => absurd z (show o9 ≠ o2 from (Ne.symm z58))
      · exact fun z => absurd z (show o9 ≠ o3 from (Ne.symm z59))
      · exact fun z => absurd z (show o9 ≠ o4 from (Ne.symm z60))
      · exact fun z => absurd z (show o9 ≠ o5 from (Ne.symm z61))
      · exact fun z => absurd z (show o9 ≠ o6 from (Ne.symm z62))
      · exact fun z => absurd z (show o9 ≠ o7 from (Ne.symm z63))
      · exact fun z => absurd z (show o9 ≠ o8 from (Ne.symm z64))
      · exact fun _ => rfl
    have oV : ∀ i, i < 10 → f2 ((p10 mq o1 o2 o3 o4 o5 o6 o7 o8 o9) i) = mcell k (p10 mq o1 o2 o3 o4 o5 o6 o7 o8 o9) sB sN sRm sRd sN sN sB sN (fun _ => 0) 0 i := fun i hi => by
      rcases (show i = 0 ∨ i = 1 ∨ i = 2 ∨ i = 3 ∨ i = 4 ∨ i = 5 ∨ i = 6 ∨ i = 7 ∨ i = 8 ∨ i = 9 by omega) with rfl | rfl | rfl | rfl | rfl | rfl | rfl | rfl | rfl | rfl
      · exact z1
      · exact z4
      · exact z7
      · have z := z10
        rw [sRm_eq] at z
        exact z
      · have z := z13
        rw [sRd_eq] at z
        exact z
      · exact z16
      · exact z19
      · exact z22
      · exact z25
      · exact z28
    have kL : ∀ t, t ∈ L1 → t ∈ L2 ∧ f2 t = f1 t := fun t ht => ⟨(hk2 t (List.mem_append_left _ ht)).1, ((hk2 t (List.mem_append_left _ ht)).2 (nm t ht)).trans (va_up_nq _ (nm t ht))⟩
    have hZ1 : ∀ a, a ∈ L1 → ¬ lZ (p10 mq o1 o2 o3 o4 o5 o6 o7 o8 o9) ou od a := fun a ha hz => by
      rcases hz with ⟨i, hi, z⟩ | z | z
      · exact oN i hi a ha z
      · exact nou a (kL a ha).1 z
      · exact nod a (kL a ha).1 z
    have hinv : lInv k (p10 mq o1 o2 o3 o4 o5 o6 o7 o8 o9) ou od x ((L2 ++ [ou]) ++ [od]) (va_up (va_up f2 ou (.inl (k 5, 1, .inr (.inl (fun _ => 0))))) od (.inl (k 6, 1, .inr (.inr (.inr (.inl (fun _ => 0))))))) sB sN sRm sRd sN sN sB sN (fun _ => 0) 0 (fun _ => 0) (fun _ => 0) :=
      ⟨(hI1 _ hZ1).foreign (fun t ht => ⟨m3 t (kL t ht).1, fun _ => (v3 t (kL t ht).1).trans (kL t ht).2⟩), ⟨fun i hi => m3 _ (oL i hi), oJ, fun i hi => (v3 _ (oL i hi)).trans (oV i hi)⟩, List.mem_append_left _ (List.mem_append_right _ List.mem_cons_self), List.mem_append_right _ List.mem_cons_self, (va_up_nq _ noo).trans (va_up_eq _ _ _), va_up_eq _ _ _, fun i hi => Ne.symm (nou _ (oL i hi)), fun i hi => Ne.symm (nod _ (oL i hi)), noo⟩
    exact lw_loop l X hE hl hX hbl hL hexit (L / 6) (i := 0) (o := (p10 mq o1 o2 o3 o4 o5 o6 o7 o8 o9)) (by omega) (by omega) (by omega) (by omega) hinv
  rw [lg_entry_eq]
  exact start s.heap [] _ (fun k q h => by simp [va_pl] at h) ⟨fun i j p q h => by simp [va_pl] at h, fun k q h => by simp [va_pl] at h⟩ va_S.rf (lv_entry [.ref b] (Nat.le_of_ble_eq_true rfl))
