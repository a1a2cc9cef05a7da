section
-- ===== PART A: goes FIRST, ahead of the names: the tables' words, and 'selects' of the private methods out of them =====
/-- a private method of a class that the tables say can be made, by its rows of tables_1 -/
def lw_okq (q : MethodName × Nat) : Prop := (q.1.cls ≠ "java/lang/invoke/MethodHandle" ∧ q.1.cls ≠ "java/lang/invoke/VarHandle") ∧ Cond.instantiable q.1.cls q.2 ∈ tables_1 ∧ Cond.privateMethod q.1 ∈ tables_1 ∧ Cond.instanceMethod q.1 ∈ tables_1
theorem lw_p0 : lw_okq (⟨"Bytewell", "isReadBack", "(LBytewell$Gatherer;)Z"⟩, 5) := ⟨⟨by decide +kernel, by decide +kernel⟩, List.mem_of_getElem? (i := 20) (by decide +kernel), List.mem_of_getElem? (i := 153) (by decide +kernel), List.mem_of_getElem? (i := 154) (by decide +kernel)⟩
theorem lw_p1 : lw_okq (⟨"Bytewell", "isPouredBack", "(LBytewell$Gatherer;)Z"⟩, 5) := ⟨⟨by decide +kernel, by decide +kernel⟩, List.mem_of_getElem? (i := 20) (by decide +kernel), List.mem_of_getElem? (i := 205) (by decide +kernel), List.mem_of_getElem? (i := 206) (by decide +kernel)⟩
theorem lw_p2 : lw_okq (⟨"java/lang/Throwable", "fillInStackTrace", "(I)Ljava/lang/Throwable;"⟩, 6) := ⟨⟨by decide +kernel, by decide +kernel⟩, List.mem_of_getElem? (i := 269) (by decide +kernel), List.mem_of_getElem? (i := 267) (by decide +kernel), List.mem_of_getElem? (i := 268) (by decide +kernel)⟩
theorem lw_p3 : lw_okq (⟨"Bytewell", "rowAt", "(I)LBytewell$Row;"⟩, 5) := ⟨⟨by decide +kernel, by decide +kernel⟩, List.mem_of_getElem? (i := 20) (by decide +kernel), List.mem_of_getElem? (i := 319) (by decide +kernel), List.mem_of_getElem? (i := 320) (by decide +kernel)⟩
theorem lw_p4 : lw_okq (⟨"Bytewell", "needRow", "(I)V"⟩, 5) := ⟨⟨by decide +kernel, by decide +kernel⟩, List.mem_of_getElem? (i := 20) (by decide +kernel), List.mem_of_getElem? (i := 323) (by decide +kernel), List.mem_of_getElem? (i := 324) (by decide +kernel)⟩
theorem lw_p5 : lw_okq (⟨"Bytewell", "gathererAt", "(I)LBytewell$Gatherer;"⟩, 5) := ⟨⟨by decide +kernel, by decide +kernel⟩, List.mem_of_getElem? (i := 20) (by decide +kernel), List.mem_of_getElem? (i := 416) (by decide +kernel), List.mem_of_getElem? (i := 417) (by decide +kernel)⟩
theorem lw_p6 : lw_okq (⟨"Bytewell", "readerAt", "(I)LBytewell$Reader;"⟩, 5) := ⟨⟨by decide +kernel, by decide +kernel⟩, List.mem_of_getElem? (i := 20) (by decide +kernel), List.mem_of_getElem? (i := 500) (by decide +kernel), List.mem_of_getElem? (i := 501) (by decide +kernel)⟩
theorem lw_p7 : lw_okq (⟨"BytewellModel", "isRow", "(I)Z"⟩, 10) := ⟨⟨by decide +kernel, by decide +kernel⟩, List.mem_of_getElem? (i := 714) (by decide +kernel), List.mem_of_getElem? (i := 760) (by decide +kernel), List.mem_of_getElem? (i := 761) (by decide +kernel)⟩
theorem lw_p8 : lw_okq (⟨"BytewellModel", "isWrong", "(I)Z"⟩, 10) := ⟨⟨by decide +kernel, by decide +kernel⟩, List.mem_of_getElem? (i := 714) (by decide +kernel), List.mem_of_getElem? (i := 764) (by decide +kernel), List.mem_of_getElem? (i := 765) (by decide +kernel)⟩
theorem lw_p9 : lw_okq (⟨"BytewellModel", "long0", "(I)I"⟩, 10) := ⟨⟨by decide +kernel, by decide +kernel⟩, List.mem_of_getElem? (i := 714) (by decide +kernel), List.mem_of_getElem? (i := 768) (by decide +kernel), List.mem_of_getElem? (i := 769) (by decide +kernel)⟩
theorem lw_p10 : lw_okq (⟨"BytewellModel", "becomes", "(II)V"⟩, 10) := ⟨⟨by decide +kernel, by decide +kernel⟩, List.mem_of_getElem? (i := 714) (by decide +kernel), List.mem_of_getElem? (i := 772) (by decide +kernel), List.mem_of_getElem? (i := 773) (by decide +kernel)⟩
theorem lw_p11 : lw_okq (⟨"BytewellModel", "free", "()I"⟩, 10) := ⟨⟨by decide +kernel, by decide +kernel⟩, List.mem_of_getElem? (i := 714) (by decide +kernel), List.mem_of_getElem? (i := 776) (by decide +kernel), List.mem_of_getElem? (i := 777) (by decide +kernel)⟩
theorem lw_p12 : lw_okq (⟨"BytewellModel", "isPart", "(III)Z"⟩, 10) := ⟨⟨by decide +kernel, by decide +kernel⟩, List.mem_of_getElem? (i := 714) (by decide +kernel), List.mem_of_getElem? (i := 792) (by decide +kernel), List.mem_of_getElem? (i := 793) (by decide +kernel)⟩
theorem lw_p13 : lw_okq (⟨"BytewellModel", "low", "(I)I"⟩, 10) := ⟨⟨by decide +kernel, by decide +kernel⟩, List.mem_of_getElem? (i := 714) (by decide +kernel), List.mem_of_getElem? (i := 800) (by decide +kernel), List.mem_of_getElem? (i := 801) (by decide +kernel)⟩
theorem lw_p14 : lw_okq (⟨"BytewellModel", "isOther", "(I)Z"⟩, 10) := ⟨⟨by decide +kernel, by decide +kernel⟩, List.mem_of_getElem? (i := 714) (by decide +kernel), List.mem_of_getElem? (i := 816) (by decide +kernel), List.mem_of_getElem? (i := 817) (by decide +kernel)⟩
theorem lw_p15 : lw_okq (⟨"BytewellModel", "isFull", "(II)Z"⟩, 10) := ⟨⟨by decide +kernel, by decide +kernel⟩, List.mem_of_getElem? (i := 714) (by decide +kernel), List.mem_of_getElem? (i := 820) (by decide +kernel), List.mem_of_getElem? (i := 821) (by decide +kernel)⟩
def lw_privs_1 : List (MethodName × Nat) := [(⟨"Bytewell", "isReadBack", "(LBytewell$Gatherer;)Z"⟩, 5), (⟨"Bytewell", "isPouredBack", "(LBytewell$Gatherer;)Z"⟩, 5), (⟨"java/lang/Throwable", "fillInStackTrace", "(I)Ljava/lang/Throwable;"⟩, 6), (⟨"Bytewell", "rowAt", "(I)LBytewell$Row;"⟩, 5), (⟨"Bytewell", "needRow", "(I)V"⟩, 5), (⟨"Bytewell", "gathererAt", "(I)LBytewell$Gatherer;"⟩, 5), (⟨"Bytewell", "readerAt", "(I)LBytewell$Reader;"⟩, 5), (⟨"BytewellModel", "isRow", "(I)Z"⟩, 10), (⟨"BytewellModel", "isWrong", "(I)Z"⟩, 10), (⟨"BytewellModel", "long0", "(I)I"⟩, 10), (⟨"BytewellModel", "becomes", "(II)V"⟩, 10), (⟨"BytewellModel", "free", "()I"⟩, 10), (⟨"BytewellModel", "isPart", "(III)Z"⟩, 10), (⟨"BytewellModel", "low", "(I)I"⟩, 10), (⟨"BytewellModel", "isOther", "(I)Z"⟩, 10), (⟨"BytewellModel", "isFull", "(II)Z"⟩, 10)]
theorem lw_r1 : ∀ q ∈ lw_privs_1, lw_okq q := List.forall_mem_cons.mpr ⟨lw_p0, List.forall_mem_cons.mpr ⟨lw_p1, List.forall_mem_cons.mpr ⟨lw_p2, List.forall_mem_cons.mpr ⟨lw_p3, List.forall_mem_cons.mpr ⟨lw_p4, List.forall_mem_cons.mpr ⟨lw_p5, List.forall_mem_cons.mpr ⟨lw_p6, List.forall_mem_cons.mpr ⟨lw_p7, List.forall_mem_cons.mpr ⟨lw_p8, List.forall_mem_cons.mpr ⟨lw_p9, List.forall_mem_cons.mpr ⟨lw_p10, List.forall_mem_cons.mpr ⟨lw_p11, List.forall_mem_cons.mpr ⟨lw_p12, List.forall_mem_cons.mpr ⟨lw_p13, List.forall_mem_cons.mpr ⟨lw_p14, List.forall_mem_cons.mpr ⟨lw_p15, fun _ h => absurd h List.not_mem_nil⟩⟩⟩⟩⟩⟩⟩⟩⟩⟩⟩⟩⟩⟩⟩⟩
theorem lw_p16 : lw_okq (⟨"BytewellModel", "adds", "(II)V"⟩, 10) := ⟨⟨by decide +kernel, by decide +kernel⟩, List.mem_of_getElem? (i := 714) (by decide +kernel), List.mem_of_getElem? (i := 824) (by decide +kernel), List.mem_of_getElem? (i := 825) (by decide +kernel)⟩
theorem lw_p17 : lw_okq (⟨"BytewellModel", "leftOf", "(I)I"⟩, 10) := ⟨⟨by decide +kernel, by decide +kernel⟩, List.mem_of_getElem? (i := 714) (by decide +kernel), List.mem_of_getElem? (i := 857) (by decide +kernel), List.mem_of_getElem? (i := 858) (by decide +kernel)⟩
theorem lw_p18 : lw_okq (⟨"BytewellModel", "isShut", "(I)Z"⟩, 10) := ⟨⟨by decide +kernel, by decide +kernel⟩, List.mem_of_getElem? (i := 714) (by decide +kernel), List.mem_of_getElem? (i := 869) (by decide +kernel), List.mem_of_getElem? (i := 870) (by decide +kernel)⟩
theorem lw_p19 : lw_okq (⟨"BytewellModel", "lays", "(IIII)I"⟩, 10) := ⟨⟨by decide +kernel, by decide +kernel⟩, List.mem_of_getElem? (i := 714) (by decide +kernel), List.mem_of_getElem? (i := 877) (by decide +kernel), List.mem_of_getElem? (i := 878) (by decide +kernel)⟩
theorem lw_p20 : lw_okq (⟨"BytewellModel", "keeps", "(II)I"⟩, 10) := ⟨⟨by decide +kernel, by decide +kernel⟩, List.mem_of_getElem? (i := 714) (by decide +kernel), List.mem_of_getElem? (i := 881) (by decide +kernel), List.mem_of_getElem? (i := 882) (by decide +kernel)⟩
theorem lw_p21 : lw_okq (⟨"BytewellModel", "lesser", "(II)I"⟩, 10) := ⟨⟨by decide +kernel, by decide +kernel⟩, List.mem_of_getElem? (i := 714) (by decide +kernel), List.mem_of_getElem? (i := 885) (by decide +kernel), List.mem_of_getElem? (i := 886) (by decide +kernel)⟩
theorem lw_p22 : lw_okq (⟨"BytewellModel", "next", "(I)I"⟩, 10) := ⟨⟨by decide +kernel, by decide +kernel⟩, List.mem_of_getElem? (i := 714) (by decide +kernel), List.mem_of_getElem? (i := 889) (by decide +kernel), List.mem_of_getElem? (i := 890) (by decide +kernel)⟩
def lw_privs_2 : List (MethodName × Nat) := [(⟨"BytewellModel", "adds", "(II)V"⟩, 10), (⟨"BytewellModel", "leftOf", "(I)I"⟩, 10), (⟨"BytewellModel", "isShut", "(I)Z"⟩, 10), (⟨"BytewellModel", "lays", "(IIII)I"⟩, 10), (⟨"BytewellModel", "keeps", "(II)I"⟩, 10), (⟨"BytewellModel", "lesser", "(II)I"⟩, 10), (⟨"BytewellModel", "next", "(I)I"⟩, 10)]
theorem lw_r2 : ∀ q ∈ lw_privs_2, lw_okq q := List.forall_mem_cons.mpr ⟨lw_p16, List.forall_mem_cons.mpr ⟨lw_p17, List.forall_mem_cons.mpr ⟨lw_p18, List.forall_mem_cons.mpr ⟨lw_p19, List.forall_mem_cons.mpr ⟨lw_p20, List.forall_mem_cons.mpr ⟨lw_p21, List.forall_mem_cons.mpr ⟨lw_p22, fun _ h => absurd h List.not_mem_nil⟩⟩⟩⟩⟩⟩⟩
def lw_privs : List (MethodName × Nat) := lw_privs_1 ++ (lw_privs_2)
def lw_tbl : List Cond := k2_sels lw_privs ++ tables_1
theorem lw_privs_ok : ∀ q ∈ lw_privs, lw_okq q := by
  show ∀ q ∈ lw_privs_1 ++ (lw_privs_2), lw_okq q
  exact List.forall_mem_append.mpr ⟨lw_r1, lw_r2⟩
/-- the streams that the claim lets the run draw from -/
abbrev lw_cs : List Choice := [Jvm.Choice.named "NaN.bits"]
theorem lw_bits : nanBits ∈ lw_cs := by first | decide | exact List.mem_cons_self | simp [lw_cs, nanBits]
end
section
/-! ===== BEGIN words of one list among another's, by their places ===== -/
theorem goodIn_r {big : List Cond} (ws : List Cond) (ps : List Nat) (hp : ws = ps.filterMap (fun i => big[i]?)) (h : ws.all goodWord = true) : GoodIn big ws := by
  intro w hw
  have h1 := List.all_eq_true.mp h w hw
  rw [hp] at hw
  obtain ⟨i, -, hi⟩ := List.mem_filterMap.mp hw
  have hm : w ∈ big := by first | exact List.mem_of_getElem? hi | exact List.getElem?_mem hi
  exact ⟨hm, good_of_word h1⟩
theorem goodIn_app {big a b : List Cond} (ha : GoodIn big a) (hb : GoodIn big b) : GoodIn big (a ++ b) := fun w h => (List.mem_append.mp h).elim (ha w) (hb w)
theorem goodIn_ca {big a b : List Cond} {c : Cond} (ha : GoodIn big (c :: a)) (hb : GoodIn big b) : GoodIn big (c :: (a ++ b)) := fun w h => (List.mem_cons.mp h).elim (fun e => ha w (List.mem_cons.mpr (Or.inl e))) (fun h => (List.mem_append.mp h).elim (fun h => ha w (List.mem_cons.mpr (Or.inr h))) (hb w))
theorem goodIn_sub {big ws : List Cond} (hm : ∀ w ∈ ws, w ∈ big) (h : ws.all goodWord = true) : GoodIn big ws := fun w hw => ⟨hm w hw, good_of_word (List.all_eq_true.mp h w hw)⟩
/-! ===== END ===== -/

/-! ===== BEGIN exceptions that leave a method, and their catching by the caller (launches without stack traces) ===== -/
section VXA
/-! The laws vx_back, vx_callV, vx_callS, vx_callSW, vx_throw0, vx_throwS follow proofs of the library, with one case more: JvmDerived/Free/Laws.lean (Back.of_free), Shelf42/LK1.lean (callV, callS), Shelf/KitTraced.lean (throwNew0V, throwNewS). -/
/-- where a method has thrown q: the class by its name, the cell, what was written, the world -/
def vx_T (XC : String → State → State → Prop) (st : State) (q : Addr) (t : State) (mc ms : Nat) (free : Addr → Prop) : Prop :=
  ∃ (E : String) (ce : Cell) (L : List Loc), XC E st t ∧ t.heap[q]? = some ce ∧ ce.vm = .none ∧ st.vm.findClass E = some ce.cls ∧ st.WarmedH t.vm ∧ st.sameButNew ({ t with vm := st.vm } : State) L mc ms ∧ ∀ z ∈ L, free z.base
def vx_Q (Qc : Array Value → State → Outcome → State → Prop) (XC : String → State → State → Prop) (mc ms : Nat) (free : Addr → Prop) : Array Value → State → Outcome → State → Prop := fun a st o t =>
  (Qc a st o t ∧ ∃ L, FrameEnd st o t L mc ms ∧ ∀ q ∈ L, free q.base) ∨ ∃ q, o = .threw q ∧ vx_T XC st q t mc ms free
/-- a callee that returns or throws -/
def vx_Met (l : Launch) (y : MethodName) (ws : List Cond) (rm : Room) (Pc : Array Value → State → Prop) (Qc : Array Value → State → Outcome → State → Prop) (XC : String → State → State → Prop) (mc ms : Nat) (free : Addr → Prop) : Prop :=
  MetFree l y (headSpec ws rm) Pc (fun _ _ _ _ _ => True) (vx_Q Qc XC mc ms free)
def vx_Post (XC : String → State → State → Prop) (mc ms : Nat) (free : Addr → Prop) : Pt → Array Value → Addr → Pt → Prop := fun A a q B =>
  ∃ (g : JFrame) (mk : MethodId) (t : State) (L : List Loc) (E : String) (ce : Cell), B.U.heap = t.heap ∧ B.U.vm = t.vm ∧ XC E (A.U.calling g mk a) t ∧ t.heap[q]? = some ce ∧ ce.vm = .none ∧ A.U.vm.findClass E = some ce.cls ∧ B.locs = A.locs ++ L ∧ (∀ z ∈ L, free z.base) ∧ B.cells = A.cells + mc ∧ B.slots = A.slots + ms
def vx_Back (l : Launch) (R : Room) (p : Program) (e : Env) (below : List Frame) (s : State) (sargs : Array Value) (y : MethodName) (len W9 : Nat)
    (Pre : Pt → Array Value → Prop) (Post : Pt → Array Value → Option Value → Pt → Prop) (PostX : Pt → Array Value → Addr → Pt → Prop) : Prop :=
  ∀ (m : MethodId) (meth : Method) (c : Code) (A : Pt) (g : JFrame) (ig : Instr) (mk : MethodId) (a : Array Value),
    Stand p l e R s m sargs below meth c A.U A.locs A.cells A.slots → g.method = m → g.locals.size = c.maxLocals → decode c.code g.pc = .ok (ig, len) →
    2 * g.monitorRoom + (g.stack.map fun v => v.category).sum ≤ W9 → A.U.methodNamed? y = some mk → Pre A a →
    (∃ (v : Option Value) (B : Pt), Stand p l e R s m sargs below meth c B.U B.locs B.cells B.slots ∧ Post A a v B ∧
      Steps p.tables e below (doInvoke e (A.U.setTop g) [] mk a).1 (B.U.setTop { g with pc := g.pc + len, stack := v.toList ++ g.stack })) ∨
    (∃ (q : Addr) (B : Pt), Stand p l e R s m sargs below meth c B.U B.locs B.cells B.slots ∧ PostX A a q B ∧
      Steps p.tables e below (doInvoke e (A.U.setTop g) [] mk a).1 ((B.U.setTop g).pushFrame (.throwing q)))
section Payer
variable {l : Launch} {R : Room} {p : Program} {e : Env} {below : List Frame} {s : State} {sargs : Array Value} {y : MethodName} {len W9 : Nat}
theorem vx_back {ws : List Cond} {rm : Room} {Pc : Array Value → State → Prop} {Qc : Array Value → State → Outcome → State → Prop} {XC : String → State → State → Prop} {mc ms : Nat} {free : Addr → Prop} {bytes : ByteArray} {maxL : Nat} {ret : Option FieldType}
    (hM : vx_Met l y ws rm Pc Qc XC mc ms free) (hblind : FrameBlind Pc) (hrc : rm.cells = mc) (hrs : rm.slots = ms)
    (hframes : rm.frames + 1 ≤ R.frames) (hlocals : W9 + (maxL + 11) + rm.locals ≤ R.locals)
    (hws : ∀ w ∈ ws, ∀ a' U, s.WarmedH U.vm → w.before a' U = true) (hcode : Cond.code y bytes maxL ret ∈ ws) (hinit : ∀ a' U, s.WarmedH U.vm → (Cond.initialized y.cls).before a' U = true) :
    vx_Back l R p e below s sargs y len W9 (PreOf R mc ms Pc) (PostOf Qc mc ms free) (vx_Post XC mc ms free) := by
  intro m meth c A g ig mk a X hg hsize hdg hW hn hp
  have h1 : (headSpec ws rm).pre.before a A.U = true := atoms_intro fun w hw => hws w hw _ _ X.warmed
  have h2 : (Cond.code y bytes maxL ret).before a A.U = true := hws _ hcode _ _ X.warmed
  have h3 : (Cond.initialized y.cls).before a A.U = true := hinit _ _ X.warmed
  have h4 : A.cells + (headSpec ws rm).room.cells ≤ R.cells := by rw [show (headSpec ws rm).room.cells = mc from hrc]; exact hp.1
  have h5 : A.slots + (headSpec ws rm).room.slots ≤ R.slots := by rw [show (headSpec ws rm).room.slots = ms from hrs]; exact hp.2.1
  have hPc : Pc a (A.U.calling g mk a) := hblind _ _ _ _ hp.2.2
  obtain ⟨U, Ls, c0, s0⟩ := A
  dsimp only [Pt.U, Pt.locs, Pt.cells, Pt.slots] at h1 h2 h3 h4 h5 X hn hPc ⊢
  obtain ⟨methY, cY, hmY, hcY, -, hlY, -, -, -, -⟩ := Cond.code_spec hn h2
  obtain ⟨kY, hkY, -⟩ := className_of_methodNamed hn
  have hinitY : kY.init = .initialized := Cond.initialized_spec (findClass_of_methodNamed hn) hkY h3
  have h : At U g.method c below := by rw [hg]; exact X.here
  have hlocals9 : W9 + (maxL + 11) + (headSpec ws rm).room.locals ≤ R.locals := hlocals
  have happ : (headSpec ws rm).appliesLoose y e.platform (U.calling g mk a) = true :=
    Spec.appliesLoose_calling (g := g) h hdg hn hkY hinitY
      (X.room_calling (g := g) (R' := (headSpec ws rm).room) hsize hmY hcY hframes (by rw [hlY]; omega) h4 h5) h1
  obtain ⟨mid, hmid⟩ := h.above
  have hfr : (U.setTop g).frames = (.java g :: mid) ++ below := by rw [State.frames_setTop' g h.top, hmid]; rfl
  obtain ⟨o, s₂, hsteps, -, hend, hq⟩ := Steps.callFree hM p X.admits X.cas X.clock (acts := []) hfr happ hPc trivial
  have hq' : vx_Q Qc XC mc ms free a (U.calling g mk a) o s₂ := hq
  rw [State.frames_setTop' g h.top] at hend
  obtain ⟨g₀, hg0⟩ := Option.isSome_iff_exists.mp h.top
  obtain ⟨r, hr⟩ := State.topJava?_eq_some.mp hg0
  have hr' : (({ U with heap := s₂.heap, slotsUsed := s₂.slotsUsed } : State).setVm s₂.vm).frames = .java g₀ :: r := hr
  rcases hq' with ⟨hqc, L, hfe, hL⟩ | ⟨q, rfl, E, ce, L, hx, hce, hcv, hcl, hW₂, hsm, hL⟩
  · obtain ⟨⟨v, rfl⟩, hW₂, e2, q2, q3, q4, q5, q6⟩ := id hfe
    have e3 : s₂ = ({ (U.calling g mk a).setFrames s₂.frames with heap := s₂.heap, slotsUsed := s₂.slotsUsed } : State).setVm s₂.vm := by
      have : s₂ = ({ s₂ with vm := (U.calling g mk a).vm } : State).setVm s₂.vm := rfl
      rw [e2] at this
      exact this
    obtain ⟨c₂, i₂, len₂, hc₂, hd₂, hf₂⟩ := hend
    have hW' : U.WarmedH s₂.vm := hW₂
    have hcc : c₂ = c := by
      have h1 : s₂.code? g.method = U.code? g.method := by
        rw [State.code?_eq, State.code?_eq, hW'.alike.method?]
      exact Option.some.inj (hc₂.symm.trans (h1.trans h.code))
    subst hcc
    have hlen : len₂ = len := by rw [hdg] at hd₂; cases hd₂; rfl
    subst hlen
    have hs₂ : s₂ = (({ U with heap := s₂.heap, slotsUsed := s₂.slotsUsed } : State).setVm s₂.vm).setTop { g with pc := g.pc + len₂, stack := v.toList ++ g.stack } := by
      refine e3.trans ?_
      rw [hf₂, State.calling_eq h.top, State.setFrames_setFrames, State.setTop_of_frames _ hr', hr]
      rfl
    have hsame : U.sameButNew ({ U with heap := s₂.heap, slotsUsed := s₂.slotsUsed } : State) L mc ms := by
      refine ⟨?_, q2, q3, q4, q5, q6⟩
      obtain ⟨t, ht, -⟩ := State.frames_cons hr
      show ({ U with heap := s₂.heap, slotsUsed := s₂.slotsUsed } : State) = { U.setFrames U.frames with heap := s₂.heap, slotsUsed := s₂.slotsUsed }
      rw [State.setFrames_self ht]
    subst hg
    refine Or.inl ⟨v, ⟨(({ U with heap := s₂.heap, slotsUsed := s₂.slotsUsed } : State).setVm s₂.vm), Ls ++ L, c0 + mc, s0 + ms⟩,
      ⟨X.admits, X.cas, X.clock, X.frames, X.room, X.hears, X.method, X.code, (X.here.setHeapUsed s₂.heap s₂.slotsUsed).setVm hW'.alike, X.tail, State.WarmedH.trans X.warmed hW', X.limits, X.bytes, X.same.trans (hsame.setVm s.vm)⟩,
      ⟨g, mk, s₂, L, rfl, rfl, hqc, rfl, hL, rfl, rfl⟩, ?_⟩
    show Steps p.tables e below _ ((({ U with heap := s₂.heap, slotsUsed := s₂.slotsUsed } : State).setVm s₂.vm).setTop { g with pc := g.pc + len₂, stack := v.toList ++ g.stack })
    rw [← hs₂]
    exact hsteps
  · obtain ⟨e2, q2, q3, q4, q5, q6⟩ := id hsm
    have e3 : s₂ = ({ (U.calling g mk a).setFrames s₂.frames with heap := s₂.heap, slotsUsed := s₂.slotsUsed } : State).setVm s₂.vm := by
      have : s₂ = ({ s₂ with vm := (U.calling g mk a).vm } : State).setVm s₂.vm := rfl
      rw [e2] at this
      exact this
    have hf₂ : s₂.frames = .throwing q :: .java g :: U.frames.tail := hend
    have hW' : U.WarmedH s₂.vm := hW₂
    have hs₂ : s₂ = ((({ U with heap := s₂.heap, slotsUsed := s₂.slotsUsed } : State).setVm s₂.vm).setTop g).pushFrame (.throwing q) := by
      refine e3.trans ?_
      rw [hf₂, State.calling_eq h.top, State.setFrames_setFrames, State.pushFrame, State.frames_setTop _ hr', State.setTop_of_frames _ hr', State.setFrames_setFrames, hr]
      rfl
    have hsame : U.sameButNew ({ U with heap := s₂.heap, slotsUsed := s₂.slotsUsed } : State) L mc ms := by
      refine ⟨?_, q2, q3, q4, q5, q6⟩
      obtain ⟨t, ht, -⟩ := State.frames_cons hr
      show ({ U with heap := s₂.heap, slotsUsed := s₂.slotsUsed } : State) = { U.setFrames U.frames with heap := s₂.heap, slotsUsed := s₂.slotsUsed }
      rw [State.setFrames_self ht]
    subst hg
    refine Or.inr ⟨q, ⟨(({ U with heap := s₂.heap, slotsUsed := s₂.slotsUsed } : State).setVm s₂.vm), Ls ++ L, c0 + mc, s0 + ms⟩,
      ⟨X.admits, X.cas, X.clock, X.frames, X.room, X.hears, X.method, X.code, (X.here.setHeapUsed s₂.heap s₂.slotsUsed).setVm hW'.alike, X.tail, State.WarmedH.trans X.warmed hW', X.limits, X.bytes, X.same.trans (hsame.setVm s.vm)⟩,
      ⟨g, mk, s₂, L, E, ce, rfl, rfl, hx, hce, hcv, hcl, rfl, hL, rfl, rfl⟩, ?_⟩
    show Steps p.tables e below _ (((({ U with heap := s₂.heap, slotsUsed := s₂.slotsUsed } : State).setVm s₂.vm).setTop g).pushFrame (.throwing q))
    rw [← hs₂]
    exact hsteps
end Payer
section Calls
variable {p : Program} {l : Launch} {e : Env} {R : Room} {s : State} {m : MethodId} {args : Array Value} {below : List Frame} {meth : Method} {c : Code} {T : State} {locs : List Loc} {cells slots : Nat}
theorem vx_callV (X : Stand p l e R s m args below meth c T locs cells slots) (hexec : p.tables.exec = Jvm.exec) {own C : String} {index : Nat} {y : MethodName} {bytes : ByteArray} {maxL : Nat} {ret : Option FieldType}
    (hown : s.vm.findClass own = some m.cls) (hlink : (Cond.methodLink own index y).before args s = true) (hinst : (Cond.instanceMethod y).before args s = true) (hsel : (Cond.selects C y y).before args s = true)
    (hcode : (Cond.code y bytes maxL ret).before args s = true) (hy : y.cls ≠ "java/lang/invoke/MethodHandle" ∧ y.cls ≠ "java/lang/invoke/VarHandle")
    {W9 : Nat} {Pre : Pt → Array Value → Prop} {Post : Pt → Array Value → Option Value → Pt → Prop} {PostX : Pt → Array Value → Addr → Pt → Prop} (hK : vx_Back l R p e below s args y 3 W9 Pre Post PostX)
    {b : Addr} {cellB : Cell} (hcell : T.heap[b]? = some cellB) (hobj : cellB.vm.isStatics = false) (hcls : s.vm.findClass C = some cellB.cls)
    {g : JFrame} (hg : g.method = m) (hsize : g.locals.size = c.maxLocals) {argsL rest : List Value} (hlen : ∀ sig, parseMethodDescriptor y.desc = some sig → argsL.length = sig.parameters.length)
    (hstack : g.stack = argsL.reverse ++ .ref b :: rest) (hW : 2 * g.monitorRoom + (rest.map fun v => v.category).sum ≤ W9) (hdg : decode c.code g.pc = .ok (.invokevirtual index, 3))
    (hpre : ∀ vm₁, s.WarmedH vm₁ → Pre ⟨T.setVm vm₁, locs, cells, slots⟩ (Value.ref b :: argsL).toArray) :
    (∃ (v : Option Value) (vm₁ : Vm) (B : Pt), s.WarmedH vm₁ ∧ Stand p l e R s m args below meth c B.U B.locs B.cells B.slots ∧ Post ⟨T.setVm vm₁, locs, cells, slots⟩ (Value.ref b :: argsL).toArray v B ∧
      ∀ target, Steps p.tables e below (B.U.setTop { g with pc := g.pc + 3, stack := v.toList ++ rest }) target → Steps p.tables e below (T.setTop g) target) ∨
    (∃ (q : Addr) (vm₁ : Vm) (B : Pt), s.WarmedH vm₁ ∧ Stand p l e R s m args below meth c B.U B.locs B.cells B.slots ∧ PostX ⟨T.setVm vm₁, locs, cells, slots⟩ (Value.ref b :: argsL).toArray q B ∧
      Steps p.tables e below (T.setTop g) ((B.U.setTop { g with stack := rest }).pushFrame (.throwing q))) := by
  obtain ⟨mk, methM, hnamed, hmethM, hstM, habM⟩ := Cond.instanceMethod_spec hinst
  obtain ⟨methM', cM, hmethM', -, -, -, -, -, -, hsigM⟩ := Cond.code_spec hnamed hcode
  cases hmethM.symm.trans hmethM'
  obtain ⟨c2, r2, m2, q1, q2, q3, q4, kP, hkP, hkPi⟩ := Cond.selects_spec hsel
  cases hcls.symm.trans q1
  cases (State.methodFound?_of_named hnamed hy).symm.trans q2
  cases hnamed.symm.trans q3
  have hselP : selectMethod e.platform s.vm cellB.cls mk = .method mk := by rw [Launch.admits_selectMethod X.admits]; exact q4
  obtain ⟨vm₁, X₁, hstep₁⟩ := X.invokevirtual hexec hown hlink hnamed hmethM hstM hkP hkPi hy (a := b) (cell := cellB) hcell
    (fun z h => by rw [h] at hobj; cases hobj) hselP hmethM habM hkP hkPi (g := g) hg (argsL := argsL) (rest := rest) (hlen _ hsigM) hstack hdg
  rcases hK m meth c ⟨T.setVm vm₁, locs, cells, slots⟩ { g with stack := rest } (.invokevirtual index) mk (Value.ref b :: argsL).toArray X₁ hg hsize hdg hW (X₁.named hnamed) (hpre vm₁ X₁.warmed) with ⟨v, B, X', hpost, hsteps⟩ | ⟨q, B, X', hpost, hsteps⟩
  · exact Or.inl ⟨v, vm₁, B, X₁.warmed, X', hpost, fun target h => hstep₁ _ fun acts => by rw [doInvoke_state]; exact hsteps.trans h⟩
  · exact Or.inr ⟨q, vm₁, B, X₁.warmed, X', hpost, hstep₁ _ fun acts => by rw [doInvoke_state]; exact hsteps⟩
theorem vx_callS (X : Stand p l e R s m args below meth c T locs cells slots) (hexec : p.tables.exec = Jvm.exec) {own : String} {index : Nat} {y : MethodName} {bytes : ByteArray} {maxL : Nat} {ret : Option FieldType}
    (hown : s.vm.findClass own = some m.cls) (hlink : (Cond.methodLink own index y).before args s = true) (hstat : (Cond.static y).before args s = true) (hinit : (Cond.initialized y.cls).before args s = true)
    (hcode : (Cond.code y bytes maxL ret).before args s = true) (hy : y.cls ≠ "java/lang/invoke/MethodHandle" ∧ y.cls ≠ "java/lang/invoke/VarHandle")
    {W9 : Nat} {Pre : Pt → Array Value → Prop} {Post : Pt → Array Value → Option Value → Pt → Prop} {PostX : Pt → Array Value → Addr → Pt → Prop} (hK : vx_Back l R p e below s args y 3 W9 Pre Post PostX)
    {g : JFrame} (hg : g.method = m) (hsize : g.locals.size = c.maxLocals) {argsL rest : List Value} (hlen : ∀ sig, parseMethodDescriptor y.desc = some sig → argsL.length = sig.parameters.length)
    (hstack : g.stack = argsL.reverse ++ rest) (hW : 2 * g.monitorRoom + (rest.map fun v => v.category).sum ≤ W9) (hdg : decode c.code g.pc = .ok (.invokestatic index, 3))
    (hpre : ∀ vm₁, s.WarmedH vm₁ → Pre ⟨T.setVm vm₁, locs, cells, slots⟩ argsL.toArray) :
    (∃ (v : Option Value) (vm₁ : Vm) (B : Pt), s.WarmedH vm₁ ∧ Stand p l e R s m args below meth c B.U B.locs B.cells B.slots ∧ Post ⟨T.setVm vm₁, locs, cells, slots⟩ argsL.toArray v B ∧
      ∀ target, Steps p.tables e below (B.U.setTop { g with pc := g.pc + 3, stack := v.toList ++ rest }) target → Steps p.tables e below (T.setTop g) target) ∨
    (∃ (q : Addr) (vm₁ : Vm) (B : Pt), s.WarmedH vm₁ ∧ Stand p l e R s m args below meth c B.U B.locs B.cells B.slots ∧ PostX ⟨T.setVm vm₁, locs, cells, slots⟩ argsL.toArray q B ∧
      Steps p.tables e below (T.setTop g) ((B.U.setTop { g with stack := rest }).pushFrame (.throwing q))) := by
  obtain ⟨mk, hnamed⟩ := Cond.code_named hcode
  obtain ⟨methM, cM, hmethM, -, -, -, -, -, -, hsigM⟩ := Cond.code_spec hnamed hcode
  have hstatic : methM.isStatic = true := Cond.static_spec hnamed hmethM hstat
  obtain ⟨kP, hkP, -⟩ := className_of_methodNamed hnamed
  have hinitP : kP.init = .initialized := Cond.initialized_spec (findClass_of_methodNamed hnamed) hkP hinit
  obtain ⟨vm₁, X₁, hstep₁⟩ := X.invokestatic hexec hown hlink hnamed hmethM hstatic hkP hinitP hy (g := g) hg (argsL := argsL) (rest := rest) (hlen _ hsigM) hstack hdg
  rcases hK m meth c ⟨T.setVm vm₁, locs, cells, slots⟩ { g with stack := rest } (.invokestatic index) mk argsL.toArray X₁ hg hsize hdg hW (X₁.named hnamed) (hpre vm₁ X₁.warmed) with ⟨v, B, X', hpost, hsteps⟩ | ⟨q, B, X', hpost, hsteps⟩
  · exact Or.inl ⟨v, vm₁, B, X₁.warmed, X', hpost, fun target h => hstep₁ _ fun acts => by rw [doInvoke_state]; exact hsteps.trans h⟩
  · exact Or.inr ⟨q, vm₁, B, X₁.warmed, X', hpost, hstep₁ _ fun acts => by rw [doInvoke_state]; exact hsteps⟩
end Calls
theorem vx_cls {s : State} {T : State} {vm₁ : Vm} {E : String} {k : ClassId} (hW : s.WarmedH vm₁) (h : (T.setVm vm₁).vm.findClass E = some k) : s.vm.findClass E = some k := by
  have h1 : vm₁.findClass E = some k := h
  rw [hW.alike.findClass] at h1
  exact h1
/-- the method's frame g, with q thrown over it -/
def vx_W (p : Program) (l : Launch) (e : Env) (R : Room) (s : State) (m : MethodId) (args : Array Value) (below : List Frame) (meth : Method) (c : Code) (H : Heap) (locs : List Loc) (cells slots : Nat) (Q : State → Prop) (g : JFrame) (q : Addr) : Prop :=
  ∀ T : State, T.heap = H → Stand p l e R s m args below meth c T locs cells slots → ∃ t, Steps p.tables e below ((T.setTop g).pushFrame (.throwing q)) t ∧ Q t
def vx_Run (p : Program) (l : Launch) (e : Env) (R : Room) (s : State) (m : MethodId) (args : Array Value) (below : List Frame) (meth : Method) (c : Code) (H : Heap) (locs : List Loc) (cells slots mc ms : Nat) (g : JFrame) (rest : List Value) (Qa : State → Outcome → State → Prop) (XC : String → State → State → Prop) (free : Addr → Prop) : Prop :=
  ∀ T : State, T.heap = H → Stand p l e R s m args below meth c T locs cells slots →
    (∃ (v : Option Value) (st₀ t T' : State) (L : List Loc), st₀.heap = H ∧ Stand p l e R s m args below meth c T' (locs ++ L) (cells + mc) (slots + ms) ∧ (∀ q ∈ L, free q.base) ∧ T'.heap = t.heap ∧ T'.vm = t.vm ∧ Qa st₀ (.returned v) t ∧
      Goes p e below T g T' { g with pc := g.pc + 3, stack := v.toList ++ rest }) ∨
    (∃ (q : Addr) (st₀ t T' : State) (L : List Loc) (E : String) (ce : Cell), st₀.heap = H ∧ Stand p l e R s m args below meth c T' (locs ++ L) (cells + mc) (slots + ms) ∧ (∀ z ∈ L, free z.base) ∧ T'.heap = t.heap ∧ T'.vm = t.vm ∧ XC E st₀ t ∧ t.heap[q]? = some ce ∧ ce.vm = .none ∧ s.vm.findClass E = some ce.cls ∧
      Steps p.tables e below (T.setTop g) ((T'.setTop { g with stack := rest }).pushFrame (.throwing q)))
def vx_X {S : Type} (px : S → Prop) (B : String → S → State → Prop) (A : Nat → Prop) : String → State → State → Prop := fun E st t => ∃ u : S, px u ∧ B E u t ∧ va_F A st t
section Runs
variable {p : Program} {l : Launch} {e : Env} {R : Room} {s : State} {m : MethodId} {args : Array Value} {below : List Frame} {meth : Method} {c : Code} {H : Heap} {locs : List Loc} {cells slots : Nat}
variable {y : MethodName} {bytes cc : ByteArray} {maxL nL mc ms n index : Nat} {ret : Option FieldType} {ws : List Cond} {rm : Room} {Pc : Array Value → State → Prop} {Qc : Array Value → State → Outcome → State → Prop} {XC : String → State → State → Prop} {free : Addr → Prop} {Ts : List Cond} {own C : String} {b : Addr} {As rest : List Value} {g : JFrame}
theorem vx_callBack (cb : CallB R s args own index y bytes maxL ret ws rm mc ms n) (hM : vx_Met l y ws rm Pc Qc XC mc ms free) (hbl : FrameBlind Pc) : vx_Back l R p e below s args y 3 8 (PreOf R mc ms Pc) (PostOf Qc mc ms free) (vx_Post XC mc ms free) := by
  obtain ⟨hrc, hrs, hfr, hlo, hws, hcw, -, hini, -⟩ := cb
  exact vx_back (bytes := bytes) (maxL := maxL) (ret := ret) hM hbl hrc hrs hfr hlo hws hcw (fun a' U hW => word_at hW (Or.inl (by first | rfl | simp [Cond.onTables, Cond.keeps, Cond.steady])) hini)
theorem vx_runV (S : CallFix p m c cc nL s args Ts own) (hM : vx_Met l y ws rm Pc Qc XC mc ms free) (cw : CallW R s args own C index y bytes maxL ret ws rm mc ms n) (hp : PreV s H C b Pc As)
    (hg : g.method = m) (hn : As.length = n) (hsize : g.locals.size = nL) (hstack : g.stack = As.reverse ++ .ref b :: rest) (hW : 2 * g.monitorRoom + (rest.map fun v => v.category).sum ≤ 8) (hdg : decode cc g.pc = .ok (.invokevirtual index, 3)) (hf : cells + mc ≤ R.cells ∧ slots + ms ≤ R.slots) :
    vx_Run p l e R s m args below meth c H locs cells slots mc ms g rest (Qc (Value.ref b :: As).toArray) XC free := by
  have hK : vx_Back l R p e below s args y 3 8 (PreOf R mc ms Pc) (PostOf Qc mc ms free) (vx_Post XC mc ms free) := vx_callBack cw.1 hM hp.1
  obtain ⟨⟨-, -, -, -, -, -, hcode, -, hy, hlen, hl⟩, hin, hse⟩ := cw
  obtain ⟨hx, hb, hml, ho, -⟩ := S
  obtain ⟨-, ⟨cellB, hcB, hoB, hclB⟩, hPc⟩ := hp
  intro T hT X
  rcases vx_callV X hx (C := C) (bytes := bytes) (maxL := maxL) (ret := ret) ho hl hin hse hcode hy hK (by rw [hT]; exact hcB) hoB hclB hg (hsize.trans hml.symm) (argsL := As) (rest := rest) (fun sig h => hn.trans (hlen sig h)) hstack hW (by rw [hb]; exact hdg)
    (fun vm₁ hW₁ => ⟨hf.1, hf.2, hPc (T.setVm vm₁) hT hW₁⟩) with ⟨v, vm₁, ⟨U', l2, c2, s2⟩, hW₁, X', ⟨g', mk, t, L, e1, e2, hq, h1, hL, h2, h3⟩, st⟩ | ⟨q, vm₁, ⟨U', l2, c2, s2⟩, hW₁, X', ⟨g', mk, t, L, E, ce, e1, e2, hq, hce, hcv, hcl, h1, hL, h2, h3⟩, st⟩
  · dsimp only [Pt.U, Pt.locs, Pt.cells, Pt.slots] at X' e1 e2 h1 h2 h3 st
    subst h1; subst h2; subst h3
    exact Or.inl ⟨v, (T.setVm vm₁).calling g' mk (Value.ref b :: As).toArray, t, U', L, hT, X', hL, e1, e2, hq, st⟩
  · dsimp only [Pt.U, Pt.locs, Pt.cells, Pt.slots] at X' e1 e2 h1 h2 h3 st hcl
    subst h1; subst h2; subst h3
    exact Or.inr ⟨q, (T.setVm vm₁).calling g' mk (Value.ref b :: As).toArray, t, U', L, E, ce, hT, X', hL, e1, e2, hq, hce, hcv, vx_cls hW₁ hcl, st⟩
theorem vx_runS (S : CallFix p m c cc nL s args Ts own) (hM : vx_Met l y ws rm Pc Qc XC mc ms free) (cw : CallB R s args own index y bytes maxL ret ws rm mc ms n ∧ (Cond.static y).before args s = true) (hp : PreS s H Pc As)
    (hg : g.method = m) (hn : As.length = n) (hsize : g.locals.size = nL) (hstack : g.stack = As.reverse ++ rest) (hW : 2 * g.monitorRoom + (rest.map fun v => v.category).sum ≤ 8) (hdg : decode cc g.pc = .ok (.invokestatic index, 3)) (hf : cells + mc ≤ R.cells ∧ slots + ms ≤ R.slots) :
    vx_Run p l e R s m args below meth c H locs cells slots mc ms g rest (Qc As.toArray) XC free := by
  have hK : vx_Back l R p e below s args y 3 8 (PreOf R mc ms Pc) (PostOf Qc mc ms free) (vx_Post XC mc ms free) := vx_callBack cw.1 hM hp.1
  obtain ⟨⟨-, -, -, -, -, -, hcode, hini, hy, hlen, hl⟩, hstt⟩ := cw
  obtain ⟨hx, hb, hml, ho, -⟩ := S
  intro T hT X
  rcases vx_callS X hx (bytes := bytes) (maxL := maxL) (ret := ret) ho hl hstt hini hcode hy hK hg (hsize.trans hml.symm) (argsL := As) (rest := rest) (fun sig h => hn.trans (hlen sig h)) hstack hW (by rw [hb]; exact hdg)
    (fun vm₁ hW₁ => ⟨hf.1, hf.2, hp.2 (T.setVm vm₁) hT hW₁⟩) with ⟨v, vm₁, ⟨U', l2, c2, s2⟩, hW₁, X', ⟨g', mk, t, L, e1, e2, hq, h1, hL, h2, h3⟩, st⟩ | ⟨q, vm₁, ⟨U', l2, c2, s2⟩, hW₁, X', ⟨g', mk, t, L, E, ce, e1, e2, hq, hce, hcv, hcl, h1, hL, h2, h3⟩, st⟩
  · dsimp only [Pt.U, Pt.locs, Pt.cells, Pt.slots] at X' e1 e2 h1 h2 h3 st
    subst h1; subst h2; subst h3
    exact Or.inl ⟨v, (T.setVm vm₁).calling g' mk As.toArray, t, U', L, hT, X', hL, e1, e2, hq, st⟩
  · dsimp only [Pt.U, Pt.locs, Pt.cells, Pt.slots] at X' e1 e2 h1 h2 h3 st hcl
    subst h1; subst h2; subst h3
    exact Or.inr ⟨q, (T.setVm vm₁).calling g' mk As.toArray, t, U', L, E, ce, hT, X', hL, e1, e2, hq, hce, hcv, vx_cls hW₁ hcl, st⟩
end Runs
section Rows
variable {p : Program} {l : Launch} {e : Env} {R : Room} {s : State} {m : MethodId} {args : Array Value} {below : List Frame} {meth : Method} {c : Code} {H : Heap} {locs : List Loc} {cells slots : Nat} {Q : State → Prop}
variable {mc ms : Nat} {free : Addr → Prop} {A0 A1 : Nat → Prop} {H0 : Heap} {a : Array Value} {pc : Nat} {ls : Array Slot} {st0 rest : List Value}
theorem vx_keep {st₀ t T' : State} {L : List Loc} (h0 : st₀.heap = H) (e1 : T'.heap = t.heap) (hS : va_S A0 H0 H locs) (hA : ∀ q, q < H.size → A1 q → A0 q) (hf : ∀ q, free q → A0 q) (hL : ∀ q ∈ L, free q.base) (hF : va_F A1 st₀ t) :
    H.size ≤ T'.heap.size ∧ (∀ q : Nat, q < H.size → ¬ A1 q → T'.heap[q]? = H[q]?) ∧ va_S A0 H0 T'.heap (locs ++ L) := by
  obtain ⟨hz, hk⟩ := hF
  rw [h0] at hz hk
  exact ⟨by rw [e1]; exact hz, fun q h1 h2 => by rw [e1]; exact hk q h1 h2,
    ⟨Nat.le_trans hS.1 (by rw [e1]; exact hz), fun q h1 h2 => by rw [e1, hk q (Nat.lt_of_lt_of_le h1 hS.1) (fun z => h2 (hA q (Nat.lt_of_lt_of_le h1 hS.1) z))]; exact hS.2.1 q h1 h2, fun q hq => by
      rcases List.mem_append.mp hq with h | h
      · exact hS.2.2 q h
      · exact hf _ (hL q h)⟩⟩
theorem vx_calli {S SX : Type} {post : Int32 → S → Prop} {px : SX → Prop} {B : S → State → Prop} {BX : String → SX → State → Prop} {AX : Nat → Prop} (hr : vx_Run p l e R s m args below meth c H locs cells slots mc ms (F0 m pc ls st0) rest (va_Qi post B A1 a) (vx_X px BX AX) free) (hS : va_S A0 H0 H locs) (hA : ∀ q, q < H.size → A1 q → A0 q) (hf : ∀ q, free q → A0 q) (hAX : ∀ q, q < H.size → AX q → A0 q)
    (kx : ∀ (E : String) (ce : Cell) (q9 : Addr) (u : SX) (t : State) (H1 : Heap) (locs1 : List Loc), t.heap = H1 → s.vm.Alike t.vm → px u → BX E u t → H.size ≤ H1.size → (∀ q : Nat, q < H.size → ¬ AX q → H1[q]? = H[q]?) → va_S A0 H0 H1 locs1 → H1[q9]? = some ce → ce.vm = .none → s.vm.findClass E = some ce.cls → vx_W p l e R s m args below meth c H1 locs1 (cells + mc) (slots + ms) Q (F0 m pc ls rest) q9)
    (kk : ∀ (r : Int32) (u : S) (t : State) (H1 : Heap) (locs1 : List Loc), t.heap = H1 → s.vm.Alike t.vm → post r u → B u t → H.size ≤ H1.size → (∀ q : Nat, q < H.size → ¬ A1 q → H1[q]? = H[q]?) → va_S A0 H0 H1 locs1 → W p l e R s m args below meth c H1 locs1 (cells + mc) (slots + ms) Q (F0 m (pc + 3) ls (.int r :: rest))) : W p l e R s m args below meth c H locs cells slots Q (F0 m pc ls st0) := by
  intro T hT X
  rcases hr T hT X with ⟨v, st₀, t, T', L, h0, X', hL, e1, e2, ⟨⟨r, u, hv, hp, hb⟩, hF⟩, st⟩ | ⟨q, st₀, t, T', L, E, ce, h0, X', hL, e1, e2, ⟨u, hp, hb, hF⟩, hce, hcv, hcl, st⟩
  · cases hv
    obtain ⟨k1, k2, k3⟩ := vx_keep h0 e1 hS hA hf hL hF
    obtain ⟨t2, a1, b1⟩ := kk r u t T'.heap (locs ++ L) e1.symm (by rw [← e2]; exact X'.warmed.alike) hp hb k1 k2 k3 T' rfl X'
    exact ⟨t2, st t2 a1, b1⟩
  · obtain ⟨k1, k2, k3⟩ := vx_keep h0 e1 hS hAX hf hL hF
    obtain ⟨t2, a1, b1⟩ := kx E ce q u t T'.heap (locs ++ L) e1.symm (by rw [← e2]; exact X'.warmed.alike) hp hb k1 k2 k3 (by rw [e1]; exact hce) hcv hcl T' rfl X'
    exact ⟨t2, st.trans a1, b1⟩
theorem vx_calll {S SX : Type} {post : Int64 → S → Prop} {px : SX → Prop} {B : S → State → Prop} {BX : String → SX → State → Prop} {AX : Nat → Prop} (hr : vx_Run p l e R s m args below meth c H locs cells slots mc ms (F0 m pc ls st0) rest (va_Ql post B A1 a) (vx_X px BX AX) free) (hS : va_S A0 H0 H locs) (hA : ∀ q, q < H.size → A1 q → A0 q) (hf : ∀ q, free q → A0 q) (hAX : ∀ q, q < H.size → AX q → A0 q)
    (kx : ∀ (E : String) (ce : Cell) (q9 : Addr) (u : SX) (t : State) (H1 : Heap) (locs1 : List Loc), t.heap = H1 → s.vm.Alike t.vm → px u → BX E u t → H.size ≤ H1.size → (∀ q : Nat, q < H.size → ¬ AX q → H1[q]? = H[q]?) → va_S A0 H0 H1 locs1 → H1[q9]? = some ce → ce.vm = .none → s.vm.findClass E = some ce.cls → vx_W p l e R s m args below meth c H1 locs1 (cells + mc) (slots + ms) Q (F0 m pc ls rest) q9)
    (kk : ∀ (r : Int64) (u : S) (t : State) (H1 : Heap) (locs1 : List Loc), t.heap = H1 → s.vm.Alike t.vm → post r u → B u t → H.size ≤ H1.size → (∀ q : Nat, q < H.size → ¬ A1 q → H1[q]? = H[q]?) → va_S A0 H0 H1 locs1 → W p l e R s m args below meth c H1 locs1 (cells + mc) (slots + ms) Q (F0 m (pc + 3) ls (.long r :: rest))) : W p l e R s m args below meth c H locs cells slots Q (F0 m pc ls st0) := by
  intro T hT X
  rcases hr T hT X with ⟨v, st₀, t, T', L, h0, X', hL, e1, e2, ⟨⟨r, u, hv, hp, hb⟩, hF⟩, st⟩ | ⟨q, st₀, t, T', L, E, ce, h0, X', hL, e1, e2, ⟨u, hp, hb, hF⟩, hce, hcv, hcl, st⟩
  · cases hv
    obtain ⟨k1, k2, k3⟩ := vx_keep h0 e1 hS hA hf hL hF
    obtain ⟨t2, a1, b1⟩ := kk r u t T'.heap (locs ++ L) e1.symm (by rw [← e2]; exact X'.warmed.alike) hp hb k1 k2 k3 T' rfl X'
    exact ⟨t2, st t2 a1, b1⟩
  · obtain ⟨k1, k2, k3⟩ := vx_keep h0 e1 hS hAX hf hL hF
    obtain ⟨t2, a1, b1⟩ := kx E ce q u t T'.heap (locs ++ L) e1.symm (by rw [← e2]; exact X'.warmed.alike) hp hb k1 k2 k3 (by rw [e1]; exact hce) hcv hcl T' rfl X'
    exact ⟨t2, st.trans a1, b1⟩
theorem vx_callf {S SX : Type} {post : UInt32 → S → Prop} {px : SX → Prop} {B : S → State → Prop} {BX : String → SX → State → Prop} {AX : Nat → Prop} (hr : vx_Run p l e R s m args below meth c H locs cells slots mc ms (F0 m pc ls st0) rest (va_Qf post B A1 a) (vx_X px BX AX) free) (hS : va_S A0 H0 H locs) (hA : ∀ q, q < H.size → A1 q → A0 q) (hf : ∀ q, free q → A0 q) (hAX : ∀ q, q < H.size → AX q → A0 q)
    (kx : ∀ (E : String) (ce : Cell) (q9 : Addr) (u : SX) (t : State) (H1 : Heap) (locs1 : List Loc), t.heap = H1 → s.vm.Alike t.vm → px u → BX E u t → H.size ≤ H1.size → (∀ q : Nat, q < H.size → ¬ AX q → H1[q]? = H[q]?) → va_S A0 H0 H1 locs1 → H1[q9]? = some ce → ce.vm = .none → s.vm.findClass E = some ce.cls → vx_W p l e R s m args below meth c H1 locs1 (cells + mc) (slots + ms) Q (F0 m pc ls rest) q9)
    (kk : ∀ (r : UInt32) (u : S) (t : State) (H1 : Heap) (locs1 : List Loc), t.heap = H1 → s.vm.Alike t.vm → post r u → B u t → H.size ≤ H1.size → (∀ q : Nat, q < H.size → ¬ A1 q → H1[q]? = H[q]?) → va_S A0 H0 H1 locs1 → W p l e R s m args below meth c H1 locs1 (cells + mc) (slots + ms) Q (F0 m (pc + 3) ls (.float r :: rest))) : W p l e R s m args below meth c H locs cells slots Q (F0 m pc ls st0) := by
  intro T hT X
  rcases hr T hT X with ⟨v, st₀, t, T', L, h0, X', hL, e1, e2, ⟨⟨r, u, hv, hp, hb⟩, hF⟩, st⟩ | ⟨q, st₀, t, T', L, E, ce, h0, X', hL, e1, e2, ⟨u, hp, hb, hF⟩, hce, hcv, hcl, st⟩
  · cases hv
    obtain ⟨k1, k2, k3⟩ := vx_keep h0 e1 hS hA hf hL hF
    obtain ⟨t2, a1, b1⟩ := kk r u t T'.heap (locs ++ L) e1.symm (by rw [← e2]; exact X'.warmed.alike) hp hb k1 k2 k3 T' rfl X'
    exact ⟨t2, st t2 a1, b1⟩
  · obtain ⟨k1, k2, k3⟩ := vx_keep h0 e1 hS hAX hf hL hF
    obtain ⟨t2, a1, b1⟩ := kx E ce q u t T'.heap (locs ++ L) e1.symm (by rw [← e2]; exact X'.warmed.alike) hp hb k1 k2 k3 (by rw [e1]; exact hce) hcv hcl T' rfl X'
    exact ⟨t2, st.trans a1, b1⟩
theorem vx_calld {S SX : Type} {post : UInt64 → S → Prop} {px : SX → Prop} {B : S → State → Prop} {BX : String → SX → State → Prop} {AX : Nat → Prop} (hr : vx_Run p l e R s m args below meth c H locs cells slots mc ms (F0 m pc ls st0) rest (va_Qd post B A1 a) (vx_X px BX AX) free) (hS : va_S A0 H0 H locs) (hA : ∀ q, q < H.size → A1 q → A0 q) (hf : ∀ q, free q → A0 q) (hAX : ∀ q, q < H.size → AX q → A0 q)
    (kx : ∀ (E : String) (ce : Cell) (q9 : Addr) (u : SX) (t : State) (H1 : Heap) (locs1 : List Loc), t.heap = H1 → s.vm.Alike t.vm → px u → BX E u t → H.size ≤ H1.size → (∀ q : Nat, q < H.size → ¬ AX q → H1[q]? = H[q]?) → va_S A0 H0 H1 locs1 → H1[q9]? = some ce → ce.vm = .none → s.vm.findClass E = some ce.cls → vx_W p l e R s m args below meth c H1 locs1 (cells + mc) (slots + ms) Q (F0 m pc ls rest) q9)
    (kk : ∀ (r : UInt64) (u : S) (t : State) (H1 : Heap) (locs1 : List Loc), t.heap = H1 → s.vm.Alike t.vm → post r u → B u t → H.size ≤ H1.size → (∀ q : Nat, q < H.size → ¬ A1 q → H1[q]? = H[q]?) → va_S A0 H0 H1 locs1 → W p l e R s m args below meth c H1 locs1 (cells + mc) (slots + ms) Q (F0 m (pc + 3) ls (.double r :: rest))) : W p l e R s m args below meth c H locs cells slots Q (F0 m pc ls st0) := by
  intro T hT X
  rcases hr T hT X with ⟨v, st₀, t, T', L, h0, X', hL, e1, e2, ⟨⟨r, u, hv, hp, hb⟩, hF⟩, st⟩ | ⟨q, st₀, t, T', L, E, ce, h0, X', hL, e1, e2, ⟨u, hp, hb, hF⟩, hce, hcv, hcl, st⟩
  · cases hv
    obtain ⟨k1, k2, k3⟩ := vx_keep h0 e1 hS hA hf hL hF
    obtain ⟨t2, a1, b1⟩ := kk r u t T'.heap (locs ++ L) e1.symm (by rw [← e2]; exact X'.warmed.alike) hp hb k1 k2 k3 T' rfl X'
    exact ⟨t2, st t2 a1, b1⟩
  · obtain ⟨k1, k2, k3⟩ := vx_keep h0 e1 hS hAX hf hL hF
    obtain ⟨t2, a1, b1⟩ := kx E ce q u t T'.heap (locs ++ L) e1.symm (by rw [← e2]; exact X'.warmed.alike) hp hb k1 k2 k3 (by rw [e1]; exact hce) hcv hcl T' rfl X'
    exact ⟨t2, st.trans a1, b1⟩
theorem vx_callv {S SX : Type} {post : S → Prop} {px : SX → Prop} {B : S → State → Prop} {BX : String → SX → State → Prop} {AX : Nat → Prop} (hr : vx_Run p l e R s m args below meth c H locs cells slots mc ms (F0 m pc ls st0) rest (va_Qv post B A1 a) (vx_X px BX AX) free) (hS : va_S A0 H0 H locs) (hA : ∀ q, q < H.size → A1 q → A0 q) (hf : ∀ q, free q → A0 q) (hAX : ∀ q, q < H.size → AX q → A0 q)
    (kx : ∀ (E : String) (ce : Cell) (q9 : Addr) (u : SX) (t : State) (H1 : Heap) (locs1 : List Loc), t.heap = H1 → s.vm.Alike t.vm → px u → BX E u t → H.size ≤ H1.size → (∀ q : Nat, q < H.size → ¬ AX q → H1[q]? = H[q]?) → va_S A0 H0 H1 locs1 → H1[q9]? = some ce → ce.vm = .none → s.vm.findClass E = some ce.cls → vx_W p l e R s m args below meth c H1 locs1 (cells + mc) (slots + ms) Q (F0 m pc ls rest) q9)
    (kk : ∀ (u : S) (t : State) (H1 : Heap) (locs1 : List Loc), t.heap = H1 → s.vm.Alike t.vm → post u → B u t → H.size ≤ H1.size → (∀ q : Nat, q < H.size → ¬ A1 q → H1[q]? = H[q]?) → va_S A0 H0 H1 locs1 → W p l e R s m args below meth c H1 locs1 (cells + mc) (slots + ms) Q (F0 m (pc + 3) ls (rest))) : W p l e R s m args below meth c H locs cells slots Q (F0 m pc ls st0) := by
  intro T hT X
  rcases hr T hT X with ⟨v, st₀, t, T', L, h0, X', hL, e1, e2, ⟨⟨u, hv, hp, hb⟩, hF⟩, st⟩ | ⟨q, st₀, t, T', L, E, ce, h0, X', hL, e1, e2, ⟨u, hp, hb, hF⟩, hce, hcv, hcl, st⟩
  · cases hv
    obtain ⟨k1, k2, k3⟩ := vx_keep h0 e1 hS hA hf hL hF
    obtain ⟨t2, a1, b1⟩ := kk u t T'.heap (locs ++ L) e1.symm (by rw [← e2]; exact X'.warmed.alike) hp hb k1 k2 k3 T' rfl X'
    exact ⟨t2, st t2 a1, b1⟩
  · obtain ⟨k1, k2, k3⟩ := vx_keep h0 e1 hS hAX hf hL hF
    obtain ⟨t2, a1, b1⟩ := kx E ce q u t T'.heap (locs ++ L) e1.symm (by rw [← e2]; exact X'.warmed.alike) hp hb k1 k2 k3 (by rw [e1]; exact hce) hcv hcl T' rfl X'
    exact ⟨t2, st.trans a1, b1⟩
/-- caught by the row x of this method's table; the rows ahead don't take it -/
theorem vx_catch {own name : String} {E : String} {ce : Cell} {q : Addr} (hown : s.vm.findClass own = some m.cls) (pre : List ExceptionTableEntry) (x : ExceptionTableEntry) (suf : List ExceptionTableEntry) (hsplit : c.exceptionTable.toList = pre ++ x :: suf)
    (hpass : ∀ z ∈ pre, covers z pc = false ∨ (z.catchType ≠ 0 ∧ ∃ nm : String, (Cond.classLink own z.catchType nm).before args s = true ∧ va_Nc E nm s)) (hx : covers x pc = true) (h0 : x.catchType ≠ 0)
    (hlink : (Cond.classLink own x.catchType name).before args s = true) (hcast : (Cond.castable E name).before args s = true) (hcell : H[q]? = some ce) (hv : ce.vm = .none) (hcl : s.vm.findClass E = some ce.cls)
    (kk : W p l e R s m args below meth c H locs cells slots Q (F0 m x.handlerPc ls [.ref q])) : vx_W p l e R s m args below meth c H locs cells slots Q (F0 m pc ls rest) q := by
  intro T hT X
  have hpl : e.platform.magicAccessors = ({} : Platform).magicAccessors := by rw [X.admits.platform]
  obtain ⟨c3, c4, hc3, hc4, hasg⟩ := Cond.castable_spec hcast
  cases Option.some.inj (hc3.symm.trans hcl)
  obtain ⟨c5, hc5, hcl5⟩ := Cond.classLink_spec hown hlink e.platform hpl
  cases Option.some.inj (hc4.symm.trans hc5)
  obtain ⟨vm', X', st⟩ := X.thenCaughtThrough q (g := F0 m pc ls rest) rfl (Steps.refl _) (by rw [hT]; exact hcell) (by rw [hv]; rfl) (by obtain ⟨k9, h9, -⟩ := Vm.findClass_spec hcl; exact ⟨k9, h9⟩) pre x suf hsplit
    (fun z hz => by
      rcases hpass z hz with h | ⟨hz0, nm, hl1, hn1⟩
      · exact Or.inl h
      · obtain ⟨c6, hc6, hcl6⟩ := Cond.classLink_spec hown hl1 e.platform hpl
        obtain ⟨a8, b8, h1, h2, h3⟩ := hn1
        cases Option.some.inj (h1.symm.trans hcl)
        cases Option.some.inj (h2.symm.trans hc6)
        exact Or.inr ⟨hz0, _, hcl6, h3⟩) hx (Or.inr ⟨h0, c4, hcl5, hasg⟩)
  obtain ⟨t, a1, b1⟩ := kk (T.setVm vm') hT X'
  exact ⟨t, st.trans a1, b1⟩
end Rows
section Ends
variable {p : Program} {l : Launch} {e : Env} {R : Room} {s : State} {m : MethodId} {args : Array Value} {below : List Frame} {meth : Method} {c : Code} {H : Heap} {locs : List Loc} {cells slots : Nat} {Q : State → Prop}
variable {mc ms : Nat} {free : Addr → Prop} {A0 A1 : Nat → Prop} {H0 : Heap} {a : Array Value} {ls : Array Slot} {st0 rest : List Value}
variable {Qc : Array Value → State → Outcome → State → Prop} {XC : String → State → State → Prop}
/-- what a body that may throw owes at its end -/
def vx_MQ (below : List Frame) (Qc : Array Value → State → Outcome → State → Prop) (XC : String → State → State → Prop) (a : Array Value) (s : State) (mc ms : Nat) (free : Addr → Prop) : State → Prop := fun t =>
  ∃ o, t.status = .running ∧ Ended t below o ∧ vx_Q Qc XC mc ms free a s o t
theorem vx_ret {g : JFrame} {mc ms : Nat} (k : W p l e R s m args below meth c H locs cells slots (MQ below Qc args s mc ms free) g) : W p l e R s m args below meth c H locs cells slots (vx_MQ below Qc XC args s mc ms free) g := by
  intro T hT X
  obtain ⟨t, a1, o, b1, b2, b3, b4⟩ := k T hT X
  exact ⟨t, a1, o, b1, b2, Or.inl ⟨b3, b4⟩⟩
/-- not caught here: it goes on to the caller -/
theorem vx_widen {g : JFrame} {q : Addr} {k n : Nat} (h1 : cells ≤ k) (h2 : slots ≤ n) (kk : vx_W p l e R s m args below meth c H locs k n Q g q) : vx_W p l e R s m args below meth c H locs cells slots Q g q := fun T hT X => kk T hT (stand_widen X h1 h2)
theorem vx_out {pc : Nat} {E : String} {ce : Cell} {q : Addr} {mc ms : Nat} (hout : ∀ x ∈ c.exceptionTable.toList, covers x pc = false) (hlocks : meth.locks = false) (hcell : H[q]? = some ce) (hv : ce.vm = .none) (hcl : s.vm.findClass E = some ce.cls)
    (hx : ∀ t : State, t.heap = H → s.vm.Alike t.vm → XC E s t) (hf : ∀ z ∈ locs, free z.base) (hc : cells ≤ mc) (hs : slots ≤ ms) :
    vx_W p l e R s m args below meth c H locs cells slots (vx_MQ below Qc XC args s mc ms free) (F0 m pc ls rest) q := by
  intro T hT X
  obtain ⟨st1, hrun, hend, hW, hsm⟩ := X.leaveThrown q (g := F0 m pc ls rest) rfl rfl rfl hout hlocks
  have hcell9 : (T.setFrames (.throwing q :: below)).heap[q]? = some ce := by
    show T.heap[q]? = some ce
    rw [hT]; exact hcell
  exact ⟨_, st1, .threw q, hrun, hend, Or.inr ⟨q, rfl, E, ce, locs, hx _ hT hW.alike, hcell9, hv, hcl, hW, hsm.mono hc hs, hf⟩⟩
theorem vx_frame {U : State} {k n : Nat} (h : s.sameButNew ({ U with vm := s.vm } : State) locs k n) : s.heap.size ≤ U.heap.size ∧ ∀ q : Nat, q < s.heap.size → (∀ z ∈ locs, z.base ≠ q) → U.heap[q]? = s.heap[q]? := by
  obtain ⟨-, h2, -, -, -, h6⟩ := h
  refine ⟨h2, fun q hq hz => ?_⟩
  obtain ⟨c9, e1, e2, e3, e4⟩ := h6 q _ (Array.getElem?_eq_getElem hq)
  have hs : c9.slots = (s.heap[q]).slots := Array.ext_getElem? fun i => e4 i fun hm => hz _ hm rfl
  have h9 : c9 = s.heap[q] := by
    rw [hs] at e2
    exact e2
  have e5 : U.heap[q]? = some c9 := e1
  rw [e5, h9, Array.getElem?_eq_getElem hq]
/-- the words of a throw but the four that speak of the heap -/
def vx_no (w : Cond) : Bool := decide (w ≠ .isRef (.static Bundle.tN "UNASSIGNED_STACK" Bundle.steD)) && decide (w ≠ .isRef (.static Bundle.tN "SUPPRESSED_SENTINEL" Bundle.listD)) && decide (w ≠ .laysStatic Bundle.tN "UNASSIGNED_STACK" Bundle.steD) && decide (w ≠ .laysStatic Bundle.tN "SUPPRESSED_SENTINEL" Bundle.listD)
def vx_at0 (own : String) (ic : Nat) (X : String) (names : List String) : List Cond := (Bundle.ownAtoms0 own ic X names).filter vx_no
def vx_atS (own : String) (ic : Nat) (X : String) (names : List String) : List Cond := (Bundle.ownAtoms own ic X names).filter vx_no
/-- a word that the tables alone decide, or a good one -/
def vx_ot (w : Cond) : Bool := w.onTables || goodWord w
theorem vx_ot_at {args a' : Array Value} {s U : State} {w : Cond} (hW : s.WarmedH U.vm) (hvm : s.vm = U.vm) (hg : vx_ot w = true) (h : w.before args s = true) : w.before a' U = true := by
  simp only [vx_ot, Bool.or_eq_true] at hg
  rcases hg with hg | hg
  · exact va_tabs hg hvm h
  · exact word_at hW (good_of_word hg) h
/-- a list's words: the good ones out of the method's own list, the others by premises of their own -/
theorem vx_hat {args : Array Value} {s : State} {L B : List Cond} (h1 : ∀ w ∈ L.filter goodWord, w.before args s = true) (h2 : ∀ w ∈ L.filter (fun w => !goodWord w), w ∈ B) (h3 : ∀ w ∈ B, w.before args s = true) : ∀ w ∈ L, w.before args s = true := by
  intro w hw
  by_cases g : goodWord w = true
  · exact h1 w (List.mem_filter.mpr ⟨hw, g⟩)
  · refine h3 w (h2 w (List.mem_filter.mpr ⟨hw, ?_⟩))
    show (!goodWord w) = true
    cases hgw : goodWord w
    · rfl
    · exact absurd hgw g
theorem vx_c {args : Array Value} {s : State} {w : Cond} {B : List Cond} (h : w.before args s = true) (t : ∀ w ∈ B, w.before args s = true) : ∀ w' ∈ w :: B, w'.before args s = true := fun w' h' => (List.mem_cons.mp h').elim (fun e => by rw [e]; exact h) (t w')
theorem vx_n {args : Array Value} {s : State} : ∀ w ∈ ([] : List Cond), w.before args s = true := fun _ h => nomatch h
theorem vx_own {args : Array Value} {s : State} {L : List Cond} (h1 : ∀ w ∈ L.filter vx_no, w.before args s = true)
    (hU : (Cond.isRef (.static Bundle.tN "UNASSIGNED_STACK" Bundle.steD)).before args s = true) (hN : (Cond.isRef (.static Bundle.tN "SUPPRESSED_SENTINEL" Bundle.listD)).before args s = true)
    (lU : (Cond.laysStatic Bundle.tN "UNASSIGNED_STACK" Bundle.steD).before args s = true) (lN : (Cond.laysStatic Bundle.tN "SUPPRESSED_SENTINEL" Bundle.listD).before args s = true) : ∀ w ∈ L, w.before args s = true := by
  intro w hw
  by_cases e1 : w = .isRef (.static Bundle.tN "UNASSIGNED_STACK" Bundle.steD)
  · rw [e1]; exact hU
  · by_cases e2 : w = .isRef (.static Bundle.tN "SUPPRESSED_SENTINEL" Bundle.listD)
    · rw [e2]; exact hN
    · by_cases e3 : w = .laysStatic Bundle.tN "UNASSIGNED_STACK" Bundle.steD
      · rw [e3]; exact lU
      · by_cases e4 : w = .laysStatic Bundle.tN "SUPPRESSED_SENTINEL" Bundle.listD
        · rw [e4]; exact lN
        · exact h1 w (List.mem_filter.mpr ⟨hw, by unfold vx_no; rw [decide_eq_true e1, decide_eq_true e2, decide_eq_true e3, decide_eq_true e4]; rfl⟩)
/-- where a static field lies, its class's statics cell in H -/
def vx_L (C n d : String) (A : Nat → Prop) (U : State) (H : Heap) : Prop := ∃ (c : ClassId) (k : Class) (i : Nat) (f : Field) (a : Nat) (cell : Cell), U.vm.findClass C = some c ∧ U.fieldFound? C n d = some (c, k, i, f) ∧ f.isStatic = true ∧ k.statics = some a ∧ H[a]? = some cell ∧ cell.vm.isStatics = true ∧ cell.cls = c ∧ f.slot < cell.slots.size ∧ k.staticTypes[f.slot]? = some f.type ∧ ¬ A a
theorem vx_L.moved {C n d : String} {A : Nat → Prop} {u U : State} {H : Heap} (hvm : u.vm.Alike U.vm) (h : vx_L C n d A u H) : vx_L C n d A U H := by
  obtain ⟨c, k, i, f, a, cell, h1, h2, h3, h4, h5, h6, h7, h8, h9, h10⟩ := h
  obtain ⟨k', hi', he⟩ := State.fieldFound?_setVm hvm h2
  exact ⟨c, k', i, f, a, cell, by rw [hvm.findClass]; exact h1, hi', h3, by rw [he]; exact h4, h5, h6, h7, h8, by rw [he]; exact h9, h10⟩
theorem vx_L.kept {C n d : String} {A : Nat → Prop} {U : State} {H H1 : Heap} (h : vx_L C n d A U H) (hq : ∀ a : Nat, a < H.size → ¬ A a → H1[a]? = H[a]?) : vx_L C n d A U H1 := by
  obtain ⟨c, k, i, f, a, cell, h1, h2, h3, h4, h5, h6, h7, h8, h9, h10⟩ := h
  exact ⟨c, k, i, f, a, cell, h1, h2, h3, h4, by rw [hq a (Array.getElem?_eq_some_iff.mp h5).1 h10]; exact h5, h6, h7, h8, h9, h10⟩
theorem vx_L.narrow {C n d : String} {A B : Nat → Prop} {U : State} {H : Heap} (h : vx_L C n d A U H) (hAB : ∀ q, B q → A q) : vx_L C n d B U H := by
  obtain ⟨c, k, i, f, a, cell, h1, h2, h3, h4, h5, h6, h7, h8, h9, h10⟩ := h
  exact ⟨c, k, i, f, a, cell, h1, h2, h3, h4, h5, h6, h7, h8, h9, fun z => h10 (hAB _ z)⟩
theorem vx_L.word {C n d : String} {A : Nat → Prop} {s : State} {args : Array Value} (h : vx_L C n d A s s.heap) : (Cond.laysStatic C n d).before args s = true := by
  obtain ⟨c, k, i, f, a, cell, h1, h2, h3, h4, h5, h6, h7, h8, h9, -⟩ := h
  show (Cond.laysStatic C n d).holds args s none s [] = true
  exact Cond.laysStatic_of h1 h2 h3 h4 h5 h6 h7 h8 h9
/-- .. and what it holds: null or some reference -/
def vx_Zq (C n d : String) (A : Nat → Prop) (U : State) (H : Heap) : Prop := va_Zq C n d A U H ∧ vx_L C n d A U H
theorem vx_Zq.moved {C n d : String} {A : Nat → Prop} {u U : State} {H : Heap} (hvm : u.vm.Alike U.vm) (h : vx_Zq C n d A u H) : vx_Zq C n d A U H := ⟨va_Zq.moved hvm h.1, vx_L.moved hvm h.2⟩
theorem vx_Zq.kept {C n d : String} {A : Nat → Prop} {U : State} {H H1 : Heap} (h : vx_Zq C n d A U H) (hq : ∀ a : Nat, a < H.size → ¬ A a → H1[a]? = H[a]?) : vx_Zq C n d A U H1 := ⟨va_Zq.kept h.1 hq, vx_L.kept h.2 hq⟩
theorem vx_Zq.narrow {C n d : String} {A B : Nat → Prop} {U : State} {H : Heap} (h : vx_Zq C n d A U H) (hAB : ∀ q, B q → A q) : vx_Zq C n d B U H := ⟨va_Zq.narrow h.1 hAB, vx_L.narrow h.2 hAB⟩
theorem vx_Zqof {args : Array Value} {s : State} {C n d : String} {A : Nat → Prop} (hl : (Cond.laysStatic C n d).before args s = true) (hini : (Cond.initialized C).before args s = true) (h : (Cond.isRef (.static C n d)).before args s = true) (hA : ∀ a : Nat, a < s.heap.size → ¬ A a) : vx_Zq C n d A s s.heap := by
  refine ⟨va_Zqof hl hini h hA, ?_⟩
  obtain ⟨c, k, i, f, a, cell, h1, h2, h3, h4, h5, h6, h7, h8, h9⟩ := Cond.laysStatic_spec hl
  exact ⟨c, k, i, f, a, cell, h1, h2, h3, h4, h5, h6, h7, h8, h9, hA a (Array.getElem?_eq_some_iff.mp h5).1⟩
theorem vx_isRef {C n d : String} {v : Value} {A : Nat → Prop} {s : State} {args : Array Value} (h : va_Z C n d v A s s.heap) (hv : v.isRef = true) : (Cond.isRef (.static C n d)).before args s = true := by
  obtain ⟨cf, kf, fi, f, a, cell, h1, h2, h3, h4, h5, h6, h7, -⟩ := h
  have he : (Term.static C n d).eval args s none [] s = some v := by
    simp [Term.eval, State.fieldNamed?, h1, h2, h4, h5, h6, h7]
  simp only [Cond.before, Cond.holds, Cond.value, he]
  cases v <;> simp_all [Value.isRef]
theorem vx_isRefq {C n d : String} {A : Nat → Prop} {s : State} {args : Array Value} (h : va_Zq C n d A s s.heap) : (Cond.isRef (.static C n d)).before args s = true := by
  rcases h with h | ⟨t, h⟩
  · exact vx_isRef h rfl
  · exact vx_isRef h rfl
/-- the same frame, seen from here: as if the method were called anew in this heap -/
theorem vx_rebase {T : State} (X : Stand p l e R s m args below meth c T locs cells slots) {R' : Room} (hf : R'.frames ≤ R.frames) (hl : R'.locals ≤ R.locals) (hc : cells + R'.cells ≤ R.cells) (hs : slots + R'.slots ≤ R.slots) :
    Stand p l e R' ((T.setVm s.vm).setFrames (.invoking m args :: below)) m args below meth c T [] 0 0 := by
  have htop : (T.setVm s.vm).topJava?.isSome := X.here.top
  have hF : ((T.setVm s.vm).setFrames (.invoking m args :: below)).frames = .invoking m args :: below := State.frames_setFrames _ (State.cur_lt_of_top htop)
  obtain ⟨g₀, hg0⟩ := Option.isSome_iff_exists.mp htop
  obtain ⟨r, hr⟩ := State.topJava?_eq_some.mp hg0
  have hl9 : e.platform.stackLimits (T.setVm s.vm).me = e.platform.stackLimits s.me := X.limits
  have hb9 : (T.setVm s.vm).me.stackBytes = s.me.stackBytes := X.bytes
  refine ⟨X.admits, X.cas, X.clock, hF, ?_, X.hears, X.method, X.code, X.here, X.tail, X.warmed, ?_, ?_, ?_⟩
  · have h := X.room
    have hU : ((T.setVm s.vm).setFrames (.invoking m args :: below)).localsInUse = s.localsInUse := by
      rw [State.localsInUse_invoking hF (meth := meth) (c := c) X.method X.code, State.localsInUse_invoking X.frames X.method X.code]
    simp only [State.hasRoom, Bool.and_eq_true, decide_eq_true_eq] at h ⊢
    obtain ⟨⟨⟨⟨h1, h2, h3, h4, h5, h6⟩, h7⟩, h8⟩, h9⟩ := h
    rw [X.frames, List.length_cons] at h2 h3
    have q1 := X.heapSize
    have q2 := X.used
    simp only [hF, hU, List.length_cons, State.stackLimits_setFrames, State.stackBytes_setFrames, hl9, hb9]
    refine ⟨⟨⟨⟨by omega, by omega, by omega, by omega, by omega, h6⟩, ?_⟩, ?_⟩, X.book⟩
    · show T.heap.size + R'.cells ≤ e.platform.maxCells
      omega
    · show T.slotsUsed + R'.slots ≤ e.platform.maxSlots
      omega
  · rw [State.stackLimits_setFrames]; rfl
  · rw [State.stackBytes_setFrames]; rfl
  · refine ⟨?_, Nat.le_refl _, Nat.le_refl _, ?_, ?_, fun a c9 h9 => ⟨c9, h9, rfl, rfl, fun _ _ => rfl⟩⟩
    · obtain ⟨t, ht, -⟩ := State.frames_cons hr
      show T.setVm s.vm = { ((T.setVm s.vm).setFrames (.invoking m args :: below)).setFrames (T.setVm s.vm).frames with heap := T.heap, slotsUsed := T.slotsUsed }
      rw [State.setFrames_setFrames, State.setFrames_self ht]
      rfl
    · show T.slotsUsed = T.slotsUsed + ((T.heap.toList.drop T.heap.size).map (·.slots.size)).sum
      rw [List.drop_eq_nil_of_le (Nat.le_of_eq Array.length_toList)]
      rfl
    · show ((T.heap.toList.drop T.heap.size).map (·.slots.size)).sum ≤ 0
      rw [List.drop_eq_nil_of_le (Nat.le_of_eq Array.length_toList)]
      exact Nat.le_refl _
/-- 'throw new E()': new; dup; invokespecial; athrow -/
theorem vx_throw0 {cc : ByteArray} {pc : Nat} (hexec : p.tables.exec = Jvm.exec) (hb : c.code = cc) (hl : l.stackTraces = false) {own cls : String} {names : List String} {ik ic mc ms : Nat} {A : Nat → Prop}
    (hown : s.vm.findClass own = some m.cls) (hcls : Bundle.fit cls = true) (hnames : ∀ n ∈ names, Bundle.fit n = true)
    (hk : (Cond.classLink own ik cls).before args s = true) (hini : (Cond.initialized cls).before args s = true) (hat : ∀ w ∈ vx_at0 own ic cls names, w.before args s = true)
    (hgood : ∀ w ∈ Cond.classLink own ik cls :: Cond.initialized cls :: vx_at0 own ic cls names, vx_ot w = true)
    (hU : vx_Zq Bundle.tN "UNASSIGNED_STACK" Bundle.steD A s s.heap) (hN : vx_Zq Bundle.tN "SUPPRESSED_SENTINEL" Bundle.listD A s s.heap) (hS : va_S A s.heap H locs) (hsize : ls.size = c.maxLocals)
    (d0 : decode cc pc = .ok (.new ik, 3)) (d3 : decode cc (pc + 3) = .ok (.dup, 1)) (d4 : decode cc (pc + 4) = .ok (.invokespecial ic, 3)) (d7 : decode cc (pc + 7) = .ok (.athrow, 1))
    (hout : ∀ x ∈ c.exceptionTable.toList, covers x (pc + 7) = false)
    (hRframes : names.length + 3 < R.frames) (hRlocals : (rest.map fun v => v.category).sum + (13 * (names.length + 1) + 42) ≤ R.locals) (hRcells : cells + 1 ≤ R.cells) (hRslots : slots + 6 ≤ R.slots) (hlocks : meth.locks = false)
    (hx : ∀ t : State, s.vm.Alike t.vm → H.size ≤ t.heap.size → (∀ q : Nat, q < H.size → t.heap[q]? = H[q]?) → XC cls s t)
    (hf : ∀ z ∈ locs, free z.base) (hc : cells + 1 ≤ mc) (hs : slots + 6 ≤ ms) :
    W p l e R s m args below meth c H locs cells slots (vx_MQ below Qc XC args s mc ms free) (F0 m pc ls rest) := by
  intro T hT X
  have htr : e.platform.stackTraces = false := (show e.platform.stackTraces = l.stackTraces by rw [X.admits.platform]).trans hl
  have Y := vx_rebase X (R' := { frames := R.frames, locals := R.locals, cells := 1, slots := 6 }) (Nat.le_refl _) (Nat.le_refl _) hRcells hRslots
  obtain ⟨s', hA⟩ : ∃ z, z = (T.setVm s.vm).setFrames (.invoking m args :: below) := ⟨_, rfl⟩
  rw [← hA] at Y
  have hvm : s'.vm = s.vm := by rw [hA]; rfl
  have hhp : s'.heap = H := by rw [hA]; exact hT
  have hW0 : s.WarmedH s'.vm := by rw [hvm]; exact State.WarmedH.refl s
  have hat' : ∀ w ∈ vx_at0 own ic cls names, w.before args s' = true := fun w hw => vx_ot_at hW0 hvm.symm (hgood w (List.mem_cons_of_mem _ (List.mem_cons_of_mem _ hw))) (hat w hw)
  have hk' : (Cond.classLink own ik cls).before args s' = true := vx_ot_at hW0 hvm.symm (hgood _ List.mem_cons_self) hk
  have hini' : (Cond.initialized cls).before args s' = true := vx_ot_at hW0 hvm.symm (hgood _ (List.mem_cons_of_mem _ List.mem_cons_self)) hini
  have hU' : vx_Zq Bundle.tN "UNASSIGNED_STACK" Bundle.steD A s' s'.heap := by rw [hhp]; exact vx_Zq.moved hW0.alike (hU.kept hS.2.1)
  have hN' : vx_Zq Bundle.tN "SUPPRESSED_SENTINEL" Bundle.listD A s' s'.heap := by rw [hhp]; exact vx_Zq.moved hW0.alike (hN.kept hS.2.1)
  have h : ∀ w ∈ Bundle.ownAtoms0 own ic cls names, w.before args s' = true := vx_own hat' (vx_isRefq hU'.1) (vx_isRefq hN'.1) hU'.2.word hN'.2.word
  have hown' : s'.vm.findClass own = some m.cls := by rw [hvm]; exact hown
  have hins : (Cond.instantiable cls 6).before args s' = true := h _ (by simp [Bundle.ownAtoms0])
  obtain ⟨vm₁, cX, kX, hfX, hkX, -, -, X₁, st1⟩ := Y.newCold hexec (own := own) (C := cls) (index := ik) (n := 6) hown' hk' hins hini'
    (g := F0 m pc ls rest) rfl (by rw [hb]; exact d0) (Nat.le_refl _) (Nat.le_refl _)
  generalize hT1 : (T.setVm vm₁).pushCell { cls := cX, slots := kX.instanceTypes.map defaultValue, vm := .none } = T1 at X₁ st1
  have hcat : (Value.ref T.heap.size).category = 1 := rfl
  have hcellA : T1.heap[T.heap.size]? = some (freshCell cX kX) := by rw [← hT1]; exact State.heap_pushCell_size _ _
  have d3' : decode c.code (pc + 3) = .ok (.dup, 1) := by rw [hb]; exact d3
  obtain ⟨U, hsteps, hrun, hend, hW, hsame, ce, hce, hO⟩ := X₁.ctorThrow0 hexec htr (own := own) (cls := cls) (names := names) (ic := ic) hown' hcls hnames h (fun x hx => nomatch hx) hfX hkX hcellA (by rw [hhp, hT]; exact Nat.le_refl _)
    (g := { method := m, pc := pc + 4, locals := ls, stack := .ref T.heap.size :: .ref T.heap.size :: rest, locked := none }) rfl hsize rfl rfl (rest := rest) rfl
    (by rw [hb]; exact d4) (by rw [hb]; exact d7) hout hRframes (by simp only [List.map_cons, List.sum_cons, hcat]; omega) hlocks
  obtain ⟨f1, f2⟩ := vx_frame hsame
  rw [hhp] at f1 f2
  have hWs : s.WarmedH U.vm := State.WarmedH.trans hW0 hW
  have hcl : s.vm.findClass cls = some ce.cls := by
    have h9 := hO.cls
    rw [hvm] at h9
    exact h9
  have hall : s.sameButNew ({ U with vm := s.vm } : State) locs mc ms := by
    subst hA
    obtain ⟨e1, e2⟩ := hsame
    rw [State.setFrames_setFrames] at e1
    have h2 : (T.setVm s.vm).sameButNew ({ U with vm := s.vm } : State) [] (0 + 1) (0 + 6) := ⟨e1, e2⟩
    have h3 := X.same.trans h2
    rw [List.append_nil] at h3
    exact h3.mono hc hs
  refine ⟨U, ?_, .threw T.heap.size, hrun, hend, Or.inr ⟨T.heap.size, rfl, cls, ce, locs, hx U hWs.alike f1 (fun q hq => f2 q hq (fun z hz => nomatch hz)), hce, hO.vm, hcl, hWs, hall, hf⟩⟩
  refine st1 _ ?_
  show Steps p.tables e below (T1.setTop { method := m, pc := pc + 3, locals := ls, stack := .ref T.heap.size :: rest, locked := none }) _
  jvm_step X₁.here [X₁.here.top, hexec, d3', Value.category]
  exact hsteps
/-- 'throw new E("text")': new; dup; ldc; invokespecial; athrow -/
theorem vx_throwS {cc : ByteArray} {pc : Nat} (hexec : p.tables.exec = Jvm.exec) (hb : c.code = cc) (hl : l.stackTraces = false) {own cls text : String} {names : List String} {ik is ic mc ms sa : Nat} {A : Nat → Prop}
    (hown : s.vm.findClass own = some m.cls) (hcls : Bundle.fit cls = true) (hnames : ∀ n ∈ names, Bundle.fit n = true)
    (hk : (Cond.classLink own ik cls).before args s = true) (hini : (Cond.initialized cls).before args s = true) (hstr : vk_R own is text sa s) (hat : ∀ w ∈ vx_atS own ic cls names, w.before args s = true)
    (hgood : ∀ w ∈ Cond.classLink own ik cls :: Cond.initialized cls :: vx_atS own ic cls names, vx_ot w = true)
    (hU : vx_Zq Bundle.tN "UNASSIGNED_STACK" Bundle.steD A s s.heap) (hN : vx_Zq Bundle.tN "SUPPRESSED_SENTINEL" Bundle.listD A s s.heap) (hS : va_S A s.heap H locs) (hsize : ls.size = c.maxLocals)
    (d0 : decode cc pc = .ok (.new ik, 3)) (d3 : decode cc (pc + 3) = .ok (.dup, 1)) (d4 : decode cc (pc + 4) = .ok (.ldc is, 2)) (d6 : decode cc (pc + 6) = .ok (.invokespecial ic, 3)) (d9 : decode cc (pc + 9) = .ok (.athrow, 1))
    (hout : ∀ x ∈ c.exceptionTable.toList, covers x (pc + 9) = false)
    (hRframes : names.length + 3 < R.frames) (hRlocals : (rest.map fun v => v.category).sum + (13 * (names.length + 1) + 43) ≤ R.locals) (hRcells : cells + 1 ≤ R.cells) (hRslots : slots + 6 ≤ R.slots) (hlocks : meth.locks = false)
    (hx : ∀ t : State, s.vm.Alike t.vm → H.size ≤ t.heap.size → (∀ q : Nat, q < H.size → t.heap[q]? = H[q]?) → XC cls s t)
    (hf : ∀ z ∈ locs, free z.base) (hc : cells + 1 ≤ mc) (hs : slots + 6 ≤ ms) :
    W p l e R s m args below meth c H locs cells slots (vx_MQ below Qc XC args s mc ms free) (F0 m pc ls rest) := by
  intro T hT X
  have htr : e.platform.stackTraces = false := (show e.platform.stackTraces = l.stackTraces by rw [X.admits.platform]).trans hl
  have Y := vx_rebase X (R' := { frames := R.frames, locals := R.locals, cells := 1, slots := 6 }) (Nat.le_refl _) (Nat.le_refl _) hRcells hRslots
  obtain ⟨s', hA⟩ : ∃ z, z = (T.setVm s.vm).setFrames (.invoking m args :: below) := ⟨_, rfl⟩
  rw [← hA] at Y
  have hvm : s'.vm = s.vm := by rw [hA]; rfl
  have hhp : s'.heap = H := by rw [hA]; exact hT
  have hW0 : s.WarmedH s'.vm := by rw [hvm]; exact State.WarmedH.refl s
  have hat' : ∀ w ∈ vx_atS own ic cls names, w.before args s' = true := fun w hw => vx_ot_at hW0 hvm.symm (hgood w (List.mem_cons_of_mem _ (List.mem_cons_of_mem _ hw))) (hat w hw)
  have hk' : (Cond.classLink own ik cls).before args s' = true := vx_ot_at hW0 hvm.symm (hgood _ List.mem_cons_self) hk
  have hini' : (Cond.initialized cls).before args s' = true := vx_ot_at hW0 hvm.symm (hgood _ (List.mem_cons_of_mem _ List.mem_cons_self)) hini
  have hU' : vx_Zq Bundle.tN "UNASSIGNED_STACK" Bundle.steD A s' s'.heap := by rw [hhp]; exact vx_Zq.moved hW0.alike (hU.kept hS.2.1)
  have hN' : vx_Zq Bundle.tN "SUPPRESSED_SENTINEL" Bundle.listD A s' s'.heap := by rw [hhp]; exact vx_Zq.moved hW0.alike (hN.kept hS.2.1)
  have h : ∀ w ∈ Bundle.ownAtoms own ic cls names, w.before args s' = true := vx_own hat' (vx_isRefq hU'.1) (vx_isRefq hN'.1) hU'.2.word hN'.2.word
  have hown' : s'.vm.findClass own = some m.cls := by rw [hvm]; exact hown
  have hins : (Cond.instantiable cls 6).before args s' = true := h _ (by simp [Bundle.ownAtoms])
  obtain ⟨vm₁, cX, kX, hfX, hkX, -, -, X₁, st1⟩ := Y.newCold hexec (own := own) (C := cls) (index := ik) (n := 6) hown' hk' hins hini'
    (g := F0 m pc ls rest) rfl (by rw [hb]; exact d0) (Nat.le_refl _) (Nat.le_refl _)
  generalize hT1 : (T.setVm vm₁).pushCell { cls := cX, slots := kX.instanceTypes.map defaultValue, vm := .none } = T1 at X₁ st1
  have hcat : (Value.ref T.heap.size).category = 1 := rfl
  have hcellA : T1.heap[T.heap.size]? = some (freshCell cX kX) := by rw [← hT1]; exact State.heap_pushCell_size _ _
  have d3' : decode c.code (pc + 3) = .ok (.dup, 1) := by rw [hb]; exact d3
  have d4' : decode c.code (pc + 4) = .ok (.ldc is, 2) := by rw [hb]; exact d4
  have hstr' : vk_R own is text sa s' := vk_R.warm hW0 hstr
  obtain ⟨U, hsteps, hrun, hend, hW, hsame, ce, hce, hO⟩ := X₁.ctorThrowS hexec htr (own := own) (cls := cls) (names := names) (ic := ic) hown' hcls hnames h (fun x hx => nomatch hx) hfX hkX hcellA (by rw [hhp, hT]; exact Nat.le_refl _) (msg := .ref sa) rfl
    (g := { method := m, pc := pc + 6, locals := ls, stack := .ref sa :: .ref T.heap.size :: .ref T.heap.size :: rest, locked := none }) rfl hsize rfl rfl (rest := rest) rfl
    (by rw [hb]; exact d6) (by rw [hb]; exact d9) hout hRframes (by simp only [List.map_cons, List.sum_cons, hcat]; omega) hlocks
  obtain ⟨f1, f2⟩ := vx_frame hsame
  rw [hhp] at f1 f2
  have hWs : s.WarmedH U.vm := State.WarmedH.trans hW0 hW
  have hcl : s.vm.findClass cls = some ce.cls := by
    have h9 := hO.cls
    rw [hvm] at h9
    exact h9
  have hall : s.sameButNew ({ U with vm := s.vm } : State) locs mc ms := by
    subst hA
    obtain ⟨e1, e2⟩ := hsame
    rw [State.setFrames_setFrames] at e1
    have h2 : (T.setVm s.vm).sameButNew ({ U with vm := s.vm } : State) [] (0 + 1) (0 + 6) := ⟨e1, e2⟩
    have h3 := X.same.trans h2
    rw [List.append_nil] at h3
    exact h3.mono hc hs
  refine ⟨U, ?_, .threw T.heap.size, hrun, hend, Or.inr ⟨T.heap.size, rfl, cls, ce, locs, hx U hWs.alike f1 (fun q hq => f2 q hq (fun z hz => nomatch hz)), hce, hO.vm, hcl, hWs, hall, hf⟩⟩
  refine st1 _ ?_
  show Steps p.tables e below (T1.setTop { method := m, pc := pc + 3, locals := ls, stack := .ref T.heap.size :: rest, locked := none }) _
  jvm_step X₁.here [X₁.here.top, hexec, d3', Value.category]
  exact X₁.ldcString hexec (own := own) (text := text) (index := is) (a := sa) hown' hstr'.1 hstr'.2
    (g := { method := m, pc := pc + 4, locals := ls, stack := .ref T.heap.size :: .ref T.heap.size :: rest, locked := none }) rfl d4' _ hsteps
/-- 'throw new E("text")', the text by a wide index -/
theorem vx_throwSW {cc : ByteArray} {pc : Nat} (hexec : p.tables.exec = Jvm.exec) (hb : c.code = cc) (hl : l.stackTraces = false) {own cls text : String} {names : List String} {ik is ic mc ms sa : Nat} {A : Nat → Prop}
    (hown : s.vm.findClass own = some m.cls) (hcls : Bundle.fit cls = true) (hnames : ∀ n ∈ names, Bundle.fit n = true)
    (hk : (Cond.classLink own ik cls).before args s = true) (hini : (Cond.initialized cls).before args s = true) (hstr : vk_R own is text sa s) (hat : ∀ w ∈ vx_atS own ic cls names, w.before args s = true)
    (hgood : ∀ w ∈ Cond.classLink own ik cls :: Cond.initialized cls :: vx_atS own ic cls names, vx_ot w = true)
    (hU : vx_Zq Bundle.tN "UNASSIGNED_STACK" Bundle.steD A s s.heap) (hN : vx_Zq Bundle.tN "SUPPRESSED_SENTINEL" Bundle.listD A s s.heap) (hS : va_S A s.heap H locs) (hsize : ls.size = c.maxLocals)
    (d0 : decode cc pc = .ok (.new ik, 3)) (d3 : decode cc (pc + 3) = .ok (.dup, 1)) (d4 : decode cc (pc + 4) = .ok (.ldc_w is, 3)) (d7 : decode cc (pc + 7) = .ok (.invokespecial ic, 3)) (d10 : decode cc (pc + 10) = .ok (.athrow, 1))
    (hout : ∀ x ∈ c.exceptionTable.toList, covers x (pc + 10) = false)
    (hRframes : names.length + 3 < R.frames) (hRlocals : (rest.map fun v => v.category).sum + (13 * (names.length + 1) + 43) ≤ R.locals) (hRcells : cells + 1 ≤ R.cells) (hRslots : slots + 6 ≤ R.slots) (hlocks : meth.locks = false)
    (hx : ∀ t : State, s.vm.Alike t.vm → H.size ≤ t.heap.size → (∀ q : Nat, q < H.size → t.heap[q]? = H[q]?) → XC cls s t)
    (hf : ∀ z ∈ locs, free z.base) (hc : cells + 1 ≤ mc) (hs : slots + 6 ≤ ms) :
    W p l e R s m args below meth c H locs cells slots (vx_MQ below Qc XC args s mc ms free) (F0 m pc ls rest) := by
  intro T hT X
  have htr : e.platform.stackTraces = false := (show e.platform.stackTraces = l.stackTraces by rw [X.admits.platform]).trans hl
  have Y := vx_rebase X (R' := { frames := R.frames, locals := R.locals, cells := 1, slots := 6 }) (Nat.le_refl _) (Nat.le_refl _) hRcells hRslots
  obtain ⟨s', hA⟩ : ∃ z, z = (T.setVm s.vm).setFrames (.invoking m args :: below) := ⟨_, rfl⟩
  rw [← hA] at Y
  have hvm : s'.vm = s.vm := by rw [hA]; rfl
  have hhp : s'.heap = H := by rw [hA]; exact hT
  have hW0 : s.WarmedH s'.vm := by rw [hvm]; exact State.WarmedH.refl s
  have hat' : ∀ w ∈ vx_atS own ic cls names, w.before args s' = true := fun w hw => vx_ot_at hW0 hvm.symm (hgood w (List.mem_cons_of_mem _ (List.mem_cons_of_mem _ hw))) (hat w hw)
  have hk' : (Cond.classLink own ik cls).before args s' = true := vx_ot_at hW0 hvm.symm (hgood _ List.mem_cons_self) hk
  have hini' : (Cond.initialized cls).before args s' = true := vx_ot_at hW0 hvm.symm (hgood _ (List.mem_cons_of_mem _ List.mem_cons_self)) hini
  have hU' : vx_Zq Bundle.tN "UNASSIGNED_STACK" Bundle.steD A s' s'.heap := by rw [hhp]; exact vx_Zq.moved hW0.alike (hU.kept hS.2.1)
  have hN' : vx_Zq Bundle.tN "SUPPRESSED_SENTINEL" Bundle.listD A s' s'.heap := by rw [hhp]; exact vx_Zq.moved hW0.alike (hN.kept hS.2.1)
  have h : ∀ w ∈ Bundle.ownAtoms own ic cls names, w.before args s' = true := vx_own hat' (vx_isRefq hU'.1) (vx_isRefq hN'.1) hU'.2.word hN'.2.word
  have hown' : s'.vm.findClass own = some m.cls := by rw [hvm]; exact hown
  have hins : (Cond.instantiable cls 6).before args s' = true := h _ (by simp [Bundle.ownAtoms])
  obtain ⟨vm₁, cX, kX, hfX, hkX, -, -, X₁, st1⟩ := Y.newCold hexec (own := own) (C := cls) (index := ik) (n := 6) hown' hk' hins hini'
    (g := F0 m pc ls rest) rfl (by rw [hb]; exact d0) (Nat.le_refl _) (Nat.le_refl _)
  generalize hT1 : (T.setVm vm₁).pushCell { cls := cX, slots := kX.instanceTypes.map defaultValue, vm := .none } = T1 at X₁ st1
  have hcat : (Value.ref T.heap.size).category = 1 := rfl
  have hcellA : T1.heap[T.heap.size]? = some (freshCell cX kX) := by rw [← hT1]; exact State.heap_pushCell_size _ _
  have d3' : decode c.code (pc + 3) = .ok (.dup, 1) := by rw [hb]; exact d3
  have d4' : decode c.code (pc + 4) = .ok (.ldc_w is, 3) := by rw [hb]; exact d4
  have hstr' : vk_R own is text sa s' := vk_R.warm hW0 hstr
  obtain ⟨U, hsteps, hrun, hend, hW, hsame, ce, hce, hO⟩ := X₁.ctorThrowS hexec htr (own := own) (cls := cls) (names := names) (ic := ic) hown' hcls hnames h (fun x hx => nomatch hx) hfX hkX hcellA (by rw [hhp, hT]; exact Nat.le_refl _) (msg := .ref sa) rfl
    (g := { method := m, pc := pc + 7, locals := ls, stack := .ref sa :: .ref T.heap.size :: .ref T.heap.size :: rest, locked := none }) rfl hsize rfl rfl (rest := rest) rfl
    (by rw [hb]; exact d7) (by rw [hb]; exact d10) hout hRframes (by simp only [List.map_cons, List.sum_cons, hcat]; omega) hlocks
  obtain ⟨f1, f2⟩ := vx_frame hsame
  rw [hhp] at f1 f2
  have hWs : s.WarmedH U.vm := State.WarmedH.trans hW0 hW
  have hcl : s.vm.findClass cls = some ce.cls := by
    have h9 := hO.cls
    rw [hvm] at h9
    exact h9
  have hall : s.sameButNew ({ U with vm := s.vm } : State) locs mc ms := by
    subst hA
    obtain ⟨e1, e2⟩ := hsame
    rw [State.setFrames_setFrames] at e1
    have h2 : (T.setVm s.vm).sameButNew ({ U with vm := s.vm } : State) [] (0 + 1) (0 + 6) := ⟨e1, e2⟩
    have h3 := X.same.trans h2
    rw [List.append_nil] at h3
    exact h3.mono hc hs
  refine ⟨U, ?_, .threw T.heap.size, hrun, hend, Or.inr ⟨T.heap.size, rfl, cls, ce, locs, hx U hWs.alike f1 (fun q hq => f2 q hq (fun z hz => nomatch hz)), hce, hO.vm, hcl, hWs, hall, hf⟩⟩
  refine st1 _ ?_
  show Steps p.tables e below (T1.setTop { method := m, pc := pc + 3, locals := ls, stack := .ref T.heap.size :: rest, locked := none }) _
  jvm_step X₁.here [X₁.here.top, hexec, d3', Value.category]
  exact X₁.ldcStringW hexec (own := own) (text := text) (index := is) (a := sa) hown' hstr'.1 hstr'.2
    (g := { method := m, pc := pc + 4, locals := ls, stack := .ref T.heap.size :: .ref T.heap.size :: rest, locked := none }) rfl d4' _ hsteps
end Ends
section Bodies
variable {l : Launch}
theorem vx_ofW {y : MethodName} {ws ws' : List Cond} {rm : Room} {Pc : Array Value → State → Prop} {Qc : Array Value → State → Outcome → State → Prop} {XC : String → State → State → Prop} {mc ms : Nat} {free : Addr → Prop} {cc : ByteArray} {maxL : Nat} {ret : Option FieldType}
    (hy : plainName y.cls = true) (hw : ws = Cond.code y cc maxL ret :: ws')
    (body : ∀ p e s m args below meth c s₁, BodyLoose p l y (headSpec ws rm) cc maxL ret e s m args below meth c s₁ → c.maxLocals = maxL → (∀ x ∈ c.exceptionTable.toList, False) → Pc args s →
      W p l e (headSpec ws rm).room s m args below meth c s.heap [] 0 0 (vx_MQ below Qc XC args s mc ms free) (entryFrame m args maxL)) : vx_Met l y ws rm Pc Qc XC mc ms free := by
  refine MetFree.of_bodyS (code := cc) (maxLocals := maxL) (ret := ret) hy ?_ ?_
  · intro args s m h hn
    obtain ⟨meth, c, h1, h2, h3, h4, h5, h6, -, -⟩ := Cond.code_spec hn (atoms_spec (ws := ws) h _ (by rw [hw]; exact List.mem_cons_self))
    exact ⟨meth, c, h1, h2, h3, h4, h5, h6⟩
  · intro p e s m args below meth c s₁ B hml hP _
    have hh0 : s₁.heap = s.heap := by rw [B.state]; rfl
    have ht : ∀ x ∈ c.exceptionTable.toList, False := by
      obtain ⟨meth9, c9, h1, h2, -, -, -, -, h7, -⟩ := Cond.code_spec B.named (atoms_spec (ws := ws) B.pre _ (by rw [hw]; exact List.mem_cons_self))
      cases Option.some.inj (h1.symm.trans B.method)
      cases Option.some.inj (h2.symm.trans (Stand.of_body B).code)
      intro x hx
      rw [Array.isEmpty_iff.mp h7] at hx
      cases hx
    obtain ⟨t, a1, o, b1, b2, b3⟩ := body p e s m args below meth c s₁ B hml ht hP s₁ hh0 (Stand.of_body B)
    exact ⟨t, o, a1, b1, b2, b3⟩
/-- the table of a body with handlers -/
theorem vx_table {p : Program} {x y : MethodName} {S : Spec} {cc bytes : ByteArray} {maxL maxL' : Nat} {ret ret' : Option FieldType} {e : Env} {s s₁ : State} {m : MethodId} {args : Array Value} {below : List Frame} {meth : Method} {c : Code} {hh : List (Nat × Nat × Nat × Nat)}
    (B : BodyLoose p l y S cc maxL ret e s m args below meth c s₁) (h : (Cond.codeWith y bytes maxL' ret' hh).before args s = true) : c.exceptionTable.toList = tableOf hh := by
  obtain ⟨m9, meth9, c9, hn9, h1, h2, -, -, h6, -⟩ := Cond.codeWith_spec h
  cases Option.some.inj (hn9.symm.trans B.named)
  cases Option.some.inj (h1.symm.trans B.method)
  cases Option.some.inj (h2.symm.trans (Stand.of_body B).code)
  rw [← h6, table_eq]
end Bodies
end VXA
/-! ===== END ===== -/
/-! ===== BEGIN a static call of a method with an exception table ===== -/
section VXS
variable {p : Program} {l : Launch} {e : Env} {R : Room} {s : State} {m : MethodId} {args : Array Value} {below : List Frame} {meth : Method} {c : Code} {T : State} {H : Heap} {locs : List Loc} {cells slots : Nat}
abbrev vx_CSW (R : Room) (s : State) (args : Array Value) (own : String) (index : Nat) (y : MethodName) (bytes : ByteArray) (maxL : Nat) (ret : Option FieldType) (hh : List (Nat × Nat × Nat × Nat)) (ws : List Cond) (rm : Room) (mc ms n : Nat) : Prop :=
  (rm.cells = mc ∧ rm.slots = ms ∧ rm.frames + 1 ≤ R.frames ∧ 8 + (maxL + 11) + rm.locals ≤ R.locals ∧ (∀ w ∈ ws, ∀ (a' : Array Value) (U : State), s.WarmedH U.vm → w.before a' U = true) ∧ Cond.codeWith y bytes maxL ret hh ∈ ws) ∧
  (Cond.codeWith y bytes maxL ret hh).before args s = true ∧ (Cond.initialized y.cls).before args s = true ∧ (y.cls ≠ "java/lang/invoke/MethodHandle" ∧ y.cls ≠ "java/lang/invoke/VarHandle") ∧
  (∀ sig, parseMethodDescriptor y.desc = some sig → n = sig.parameters.length) ∧ (Cond.methodLink own index y).before args s = true ∧ (Cond.static y).before args s = true
theorem vx_cwSW {own : String} {index maxL mc ms : Nat} {y : MethodName} {bytes : ByteArray} {ret : Option FieldType} {hh : List (Nat × Nat × Nat × Nat)} {Ts ws ws' : List Cond} {rm : Room} (n : Nat) (ht : ∀ w ∈ Ts, w.before args s = true) (hT : GoodIn Ts (va_wsS own index y ws)) (hw : ws = Cond.codeWith y bytes maxL ret hh :: ws') (hrc : rm.cells = mc) (hrs : rm.slots = ms)
    (hd : y.cls ≠ "java/lang/invoke/MethodHandle" ∧ y.cls ≠ "java/lang/invoke/VarHandle" ∧ (parseMethodDescriptor y.desc).map (fun d => d.parameters.length) = some n) (hR : rm.frames + 1 ≤ R.frames ∧ 8 + (maxL + 11) + rm.locals ≤ R.locals) :
    vx_CSW R s args own index y bytes maxL ret hh ws rm mc ms n := by
  have ok : ∀ w ∈ va_wsS own index y ws, w.before args s = true := fun w h => ht w (hT w h).1
  have hG : GoodIn Ts ws := fun w h => hT w (by unfold va_wsS; exact List.mem_append_right _ h)
  have hc : Cond.codeWith y bytes maxL ret hh ∈ ws := by rw [hw]; exact List.mem_cons_self
  refine ⟨⟨hrc, hrs, hR.1, hR.2, pay_in ht hG, hc⟩, ht _ (hG _ hc).1, ok _ (by simp [va_wsS]), ⟨hd.1, hd.2.1⟩, fun sig h => ?_, ok _ (by simp [va_wsS]), ok _ (by simp [va_wsS])⟩
  have h2 := hd.2.2
  rw [h] at h2
  exact (Option.some.inj h2).symm
theorem vx_callSW (X : Stand p l e R s m args below meth c T locs cells slots) (hexec : p.tables.exec = Jvm.exec) {own : String} {index : Nat} {y : MethodName} {bytes : ByteArray} {maxL : Nat} {ret : Option FieldType} {hh : List (Nat × Nat × Nat × Nat)}
    (hown : s.vm.findClass own = some m.cls) (hlink : (Cond.methodLink own index y).before args s = true) (hstat : (Cond.static y).before args s = true) (hinit : (Cond.initialized y.cls).before args s = true)
    (hcode : (Cond.codeWith y bytes maxL ret hh).before args s = true) (hy : y.cls ≠ "java/lang/invoke/MethodHandle" ∧ y.cls ≠ "java/lang/invoke/VarHandle")
    {W9 : Nat} {Pre : Pt → Array Value → Prop} {Post : Pt → Array Value → Option Value → Pt → Prop} (hK : Back l R p e below s args y 3 W9 Pre Post)
    {g : JFrame} (hg : g.method = m) (hsize : g.locals.size = c.maxLocals) {argsL rest : List Value} (hlen : ∀ sig, parseMethodDescriptor y.desc = some sig → argsL.length = sig.parameters.length)
    (hstack : g.stack = argsL.reverse ++ rest) (hW : 2 * g.monitorRoom + (rest.map fun v => v.category).sum ≤ W9) (hdg : decode c.code g.pc = .ok (.invokestatic index, 3))
    (hpre : ∀ vm₁, s.WarmedH vm₁ → Pre ⟨T.setVm vm₁, locs, cells, slots⟩ argsL.toArray) :
    ∃ (v : Option Value) (vm₁ : Vm) (B : Pt), s.WarmedH vm₁ ∧ Stand p l e R s m args below meth c B.U B.locs B.cells B.slots ∧ Post ⟨T.setVm vm₁, locs, cells, slots⟩ argsL.toArray v B ∧
      ∀ target, Steps p.tables e below (B.U.setTop { g with pc := g.pc + 3, stack := v.toList ++ rest }) target → Steps p.tables e below (T.setTop g) target := by
  obtain ⟨mk, methM, cM, hnamed, hmethM, -, -, -, -, -, -, hsigM⟩ := Cond.codeWith_spec hcode
  have hstatic : methM.isStatic = true := Cond.static_spec hnamed hmethM hstat
  obtain ⟨kP, hkP, -⟩ := className_of_methodNamed hnamed
  have hinitP : kP.init = .initialized := Cond.initialized_spec (findClass_of_methodNamed hnamed) hkP hinit
  obtain ⟨vm₁, X₁, hstep₁⟩ := X.invokestatic hexec hown hlink hnamed hmethM hstatic hkP hinitP hy (g := g) hg (argsL := argsL) (rest := rest) (hlen _ hsigM) hstack hdg
  obtain ⟨v, B, X', hpost, hsteps⟩ := hK m meth c ⟨T.setVm vm₁, locs, cells, slots⟩ { g with stack := rest } (.invokestatic index) mk argsL.toArray X₁ hg hsize hdg hW (X₁.named hnamed) (hpre vm₁ X₁.warmed)
  exact ⟨v, vm₁, B, X₁.warmed, X', hpost, fun target h => hstep₁ _ fun acts => by rw [doInvoke_state]; exact hsteps.trans h⟩
theorem vx_runSW {y : MethodName} {bytes cc : ByteArray} {maxL nL mc ms n index : Nat} {ret : Option FieldType} {hh : List (Nat × Nat × Nat × Nat)} {ws : List Cond} {rm : Room} {Pc : Array Value → State → Prop} {Qc : Array Value → State → Outcome → State → Prop} {free : Addr → Prop} {Ts : List Cond} {own : String} {As rest : List Value} {g : JFrame}
    (S : CallFix p m c cc nL s args Ts own) (hM : Met l y ws rm Pc Qc mc ms free) (cw : vx_CSW R s args own index y bytes maxL ret hh ws rm mc ms n) (hp : PreS s H Pc As)
    (hg : g.method = m) (hn : As.length = n) (hsize : g.locals.size = nL) (hstack : g.stack = As.reverse ++ rest) (hW : 2 * g.monitorRoom + (rest.map fun v => v.category).sum ≤ 8) (hdg : decode cc g.pc = .ok (.invokestatic index, 3)) (hf : cells + mc ≤ R.cells ∧ slots + ms ≤ R.slots) :
    va_Run p l e R s m args below meth c H locs cells slots mc ms g rest (Qc As.toArray) (free) := by
  obtain ⟨⟨hrc, hrs, hfr, hlo, hws, hcw⟩, hcode, hini, hy, hlen, hl, hstt⟩ := cw
  have hK : Back l R p e below s args y 3 8 (PreOf R mc ms Pc) (PostOf Qc mc ms free) := va_backW (hh := hh) (bytes := bytes) (maxL := maxL) (ret := ret) hM hp.1 hrc hrs hfr hlo hws hcw (fun a' U hW => word_at hW (Or.inl (by first | rfl | simp [Cond.onTables, Cond.keeps, Cond.steady])) hini)
  obtain ⟨hx, hb, hml, ho, -⟩ := S
  intro T hT X
  obtain ⟨v, vm₁, ⟨U', l2, c2, s2⟩, hW₁, X', ⟨g', mk, t, L, e1, e2, hq, h1, hL, h2, h3⟩, st⟩ := vx_callSW X hx (hh := hh) (bytes := bytes) (maxL := maxL) (ret := ret) ho hl hstt hini hcode hy hK hg (hsize.trans hml.symm) (argsL := As) (rest := rest) (fun sig h => hn.trans (hlen sig h)) hstack hW (by rw [hb]; exact hdg)
    (fun vm₁ hW₁ => ⟨hf.1, hf.2, hp.2 (T.setVm vm₁) hT hW₁⟩)
  dsimp only [Pt.U, Pt.locs, Pt.cells, Pt.slots] at X' e1 e2 h1 h2 h3 st
  subst h1; subst h2; subst h3
  exact ⟨v, (T.setVm vm₁).calling g' mk As.toArray, t, U', L, hT, X', hL, e1, e2, hq, st⟩
/-- not caught here, past rows that name other classes: it goes on to the caller -/
theorem vx_outP {p : Program} {l : Launch} {e : Env} {R : Room} {s : State} {m : MethodId} {args : Array Value} {below : List Frame} {meth : Method} {c : Code} {H : Heap} {locs : List Loc} {cells slots : Nat} {free : Addr → Prop} {ls : Array Slot} {rest : List Value} {Qc : Array Value → State → Outcome → State → Prop} {XC : String → State → State → Prop}
    {pc : Nat} {own E : String} {ce : Cell} {q : Addr} {mc ms : Nat} (hown : s.vm.findClass own = some m.cls) (hlocks : meth.locks = false)
    (hpass : ∀ z ∈ c.exceptionTable.toList, covers z pc = false ∨ (z.catchType ≠ 0 ∧ ∃ nm : String, (Cond.classLink own z.catchType nm).before args s = true ∧ va_Nc E nm s)) (hcell : H[q]? = some ce) (hv : ce.vm = .none) (hcl : s.vm.findClass E = some ce.cls)
    (hx : ∀ t : State, t.heap = H → s.vm.Alike t.vm → XC E s t) (hf : ∀ z ∈ locs, free z.base) (hc : cells ≤ mc) (hs : slots ≤ ms) :
    vx_W p l e R s m args below meth c H locs cells slots (vx_MQ below Qc XC args s mc ms free) (F0 m pc ls rest) q := by
  intro T hT X
  have hpl : e.platform.magicAccessors = ({} : Platform).magicAccessors := by rw [X.admits.platform]
  obtain ⟨vm', hW', X', st⟩ := X.outThrough hlocks q (g := F0 m pc ls rest) rfl rfl rfl (cell := ce) (by rw [hT]; exact hcell) (by rw [hv]; rfl)
    (by obtain ⟨k9, h9, -⟩ := Vm.findClass_spec hcl; exact ⟨k9, h9⟩) (fun z hz => by
      rcases hpass z hz with h | ⟨hz0, nm, hl1, hn1⟩
      · exact Or.inl h
      · obtain ⟨c6, hc6, hcl6⟩ := Cond.classLink_spec hown hl1 e.platform hpl
        obtain ⟨a8, b8, h1, h2, h3⟩ := hn1
        cases Option.some.inj (h1.symm.trans hcl)
        cases Option.some.inj (h2.symm.trans hc6)
        exact Or.inr ⟨hz0, _, hcl6, h3⟩)
  obtain ⟨g₀, hfr⟩ := X'.frames_eq
  have hcell9 : ((T.setVm vm').setFrames (.throwing q :: below)).heap[q]? = some ce := by
    show T.heap[q]? = some ce
    rw [hT]; exact hcell
  have hend : Ended ((T.setVm vm').setFrames (.throwing q :: below)) below (.threw q) := State.frames_setFrames _ (State.cur_lt_of_frames hfr)
  refine ⟨(T.setVm vm').setFrames (.throwing q :: below), ?_, .threw q, X'.here.running, hend, Or.inr ⟨q, rfl, E, ce, locs, hx _ hT (X'.ends _).1.alike, hcell9, hv, hcl, (X'.ends _).1, (X'.ends _).2.mono hc hs, hf⟩⟩
  rw [X.pushThrowing_eq]
  exact st
/-- a thing of a world lies in the heap -/
theorem vx_lt {D : va_G} {cl : List vw_C} {ws : va_W} {H1 : Heap} (h : va_P D cl ws H1) {k : Nat} {q : Nat × va_E} (hk : ws[k]? = some q) : q.1 < H1.size := (h k q hk).lt
end VXS
/-! ===== END ===== -/
/-! ===== BEGIN methods with a table of their own: called by a name, returning or throwing ===== -/
section VXH
/-! vx_backW, vx_callVX, vx_callSX, vx_callVW, vx_runVW, vx_runVX, vx_runSX, vx_ofWH follow the same proofs as their sisters above (Free/Laws.lean, Shelf42/LK1.lean); vx_outP calls Shelf42/NT130.lean (outThrough). -/
section
variable {l : Launch} {R : Room} {p : Program} {e : Env} {below : List Frame} {s : State} {sargs : Array Value} {y : MethodName} {len W9 : Nat}
theorem vx_backW {ws : List Cond} {rm : Room} {Pc : Array Value → State → Prop} {Qc : Array Value → State → Outcome → State → Prop} {XC : String → State → State → Prop} {mc ms : Nat} {free : Addr → Prop} {bytes : ByteArray} {maxL : Nat} {ret : Option FieldType} {hh : List (Nat × Nat × Nat × Nat)}
    (hM : vx_Met l y ws rm Pc Qc XC mc ms free) (hblind : FrameBlind Pc) (hrc : rm.cells = mc) (hrs : rm.slots = ms)
    (hframes : rm.frames + 1 ≤ R.frames) (hlocals : W9 + (maxL + 11) + rm.locals ≤ R.locals)
    (hws : ∀ w ∈ ws, ∀ a' U, s.WarmedH U.vm → w.before a' U = true) (hcode : Cond.codeWith y bytes maxL ret hh ∈ ws) (hinit : ∀ a' U, s.WarmedH U.vm → (Cond.initialized y.cls).before a' U = true) :
    vx_Back l R p e below s sargs y len W9 (PreOf R mc ms Pc) (PostOf Qc mc ms free) (vx_Post XC mc ms free) := by
  intro m meth c A g ig mk a X hg hsize hdg hW hn hp
  have h1 : (headSpec ws rm).pre.before a A.U = true := atoms_intro fun w hw => hws w hw _ _ X.warmed
  have h2 : (Cond.codeWith y bytes maxL ret hh).before a A.U = true := hws _ hcode _ _ X.warmed
  have h3 : (Cond.initialized y.cls).before a A.U = true := hinit _ _ X.warmed
  have h4 : A.cells + (headSpec ws rm).room.cells ≤ R.cells := by rw [show (headSpec ws rm).room.cells = mc from hrc]; exact hp.1
  have h5 : A.slots + (headSpec ws rm).room.slots ≤ R.slots := by rw [show (headSpec ws rm).room.slots = ms from hrs]; exact hp.2.1
  have hPc : Pc a (A.U.calling g mk a) := hblind _ _ _ _ hp.2.2
  obtain ⟨U, Ls, c0, s0⟩ := A
  dsimp only [Pt.U, Pt.locs, Pt.cells, Pt.slots] at h1 h2 h3 h4 h5 X hn hPc ⊢
  obtain ⟨m9, methY, cY, hn9, hmY, hcY, -, hlY, -⟩ := Cond.codeWith_spec h2
  cases Option.some.inj (hn9.symm.trans hn)
  obtain ⟨kY, hkY, -⟩ := className_of_methodNamed hn
  have hinitY : kY.init = .initialized := Cond.initialized_spec (findClass_of_methodNamed hn) hkY h3
  have h : At U g.method c below := by rw [hg]; exact X.here
  have hlocals9 : W9 + (maxL + 11) + (headSpec ws rm).room.locals ≤ R.locals := hlocals
  have happ : (headSpec ws rm).appliesLoose y e.platform (U.calling g mk a) = true :=
    Spec.appliesLoose_calling (g := g) h hdg hn hkY hinitY
      (X.room_calling (g := g) (R' := (headSpec ws rm).room) hsize hmY hcY hframes (by rw [hlY]; omega) h4 h5) h1
  obtain ⟨mid, hmid⟩ := h.above
  have hfr : (U.setTop g).frames = (.java g :: mid) ++ below := by rw [State.frames_setTop' g h.top, hmid]; rfl
  obtain ⟨o, s₂, hsteps, -, hend, hq⟩ := Steps.callFree hM p X.admits X.cas X.clock (acts := []) hfr happ hPc trivial
  have hq' : vx_Q Qc XC mc ms free a (U.calling g mk a) o s₂ := hq
  rw [State.frames_setTop' g h.top] at hend
  obtain ⟨g₀, hg0⟩ := Option.isSome_iff_exists.mp h.top
  obtain ⟨r, hr⟩ := State.topJava?_eq_some.mp hg0
  have hr' : (({ U with heap := s₂.heap, slotsUsed := s₂.slotsUsed } : State).setVm s₂.vm).frames = .java g₀ :: r := hr
  rcases hq' with ⟨hqc, L, hfe, hL⟩ | ⟨q, rfl, E, ce, L, hx, hce, hcv, hcl, hW₂, hsm, hL⟩
  · obtain ⟨⟨v, rfl⟩, hW₂, e2, q2, q3, q4, q5, q6⟩ := id hfe
    have e3 : s₂ = ({ (U.calling g mk a).setFrames s₂.frames with heap := s₂.heap, slotsUsed := s₂.slotsUsed } : State).setVm s₂.vm := by
      have : s₂ = ({ s₂ with vm := (U.calling g mk a).vm } : State).setVm s₂.vm := rfl
      rw [e2] at this
      exact this
    obtain ⟨c₂, i₂, len₂, hc₂, hd₂, hf₂⟩ := hend
    have hW' : U.WarmedH s₂.vm := hW₂
    have hcc : c₂ = c := by
      have h1 : s₂.code? g.method = U.code? g.method := by
        rw [State.code?_eq, State.code?_eq, hW'.alike.method?]
      exact Option.some.inj (hc₂.symm.trans (h1.trans h.code))
    subst hcc
    have hlen : len₂ = len := by rw [hdg] at hd₂; cases hd₂; rfl
    subst hlen
    have hs₂ : s₂ = (({ U with heap := s₂.heap, slotsUsed := s₂.slotsUsed } : State).setVm s₂.vm).setTop { g with pc := g.pc + len₂, stack := v.toList ++ g.stack } := by
      refine e3.trans ?_
      rw [hf₂, State.calling_eq h.top, State.setFrames_setFrames, State.setTop_of_frames _ hr', hr]
      rfl
    have hsame : U.sameButNew ({ U with heap := s₂.heap, slotsUsed := s₂.slotsUsed } : State) L mc ms := by
      refine ⟨?_, q2, q3, q4, q5, q6⟩
      obtain ⟨t, ht, -⟩ := State.frames_cons hr
      show ({ U with heap := s₂.heap, slotsUsed := s₂.slotsUsed } : State) = { U.setFrames U.frames with heap := s₂.heap, slotsUsed := s₂.slotsUsed }
      rw [State.setFrames_self ht]
    subst hg
    refine Or.inl ⟨v, ⟨(({ U with heap := s₂.heap, slotsUsed := s₂.slotsUsed } : State).setVm s₂.vm), Ls ++ L, c0 + mc, s0 + ms⟩,
      ⟨X.admits, X.cas, X.clock, X.frames, X.room, X.hears, X.method, X.code, (X.here.setHeapUsed s₂.heap s₂.slotsUsed).setVm hW'.alike, X.tail, State.WarmedH.trans X.warmed hW', X.limits, X.bytes, X.same.trans (hsame.setVm s.vm)⟩,
      ⟨g, mk, s₂, L, rfl, rfl, hqc, rfl, hL, rfl, rfl⟩, ?_⟩
    show Steps p.tables e below _ ((({ U with heap := s₂.heap, slotsUsed := s₂.slotsUsed } : State).setVm s₂.vm).setTop { g with pc := g.pc + len₂, stack := v.toList ++ g.stack })
    rw [← hs₂]
    exact hsteps
  · obtain ⟨e2, q2, q3, q4, q5, q6⟩ := id hsm
    have e3 : s₂ = ({ (U.calling g mk a).setFrames s₂.frames with heap := s₂.heap, slotsUsed := s₂.slotsUsed } : State).setVm s₂.vm := by
      have : s₂ = ({ s₂ with vm := (U.calling g mk a).vm } : State).setVm s₂.vm := rfl
      rw [e2] at this
      exact this
    have hf₂ : s₂.frames = .throwing q :: .java g :: U.frames.tail := hend
    have hW' : U.WarmedH s₂.vm := hW₂
    have hs₂ : s₂ = ((({ U with heap := s₂.heap, slotsUsed := s₂.slotsUsed } : State).setVm s₂.vm).setTop g).pushFrame (.throwing q) := by
      refine e3.trans ?_
      rw [hf₂, State.calling_eq h.top, State.setFrames_setFrames, State.pushFrame, State.frames_setTop _ hr', State.setTop_of_frames _ hr', State.setFrames_setFrames, hr]
      rfl
    have hsame : U.sameButNew ({ U with heap := s₂.heap, slotsUsed := s₂.slotsUsed } : State) L mc ms := by
      refine ⟨?_, q2, q3, q4, q5, q6⟩
      obtain ⟨t, ht, -⟩ := State.frames_cons hr
      show ({ U with heap := s₂.heap, slotsUsed := s₂.slotsUsed } : State) = { U.setFrames U.frames with heap := s₂.heap, slotsUsed := s₂.slotsUsed }
      rw [State.setFrames_self ht]
    subst hg
    refine Or.inr ⟨q, ⟨(({ U with heap := s₂.heap, slotsUsed := s₂.slotsUsed } : State).setVm s₂.vm), Ls ++ L, c0 + mc, s0 + ms⟩,
      ⟨X.admits, X.cas, X.clock, X.frames, X.room, X.hears, X.method, X.code, (X.here.setHeapUsed s₂.heap s₂.slotsUsed).setVm hW'.alike, X.tail, State.WarmedH.trans X.warmed hW', X.limits, X.bytes, X.same.trans (hsame.setVm s.vm)⟩,
      ⟨g, mk, s₂, L, E, ce, rfl, rfl, hx, hce, hcv, hcl, rfl, hL, rfl, rfl⟩, ?_⟩
    show Steps p.tables e below _ (((({ U with heap := s₂.heap, slotsUsed := s₂.slotsUsed } : State).setVm s₂.vm).setTop g).pushFrame (.throwing q))
    rw [← hs₂]
    exact hsteps
end
variable {p : Program} {l : Launch} {e : Env} {R : Room} {s : State} {m : MethodId} {args : Array Value} {below : List Frame} {meth : Method} {c : Code} {T : State} {H : Heap} {locs : List Loc} {cells slots : Nat}
theorem vx_callVX (X : Stand p l e R s m args below meth c T locs cells slots) (hexec : p.tables.exec = Jvm.exec) {own C : String} {index : Nat} {y : MethodName} {bytes : ByteArray} {maxL : Nat} {ret : Option FieldType} {hh : List (Nat × Nat × Nat × Nat)}
    (hown : s.vm.findClass own = some m.cls) (hlink : (Cond.methodLink own index y).before args s = true) (hinst : (Cond.instanceMethod y).before args s = true) (hsel : (Cond.selects C y y).before args s = true)
    (hcode : (Cond.codeWith y bytes maxL ret hh).before args s = true) (hy : y.cls ≠ "java/lang/invoke/MethodHandle" ∧ y.cls ≠ "java/lang/invoke/VarHandle")
    {W9 : Nat} {Pre : Pt → Array Value → Prop} {Post : Pt → Array Value → Option Value → Pt → Prop} {PostX : Pt → Array Value → Addr → Pt → Prop} (hK : vx_Back l R p e below s args y 3 W9 Pre Post PostX)
    {b : Addr} {cellB : Cell} (hcell : T.heap[b]? = some cellB) (hobj : cellB.vm.isStatics = false) (hcls : s.vm.findClass C = some cellB.cls)
    {g : JFrame} (hg : g.method = m) (hsize : g.locals.size = c.maxLocals) {argsL rest : List Value} (hlen : ∀ sig, parseMethodDescriptor y.desc = some sig → argsL.length = sig.parameters.length)
    (hstack : g.stack = argsL.reverse ++ .ref b :: rest) (hW : 2 * g.monitorRoom + (rest.map fun v => v.category).sum ≤ W9) (hdg : decode c.code g.pc = .ok (.invokevirtual index, 3))
    (hpre : ∀ vm₁, s.WarmedH vm₁ → Pre ⟨T.setVm vm₁, locs, cells, slots⟩ (Value.ref b :: argsL).toArray) :
    (∃ (v : Option Value) (vm₁ : Vm) (B : Pt), s.WarmedH vm₁ ∧ Stand p l e R s m args below meth c B.U B.locs B.cells B.slots ∧ Post ⟨T.setVm vm₁, locs, cells, slots⟩ (Value.ref b :: argsL).toArray v B ∧
      ∀ target, Steps p.tables e below (B.U.setTop { g with pc := g.pc + 3, stack := v.toList ++ rest }) target → Steps p.tables e below (T.setTop g) target) ∨
    (∃ (q : Addr) (vm₁ : Vm) (B : Pt), s.WarmedH vm₁ ∧ Stand p l e R s m args below meth c B.U B.locs B.cells B.slots ∧ PostX ⟨T.setVm vm₁, locs, cells, slots⟩ (Value.ref b :: argsL).toArray q B ∧
      Steps p.tables e below (T.setTop g) ((B.U.setTop { g with stack := rest }).pushFrame (.throwing q))) := by
  obtain ⟨mk, methM, hnamed, hmethM, hstM, habM⟩ := Cond.instanceMethod_spec hinst
  obtain ⟨m8, methM', cM, hn8, hmethM', -, -, -, -, -, -, hsigM⟩ := Cond.codeWith_spec hcode
  cases Option.some.inj (hn8.symm.trans hnamed)
  cases hmethM.symm.trans hmethM'
  obtain ⟨c2, r2, m2, q1, q2, q3, q4, kP, hkP, hkPi⟩ := Cond.selects_spec hsel
  cases hcls.symm.trans q1
  cases (State.methodFound?_of_named hnamed hy).symm.trans q2
  cases hnamed.symm.trans q3
  have hselP : selectMethod e.platform s.vm cellB.cls mk = .method mk := by rw [Launch.admits_selectMethod X.admits]; exact q4
  obtain ⟨vm₁, X₁, hstep₁⟩ := X.invokevirtual hexec hown hlink hnamed hmethM hstM hkP hkPi hy (a := b) (cell := cellB) hcell
    (fun z h => by rw [h] at hobj; cases hobj) hselP hmethM habM hkP hkPi (g := g) hg (argsL := argsL) (rest := rest) (hlen _ hsigM) hstack hdg
  rcases hK m meth c ⟨T.setVm vm₁, locs, cells, slots⟩ { g with stack := rest } (.invokevirtual index) mk (Value.ref b :: argsL).toArray X₁ hg hsize hdg hW (X₁.named hnamed) (hpre vm₁ X₁.warmed) with ⟨v, B, X', hpost, hsteps⟩ | ⟨q, B, X', hpost, hsteps⟩
  · exact Or.inl ⟨v, vm₁, B, X₁.warmed, X', hpost, fun target h => hstep₁ _ fun acts => by rw [doInvoke_state]; exact hsteps.trans h⟩
  · exact Or.inr ⟨q, vm₁, B, X₁.warmed, X', hpost, hstep₁ _ fun acts => by rw [doInvoke_state]; exact hsteps⟩
theorem vx_callSX (X : Stand p l e R s m args below meth c T locs cells slots) (hexec : p.tables.exec = Jvm.exec) {own : String} {index : Nat} {y : MethodName} {bytes : ByteArray} {maxL : Nat} {ret : Option FieldType} {hh : List (Nat × Nat × Nat × Nat)}
    (hown : s.vm.findClass own = some m.cls) (hlink : (Cond.methodLink own index y).before args s = true) (hstat : (Cond.static y).before args s = true) (hinit : (Cond.initialized y.cls).before args s = true)
    (hcode : (Cond.codeWith y bytes maxL ret hh).before args s = true) (hy : y.cls ≠ "java/lang/invoke/MethodHandle" ∧ y.cls ≠ "java/lang/invoke/VarHandle")
    {W9 : Nat} {Pre : Pt → Array Value → Prop} {Post : Pt → Array Value → Option Value → Pt → Prop} {PostX : Pt → Array Value → Addr → Pt → Prop} (hK : vx_Back l R p e below s args y 3 W9 Pre Post PostX)
    {g : JFrame} (hg : g.method = m) (hsize : g.locals.size = c.maxLocals) {argsL rest : List Value} (hlen : ∀ sig, parseMethodDescriptor y.desc = some sig → argsL.length = sig.parameters.length)
    (hstack : g.stack = argsL.reverse ++ rest) (hW : 2 * g.monitorRoom + (rest.map fun v => v.category).sum ≤ W9) (hdg : decode c.code g.pc = .ok (.invokestatic index, 3))
    (hpre : ∀ vm₁, s.WarmedH vm₁ → Pre ⟨T.setVm vm₁, locs, cells, slots⟩ argsL.toArray) :
    (∃ (v : Option Value) (vm₁ : Vm) (B : Pt), s.WarmedH vm₁ ∧ Stand p l e R s m args below meth c B.U B.locs B.cells B.slots ∧ Post ⟨T.setVm vm₁, locs, cells, slots⟩ argsL.toArray v B ∧
      ∀ target, Steps p.tables e below (B.U.setTop { g with pc := g.pc + 3, stack := v.toList ++ rest }) target → Steps p.tables e below (T.setTop g) target) ∨
    (∃ (q : Addr) (vm₁ : Vm) (B : Pt), s.WarmedH vm₁ ∧ Stand p l e R s m args below meth c B.U B.locs B.cells B.slots ∧ PostX ⟨T.setVm vm₁, locs, cells, slots⟩ argsL.toArray q B ∧
      Steps p.tables e below (T.setTop g) ((B.U.setTop { g with stack := rest }).pushFrame (.throwing q))) := by
  obtain ⟨mk, methM, cM, hnamed, hmethM, -, -, -, -, -, -, hsigM⟩ := Cond.codeWith_spec hcode
  have hstatic : methM.isStatic = true := Cond.static_spec hnamed hmethM hstat
  obtain ⟨kP, hkP, -⟩ := className_of_methodNamed hnamed
  have hinitP : kP.init = .initialized := Cond.initialized_spec (findClass_of_methodNamed hnamed) hkP hinit
  obtain ⟨vm₁, X₁, hstep₁⟩ := X.invokestatic hexec hown hlink hnamed hmethM hstatic hkP hinitP hy (g := g) hg (argsL := argsL) (rest := rest) (hlen _ hsigM) hstack hdg
  rcases hK m meth c ⟨T.setVm vm₁, locs, cells, slots⟩ { g with stack := rest } (.invokestatic index) mk argsL.toArray X₁ hg hsize hdg hW (X₁.named hnamed) (hpre vm₁ X₁.warmed) with ⟨v, B, X', hpost, hsteps⟩ | ⟨q, B, X', hpost, hsteps⟩
  · exact Or.inl ⟨v, vm₁, B, X₁.warmed, X', hpost, fun target h => hstep₁ _ fun acts => by rw [doInvoke_state]; exact hsteps.trans h⟩
  · exact Or.inr ⟨q, vm₁, B, X₁.warmed, X', hpost, hstep₁ _ fun acts => by rw [doInvoke_state]; exact hsteps⟩
theorem vx_callVW (X : Stand p l e R s m args below meth c T locs cells slots) (hexec : p.tables.exec = Jvm.exec) {own C : String} {index : Nat} {y : MethodName} {bytes : ByteArray} {maxL : Nat} {ret : Option FieldType} {hh : List (Nat × Nat × Nat × Nat)}
    (hown : s.vm.findClass own = some m.cls) (hlink : (Cond.methodLink own index y).before args s = true) (hinst : (Cond.instanceMethod y).before args s = true) (hsel : (Cond.selects C y y).before args s = true)
    (hcode : (Cond.codeWith y bytes maxL ret hh).before args s = true) (hy : y.cls ≠ "java/lang/invoke/MethodHandle" ∧ y.cls ≠ "java/lang/invoke/VarHandle")
    {W9 : Nat} {Pre : Pt → Array Value → Prop} {Post : Pt → Array Value → Option Value → Pt → Prop} (hK : Back l R p e below s args y 3 W9 Pre Post)
    {b : Addr} {cellB : Cell} (hcell : T.heap[b]? = some cellB) (hobj : cellB.vm.isStatics = false) (hcls : s.vm.findClass C = some cellB.cls)
    {g : JFrame} (hg : g.method = m) (hsize : g.locals.size = c.maxLocals) {argsL rest : List Value} (hlen : ∀ sig, parseMethodDescriptor y.desc = some sig → argsL.length = sig.parameters.length)
    (hstack : g.stack = argsL.reverse ++ .ref b :: rest) (hW : 2 * g.monitorRoom + (rest.map fun v => v.category).sum ≤ W9) (hdg : decode c.code g.pc = .ok (.invokevirtual index, 3))
    (hpre : ∀ vm₁, s.WarmedH vm₁ → Pre ⟨T.setVm vm₁, locs, cells, slots⟩ (Value.ref b :: argsL).toArray) :
    ∃ (v : Option Value) (vm₁ : Vm) (B : Pt), s.WarmedH vm₁ ∧ Stand p l e R s m args below meth c B.U B.locs B.cells B.slots ∧ Post ⟨T.setVm vm₁, locs, cells, slots⟩ (Value.ref b :: argsL).toArray v B ∧
      ∀ target, Steps p.tables e below (B.U.setTop { g with pc := g.pc + 3, stack := v.toList ++ rest }) target → Steps p.tables e below (T.setTop g) target := by
  obtain ⟨mk, methM, hnamed, hmethM, hstM, habM⟩ := Cond.instanceMethod_spec hinst
  obtain ⟨m8, methM', cM, hn8, hmethM', -, -, -, -, -, -, hsigM⟩ := Cond.codeWith_spec hcode
  cases Option.some.inj (hn8.symm.trans hnamed)
  cases hmethM.symm.trans hmethM'
  obtain ⟨c2, r2, m2, q1, q2, q3, q4, kP, hkP, hkPi⟩ := Cond.selects_spec hsel
  cases hcls.symm.trans q1
  cases (State.methodFound?_of_named hnamed hy).symm.trans q2
  cases hnamed.symm.trans q3
  have hselP : selectMethod e.platform s.vm cellB.cls mk = .method mk := by rw [Launch.admits_selectMethod X.admits]; exact q4
  obtain ⟨vm₁, X₁, hstep₁⟩ := X.invokevirtual hexec hown hlink hnamed hmethM hstM hkP hkPi hy (a := b) (cell := cellB) hcell
    (fun z h => by rw [h] at hobj; cases hobj) hselP hmethM habM hkP hkPi (g := g) hg (argsL := argsL) (rest := rest) (hlen _ hsigM) hstack hdg
  obtain ⟨v, B, X', hpost, hsteps⟩ := hK m meth c ⟨T.setVm vm₁, locs, cells, slots⟩ { g with stack := rest } (.invokevirtual index) mk (Value.ref b :: argsL).toArray X₁ hg hsize hdg hW (X₁.named hnamed) (hpre vm₁ X₁.warmed)
  exact ⟨v, vm₁, B, X₁.warmed, X', hpost, fun target h => hstep₁ _ fun acts => by rw [doInvoke_state]; exact hsteps.trans h⟩
abbrev vx_CVW (R : Room) (s : State) (args : Array Value) (own C : String) (index : Nat) (y : MethodName) (bytes : ByteArray) (maxL : Nat) (ret : Option FieldType) (hh : List (Nat × Nat × Nat × Nat)) (ws : List Cond) (rm : Room) (mc ms n : Nat) : Prop :=
  (rm.cells = mc ∧ rm.slots = ms ∧ rm.frames + 1 ≤ R.frames ∧ 8 + (maxL + 11) + rm.locals ≤ R.locals ∧ (∀ w ∈ ws, ∀ (a' : Array Value) (U : State), s.WarmedH U.vm → w.before a' U = true) ∧ Cond.codeWith y bytes maxL ret hh ∈ ws) ∧
  (Cond.codeWith y bytes maxL ret hh).before args s = true ∧ (Cond.initialized y.cls).before args s = true ∧ (y.cls ≠ "java/lang/invoke/MethodHandle" ∧ y.cls ≠ "java/lang/invoke/VarHandle") ∧
  (∀ sig, parseMethodDescriptor y.desc = some sig → n = sig.parameters.length) ∧ (Cond.methodLink own index y).before args s = true ∧ (Cond.instanceMethod y).before args s = true ∧ (Cond.selects C y y).before args s = true
theorem vx_cwVW {own C : String} {index maxL mc ms : Nat} {y : MethodName} {bytes : ByteArray} {ret : Option FieldType} {hh : List (Nat × Nat × Nat × Nat)} {Ts ws ws' : List Cond} {rm : Room} (n : Nat) (ht : ∀ w ∈ Ts, w.before args s = true) (hT : GoodIn Ts (wsV own index C y ws)) (hw : ws = Cond.codeWith y bytes maxL ret hh :: ws') (hrc : rm.cells = mc) (hrs : rm.slots = ms)
    (hd : y.cls = C ∧ y.cls ≠ "java/lang/invoke/MethodHandle" ∧ y.cls ≠ "java/lang/invoke/VarHandle" ∧ (parseMethodDescriptor y.desc).map (fun d => d.parameters.length) = some n) (hR : rm.frames + 1 ≤ R.frames ∧ 8 + (maxL + 11) + rm.locals ≤ R.locals) :
    vx_CVW R s args own C index y bytes maxL ret hh ws rm mc ms n := by
  obtain ⟨hC, hd⟩ := hd
  subst hC
  have ok : ∀ w ∈ wsV own index y.cls y ws, w.before args s = true := fun w h => ht w (hT w h).1
  have hG : GoodIn Ts ws := fun w h => hT w (by unfold wsV; exact List.mem_append_right _ h)
  have hc : Cond.codeWith y bytes maxL ret hh ∈ ws := by rw [hw]; exact List.mem_cons_self
  refine ⟨⟨hrc, hrs, hR.1, hR.2, pay_in ht hG, hc⟩, ht _ (hG _ hc).1, ok _ (by simp [wsV]), ⟨hd.1, hd.2.1⟩, fun sig h => ?_, ok _ (by simp [wsV]), ok _ (by simp [wsV]), ok _ (by simp [wsV])⟩
  have h2 := hd.2.2
  rw [h] at h2
  exact (Option.some.inj h2).symm
theorem vx_runVW {y : MethodName} {bytes cc : ByteArray} {maxL nL mc ms n index : Nat} {ret : Option FieldType} {hh : List (Nat × Nat × Nat × Nat)} {ws : List Cond} {rm : Room} {Pc : Array Value → State → Prop} {Qc : Array Value → State → Outcome → State → Prop} {free : Addr → Prop} {Ts : List Cond} {own C : String} {b : Addr} {As rest : List Value} {g : JFrame}
    (S : CallFix p m c cc nL s args Ts own) (hM : Met l y ws rm Pc Qc mc ms free) (cw : vx_CVW R s args own C index y bytes maxL ret hh ws rm mc ms n) (hp : PreV s H C b Pc As)
    (hg : g.method = m) (hn : As.length = n) (hsize : g.locals.size = nL) (hstack : g.stack = As.reverse ++ .ref b :: rest) (hW : 2 * g.monitorRoom + (rest.map fun v => v.category).sum ≤ 8) (hdg : decode cc g.pc = .ok (.invokevirtual index, 3)) (hf : cells + mc ≤ R.cells ∧ slots + ms ≤ R.slots) :
    va_Run p l e R s m args below meth c H locs cells slots mc ms g rest (Qc (Value.ref b :: As).toArray) free := by
  obtain ⟨⟨hrc, hrs, hfr, hlo, hws, hcw⟩, hcode, hini, hy, hlen, hl, hin, hse⟩ := cw
  have hK : Back l R p e below s args y 3 8 (PreOf R mc ms Pc) (PostOf Qc mc ms free) := va_backW (hh := hh) (bytes := bytes) (maxL := maxL) (ret := ret) hM hp.1 hrc hrs hfr hlo hws hcw (fun a' U hW => word_at hW (Or.inl (by first | rfl | simp [Cond.onTables, Cond.keeps, Cond.steady])) hini)
  obtain ⟨hx, hb, hml, ho, -⟩ := S
  obtain ⟨-, ⟨cellB, hcB, hoB, hclB⟩, hPc⟩ := hp
  intro T hT X
  obtain ⟨v, vm₁, ⟨U', l2, c2, s2⟩, hW₁, X', ⟨g', mk, t, L, e1, e2, hq, h1, hL, h2, h3⟩, st⟩ := vx_callVW X hx (C := C) (hh := hh) (bytes := bytes) (maxL := maxL) (ret := ret) ho hl hin hse hcode hy hK (by rw [hT]; exact hcB) hoB hclB hg (hsize.trans hml.symm) (argsL := As) (rest := rest) (fun sig h => hn.trans (hlen sig h)) hstack hW (by rw [hb]; exact hdg)
    (fun vm₁ hW₁ => ⟨hf.1, hf.2, hPc (T.setVm vm₁) hT hW₁⟩)
  dsimp only [Pt.U, Pt.locs, Pt.cells, Pt.slots] at X' e1 e2 h1 h2 h3 st
  subst h1; subst h2; subst h3
  exact ⟨v, (T.setVm vm₁).calling g' mk (Value.ref b :: As).toArray, t, U', L, hT, X', hL, e1, e2, hq, st⟩
section
variable {y : MethodName} {bytes cc : ByteArray} {maxL nL mc ms n index : Nat} {ret : Option FieldType} {ws : List Cond} {rm : Room} {Pc : Array Value → State → Prop} {Qc : Array Value → State → Outcome → State → Prop} {XC : String → State → State → Prop} {free : Addr → Prop} {Ts : List Cond} {own C : String} {b : Addr} {As rest : List Value} {g : JFrame}
theorem vx_runVX {hh : List (Nat × Nat × Nat × Nat)} (S : CallFix p m c cc nL s args Ts own) (hM : vx_Met l y ws rm Pc Qc XC mc ms free) (cw : vx_CVW R s args own C index y bytes maxL ret hh ws rm mc ms n) (hp : PreV s H C b Pc As)
    (hg : g.method = m) (hn : As.length = n) (hsize : g.locals.size = nL) (hstack : g.stack = As.reverse ++ .ref b :: rest) (hW : 2 * g.monitorRoom + (rest.map fun v => v.category).sum ≤ 8) (hdg : decode cc g.pc = .ok (.invokevirtual index, 3)) (hf : cells + mc ≤ R.cells ∧ slots + ms ≤ R.slots) :
    vx_Run p l e R s m args below meth c H locs cells slots mc ms g rest (Qc (Value.ref b :: As).toArray) XC free := by
  obtain ⟨⟨hrc, hrs, hfr, hlo, hws, hcw⟩, hcode, hini, hy, hlen, hl, hin, hse⟩ := cw
  have hK : vx_Back l R p e below s args y 3 8 (PreOf R mc ms Pc) (PostOf Qc mc ms free) (vx_Post XC mc ms free) := vx_backW (hh := hh) (bytes := bytes) (maxL := maxL) (ret := ret) hM hp.1 hrc hrs hfr hlo hws hcw (fun a' U hW => word_at hW (Or.inl (by first | rfl | simp [Cond.onTables, Cond.keeps, Cond.steady])) hini)
  obtain ⟨hx, hb, hml, ho, -⟩ := S
  obtain ⟨-, ⟨cellB, hcB, hoB, hclB⟩, hPc⟩ := hp
  intro T hT X
  rcases vx_callVX X hx (C := C) (hh := hh) (bytes := bytes) (maxL := maxL) (ret := ret) ho hl hin hse hcode hy hK (by rw [hT]; exact hcB) hoB hclB hg (hsize.trans hml.symm) (argsL := As) (rest := rest) (fun sig h => hn.trans (hlen sig h)) hstack hW (by rw [hb]; exact hdg)
    (fun vm₁ hW₁ => ⟨hf.1, hf.2, hPc (T.setVm vm₁) hT hW₁⟩) with ⟨v, vm₁, ⟨U', l2, c2, s2⟩, hW₁, X', ⟨g', mk, t, L, e1, e2, hq, h1, hL, h2, h3⟩, st⟩ | ⟨q, vm₁, ⟨U', l2, c2, s2⟩, hW₁, X', ⟨g', mk, t, L, E, ce, e1, e2, hq, hce, hcv, hcl, h1, hL, h2, h3⟩, st⟩
  · dsimp only [Pt.U, Pt.locs, Pt.cells, Pt.slots] at X' e1 e2 h1 h2 h3 st
    subst h1; subst h2; subst h3
    exact Or.inl ⟨v, (T.setVm vm₁).calling g' mk (Value.ref b :: As).toArray, t, U', L, hT, X', hL, e1, e2, hq, st⟩
  · dsimp only [Pt.U, Pt.locs, Pt.cells, Pt.slots] at X' e1 e2 h1 h2 h3 st hcl
    subst h1; subst h2; subst h3
    exact Or.inr ⟨q, (T.setVm vm₁).calling g' mk (Value.ref b :: As).toArray, t, U', L, E, ce, hT, X', hL, e1, e2, hq, hce, hcv, vx_cls hW₁ hcl, st⟩
theorem vx_runSX {hh : List (Nat × Nat × Nat × Nat)} (S : CallFix p m c cc nL s args Ts own) (hM : vx_Met l y ws rm Pc Qc XC mc ms free) (cw : vx_CSW R s args own index y bytes maxL ret hh ws rm mc ms n) (hp : PreS s H Pc As)
    (hg : g.method = m) (hn : As.length = n) (hsize : g.locals.size = nL) (hstack : g.stack = As.reverse ++ rest) (hW : 2 * g.monitorRoom + (rest.map fun v => v.category).sum ≤ 8) (hdg : decode cc g.pc = .ok (.invokestatic index, 3)) (hf : cells + mc ≤ R.cells ∧ slots + ms ≤ R.slots) :
    vx_Run p l e R s m args below meth c H locs cells slots mc ms g rest (Qc As.toArray) XC free := by
  obtain ⟨⟨hrc, hrs, hfr, hlo, hws, hcw⟩, hcode, hini, hy, hlen, hl, hstt⟩ := cw
  have hK : vx_Back l R p e below s args y 3 8 (PreOf R mc ms Pc) (PostOf Qc mc ms free) (vx_Post XC mc ms free) := vx_backW (hh := hh) (bytes := bytes) (maxL := maxL) (ret := ret) hM hp.1 hrc hrs hfr hlo hws hcw (fun a' U hW => word_at hW (Or.inl (by first | rfl | simp [Cond.onTables, Cond.keeps, Cond.steady])) hini)
  obtain ⟨hx, hb, hml, ho, -⟩ := S
  intro T hT X
  rcases vx_callSX X hx (hh := hh) (bytes := bytes) (maxL := maxL) (ret := ret) ho hl hstt hini hcode hy hK hg (hsize.trans hml.symm) (argsL := As) (rest := rest) (fun sig h => hn.trans (hlen sig h)) hstack hW (by rw [hb]; exact hdg)
    (fun vm₁ hW₁ => ⟨hf.1, hf.2, hp.2 (T.setVm vm₁) hT hW₁⟩) with ⟨v, vm₁, ⟨U', l2, c2, s2⟩, hW₁, X', ⟨g', mk, t, L, e1, e2, hq, h1, hL, h2, h3⟩, st⟩ | ⟨q, vm₁, ⟨U', l2, c2, s2⟩, hW₁, X', ⟨g', mk, t, L, E, ce, e1, e2, hq, hce, hcv, hcl, h1, hL, h2, h3⟩, st⟩
  · dsimp only [Pt.U, Pt.locs, Pt.cells, Pt.slots] at X' e1 e2 h1 h2 h3 st
    subst h1; subst h2; subst h3
    exact Or.inl ⟨v, (T.setVm vm₁).calling g' mk As.toArray, t, U', L, hT, X', hL, e1, e2, hq, st⟩
  · dsimp only [Pt.U, Pt.locs, Pt.cells, Pt.slots] at X' e1 e2 h1 h2 h3 st hcl
    subst h1; subst h2; subst h3
    exact Or.inr ⟨q, (T.setVm vm₁).calling g' mk As.toArray, t, U', L, E, ce, hT, X', hL, e1, e2, hq, hce, hcv, vx_cls hW₁ hcl, st⟩
end
end VXH
theorem vx_ofWH {l : Launch} {y : MethodName} {ws ws' : List Cond} {rm : Room} {Pc : Array Value → State → Prop} {Qc : Array Value → State → Outcome → State → Prop} {XC : String → State → State → Prop} {mc ms : Nat} {free : Addr → Prop} {cc : ByteArray} {maxL : Nat} {ret : Option FieldType} {hh : List (Nat × Nat × Nat × Nat)}
    (hy : plainName y.cls = true) (hw : ws = Cond.codeWith y cc maxL ret hh :: ws')
    (body : ∀ p e s m args below meth c s₁, BodyLoose p l y (headSpec ws rm) cc maxL ret e s m args below meth c s₁ → c.maxLocals = maxL → Pc args s →
      W p l e (headSpec ws rm).room s m args below meth c s.heap [] 0 0 (vx_MQ below Qc XC args s mc ms free) (entryFrame m args maxL)) : vx_Met l y ws rm Pc Qc XC mc ms free := by
  refine MetFree.of_bodyS (code := cc) (maxLocals := maxL) (ret := ret) hy ?_ ?_
  · intro args s m h hn
    obtain ⟨m9, meth, c, hn9, h1, h2, h3, h4, -, h5, h6, -⟩ := Cond.codeWith_spec (atoms_spec (ws := ws) h _ (by rw [hw]; exact List.mem_cons_self))
    cases hn.symm.trans hn9
    exact ⟨meth, c, h1, h2, h3, h4, h5, h6⟩
  · intro p e s m args below meth c s₁ B hml hP _
    have hh0 : s₁.heap = s.heap := by rw [B.state]; rfl
    obtain ⟨t, a1, o, b1, b2, b3⟩ := body p e s m args below meth c s₁ B hml hP s₁ hh0 (Stand.of_body B)
    exact ⟨t, o, a1, b1, b2, b3⟩
/-! ===== END ===== -/
end
section
/-! ===== BEGIN printed: names, fields, word lists, decode rows ===== -/
def RX0 : String := "Bytewell$Gatherer"
def TX0 : u_T := fun k => match k with
  | 0 => ("Bytewell$Gatherer", "kept", "LBytewell$Row;", true)
  | _ => ("Bytewell$Gatherer", "count", "I", false)
def tyX0 : Nat → FieldType := fun k => match k with
  | 0 => .object "Bytewell$Row"
  | _ => .int
abbrev wsX00 : List Cond := u_ws RX0 TX0 2
theorem nmX0 : ∀ a, a < 2 → ∀ b, b < 2 → a ≠ b → (TX0 a).2.1 ≠ (TX0 b).2.1 := by decide +kernel
theorem tyX0_ok : ∀ k, k < 2 → parseFieldDescriptor (TX0 k).2.2.1 = some (tyX0 k) := by decide +kernel
abbrev cX0_init : ByteArray := prog_2_method_1_code
def yX0_init : MethodName := ⟨RX0, "<init>", "()V"⟩
abbrev cX0_count : ByteArray := prog_2_method_2_code
def yX0_count : MethodName := ⟨RX0, "count", "()I"⟩
abbrev cX0_room : ByteArray := prog_2_method_3_code
def yX0_room : MethodName := ⟨RX0, "room", "()I"⟩
abbrev cX0_numberAt : ByteArray := prog_2_method_4_code
def yX0_numberAt : MethodName := ⟨RX0, "numberAt", "(I)I"⟩
abbrev cX0_gather : ByteArray := prog_2_method_5_code
def yX0_gather : MethodName := ⟨RX0, "gather", "(I)V"⟩
abbrev cX0_gatherPart : ByteArray := prog_2_method_6_code
def yX0_gatherPart : MethodName := ⟨RX0, "gatherPart", "(LBytewell$Row;II)V"⟩
abbrev cX0_clear : ByteArray := prog_2_method_7_code
def yX0_clear : MethodName := ⟨RX0, "clear", "()V"⟩
abbrev cX0_copy : ByteArray := prog_2_method_8_code
def yX0_copy : MethodName := ⟨RX0, "copy", "()LBytewell$Row;"⟩
abbrev cX0_addedTo : ByteArray := prog_2_method_9_code
def yX0_addedTo : MethodName := ⟨RX0, "addedTo", "(J)J"⟩
def RX1 : String := "Bytewell$Reader"
def TX1 : u_T := fun k => match k with
  | 0 => ("Bytewell$Reader", "row", "LBytewell$Row;", false)
  | 1 => ("Bytewell$Reader", "started", "Z", false)
  | 2 => ("Bytewell$Reader", "place", "I", false)
  | 3 => ("Bytewell$Reader", "markedPlace", "I", false)
  | 4 => ("Bytewell$Reader", "told", "I", false)
  | _ => ("Bytewell$Reader", "markedTold", "I", false)
def tyX1 : Nat → FieldType := fun k => match k with
  | 0 => .object "Bytewell$Row"
  | 1 => .boolean
  | 2 => .int
  | 3 => .int
  | 4 => .int
  | _ => .int
abbrev wsX10 : List Cond := u_ws RX1 TX1 6
theorem nmX1 : ∀ a, a < 6 → ∀ b, b < 6 → a ≠ b → (TX1 a).2.1 ≠ (TX1 b).2.1 := by decide +kernel
theorem tyX1_ok : ∀ k, k < 6 → parseFieldDescriptor (TX1 k).2.2.1 = some (tyX1 k) := by decide +kernel
abbrev cX1_init : ByteArray := prog_3_method_1_code
def yX1_init : MethodName := ⟨RX1, "<init>", "()V"⟩
abbrev cX1_start : ByteArray := prog_3_method_2_code
def yX1_start : MethodName := ⟨RX1, "start", "(LBytewell$Row;)V"⟩
abbrev cX1_isStarted : ByteArray := prog_3_method_3_code
def yX1_isStarted : MethodName := ⟨RX1, "isStarted", "()Z"⟩
abbrev cX1_isOver : ByteArray := prog_3_method_4_code
def yX1_isOver : MethodName := ⟨RX1, "isOver", "(LBytewell$Row;)Z"⟩
abbrev cX1_whole : ByteArray := prog_3_method_5_code
def yX1_whole : MethodName := ⟨RX1, "whole", "()I"⟩
abbrev cX1_remaining : ByteArray := prog_3_method_6_code
def yX1_remaining : MethodName := ⟨RX1, "remaining", "()I"⟩
abbrev cX1_tell : ByteArray := prog_3_method_7_code
def yX1_tell : MethodName := ⟨RX1, "tell", "(I)I"⟩
abbrev cX1_hasToldAll : ByteArray := prog_3_method_8_code
def yX1_hasToldAll : MethodName := ⟨RX1, "hasToldAll", "()Z"⟩
abbrev cX1_setMark : ByteArray := prog_3_method_9_code
def yX1_setMark : MethodName := ⟨RX1, "setMark", "()V"⟩
abbrev cX1_goBack : ByteArray := prog_3_method_10_code
def yX1_goBack : MethodName := ⟨RX1, "goBack", "()V"⟩
abbrev cX1_peek : ByteArray := prog_3_method_11_code
def yX1_peek : MethodName := ⟨RX1, "peek", "()I"⟩
abbrev cX1_next : ByteArray := prog_3_method_12_code
def yX1_next : MethodName := ⟨RX1, "next", "()I"⟩
abbrev cX1_asManyAs : ByteArray := prog_3_method_13_code
def yX1_asManyAs : MethodName := ⟨RX1, "asManyAs", "(J)I"⟩
abbrev cX1_pass : ByteArray := prog_3_method_14_code
def yX1_pass : MethodName := ⟨RX1, "pass", "(J)I"⟩
abbrev cX1_distanceTo : ByteArray := prog_3_method_15_code
def yX1_distanceTo : MethodName := ⟨RX1, "distanceTo", "(I)I"⟩
abbrev cX1_moveInto : ByteArray := prog_3_method_16_code
def yX1_moveInto : MethodName := ⟨RX1, "moveInto", "(LBytewell$Row;II)I"⟩
abbrev cX1_nextRow : ByteArray := prog_3_method_17_code
def yX1_nextRow : MethodName := ⟨RX1, "nextRow", "(I)LBytewell$Row;"⟩
abbrev cX1_pourInto : ByteArray := prog_3_method_18_code
def yX1_pourInto : MethodName := ⟨RX1, "pourInto", "(LBytewell$Gatherer;I)I"⟩
def RX2 : String := "Bytewell$Row"
def TX2 : u_T := fun k => match k with
  | _ => ("Bytewell$Row", "bytes", "[B", true)
def tyX2 : Nat → FieldType := fun k => match k with
  | _ => .array .byte
abbrev wsX20 : List Cond := u_ws RX2 TX2 1
theorem nmX2 : ∀ a, a < 1 → ∀ b, b < 1 → a ≠ b → (TX2 a).2.1 ≠ (TX2 b).2.1 := by decide +kernel
theorem tyX2_ok : ∀ k, k < 1 → parseFieldDescriptor (TX2 k).2.2.1 = some (tyX2 k) := by decide +kernel
abbrev cX2_init : ByteArray := prog_4_method_1_code
def yX2_init : MethodName := ⟨RX2, "<init>", "(I)V"⟩
abbrev cX2_count : ByteArray := prog_4_method_2_code
def yX2_count : MethodName := ⟨RX2, "count", "()I"⟩
abbrev cX2_has : ByteArray := prog_4_method_3_code
def yX2_has : MethodName := ⟨RX2, "has", "(I)Z"⟩
abbrev cX2_byteAt : ByteArray := prog_4_method_4_code
def yX2_byteAt : MethodName := ⟨RX2, "byteAt", "(I)I"⟩
abbrev cX2_exchange : ByteArray := prog_4_method_5_code
def yX2_exchange : MethodName := ⟨RX2, "exchange", "(II)I"⟩
abbrev cX2_hasPart : ByteArray := prog_4_method_6_code
def yX2_hasPart : MethodName := ⟨RX2, "hasPart", "(II)Z"⟩
abbrev cX2_copyTo : ByteArray := prog_4_method_7_code
def yX2_copyTo : MethodName := ⟨RX2, "copyTo", "(LBytewell$Row;III)V"⟩
abbrev cX2_addedTo : ByteArray := prog_4_method_8_code
def yX2_addedTo : MethodName := ⟨RX2, "addedTo", "(JI)J"⟩
def RX3 : String := "Bytewell"
def TX3 : u_T := fun k => match k with
  | 0 => ("Bytewell", "rows", "[LBytewell$Row;", true)
  | 1 => ("Bytewell", "gatherers", "[LBytewell$Gatherer;", true)
  | 2 => ("Bytewell", "readers", "[LBytewell$Reader;", true)
  | 3 => ("Bytewell", "trialReader", "LBytewell$Reader;", true)
  | _ => ("Bytewell", "trialGatherer", "LBytewell$Gatherer;", true)
def tyX3 : Nat → FieldType := fun k => match k with
  | 0 => .array (.object "Bytewell$Row")
  | 1 => .array (.object "Bytewell$Gatherer")
  | 2 => .array (.object "Bytewell$Reader")
  | 3 => .object "Bytewell$Reader"
  | _ => .object "Bytewell$Gatherer"
abbrev wsX30 : List Cond := u_ws RX3 TX3 5
theorem nmX3 : ∀ a, a < 5 → ∀ b, b < 5 → a ≠ b → (TX3 a).2.1 ≠ (TX3 b).2.1 := by decide +kernel
theorem tyX3_ok : ∀ k, k < 5 → parseFieldDescriptor (TX3 k).2.2.1 = some (tyX3 k) := by decide +kernel
abbrev cX3_init : ByteArray := prog_1_method_1_code
def yX3_init : MethodName := ⟨RX3, "<init>", "()V"⟩
abbrev cX3_make : ByteArray := prog_1_method_2_code
def yX3_make : MethodName := ⟨RX3, "make", "(II)I"⟩
abbrev cX3_lend : ByteArray := prog_1_method_3_code
def yX3_lend : MethodName := ⟨RX3, "lend", "(II)I"⟩
abbrev cX3_length : ByteArray := prog_1_method_4_code
def yX3_length : MethodName := ⟨RX3, "length", "(I)I"⟩
abbrev cX3_get : ByteArray := prog_1_method_5_code
def yX3_get : MethodName := ⟨RX3, "get", "(II)I"⟩
abbrev cX3_put : ByteArray := prog_1_method_6_code
def yX3_put : MethodName := ⟨RX3, "put", "(III)I"⟩
abbrev cX3_fill : ByteArray := prog_1_method_7_code
def yX3_fill : MethodName := ⟨RX3, "fill", "(IIIII)I"⟩
abbrev cX3_isLike : ByteArray := prog_1_method_8_code
def yX3_isLike : MethodName := ⟨RX3, "isLike", "(II)Z"⟩
abbrev cX3_write : ByteArray := prog_1_method_9_code
def yX3_write : MethodName := ⟨RX3, "write", "(II)I"⟩
abbrev cX3_writePart : ByteArray := prog_1_method_10_code
def yX3_writePart : MethodName := ⟨RX3, "writePart", "(IIII)I"⟩
abbrev cX3_writeRow : ByteArray := prog_1_method_11_code
def yX3_writeRow : MethodName := ⟨RX3, "writeRow", "(II)I"⟩
abbrev cX3_writeNumber : ByteArray := prog_1_method_12_code
def yX3_writeNumber : MethodName := ⟨RX3, "writeNumber", "(II)I"⟩
abbrev cX3_size : ByteArray := prog_1_method_13_code
def yX3_size : MethodName := ⟨RX3, "size", "(I)I"⟩
abbrev cX3_empty : ByteArray := prog_1_method_14_code
def yX3_empty : MethodName := ⟨RX3, "empty", "(I)I"⟩
abbrev cX3_take : ByteArray := prog_1_method_15_code
def yX3_take : MethodName := ⟨RX3, "take", "(II)I"⟩
abbrev cX3_open : ByteArray := prog_1_method_16_code
def yX3_open : MethodName := ⟨RX3, "open", "(II)I"⟩
abbrev cX3_isOpen : ByteArray := prog_1_method_17_code
def yX3_isOpen : MethodName := ⟨RX3, "isOpen", "(I)Z"⟩
abbrev cX3_read : ByteArray := prog_1_method_18_code
def yX3_read : MethodName := ⟨RX3, "read", "(I)I"⟩
abbrev cX3_readPart : ByteArray := prog_1_method_19_code
def yX3_readPart : MethodName := ⟨RX3, "readPart", "(IIII)I"⟩
abbrev cX3_readFull : ByteArray := prog_1_method_20_code
def yX3_readFull : MethodName := ⟨RX3, "readFull", "(IIII)I"⟩
abbrev cX3_readSome : ByteArray := prog_1_method_21_code
def yX3_readSome : MethodName := ⟨RX3, "readSome", "(III)I"⟩
abbrev cX3_readNumber : ByteArray := prog_1_method_22_code
def yX3_readNumber : MethodName := ⟨RX3, "readNumber", "(I)I"⟩
abbrev cX3_readLine : ByteArray := prog_1_method_23_code
def yX3_readLine : MethodName := ⟨RX3, "readLine", "(II)I"⟩
abbrev cX3_find : ByteArray := prog_1_method_24_code
def yX3_find : MethodName := ⟨RX3, "find", "(II)I"⟩
abbrev cX3_skip : ByteArray := prog_1_method_25_code
def yX3_skip : MethodName := ⟨RX3, "skip", "(IJ)J"⟩
abbrev cX3_left : ByteArray := prog_1_method_26_code
def yX3_left : MethodName := ⟨RX3, "left", "(I)I"⟩
abbrev cX3_mark : ByteArray := prog_1_method_27_code
def yX3_mark : MethodName := ⟨RX3, "mark", "(II)I"⟩
abbrev cX3_back : ByteArray := prog_1_method_28_code
def yX3_back : MethodName := ⟨RX3, "back", "(I)I"⟩
abbrev cX3_pour : ByteArray := prog_1_method_29_code
def yX3_pour : MethodName := ⟨RX3, "pour", "(II)I"⟩
abbrev cX3_pourParts : ByteArray := prog_1_method_30_code
def yX3_pourParts : MethodName := ⟨RX3, "pourParts", "(III)I"⟩
abbrev cX3_alike : ByteArray := prog_1_method_31_code
def yX3_alike : MethodName := ⟨RX3, "alike", "(II)I"⟩
abbrev cX3_leftShare : ByteArray := prog_1_method_32_code
def yX3_leftShare : MethodName := ⟨RX3, "leftShare", "(I)F"⟩
abbrev cX3_meanSize : ByteArray := prog_1_method_33_code
def yX3_meanSize : MethodName := ⟨RX3, "meanSize", "()D"⟩
abbrev cX3_checksum : ByteArray := prog_1_method_34_code
def yX3_checksum : MethodName := ⟨RX3, "checksum", "()J"⟩
abbrev cX3_isTrue : ByteArray := prog_1_method_35_code
def yX3_isTrue : MethodName := ⟨RX3, "isTrue", "()Z"⟩
abbrev cX3_isReadBack : ByteArray := prog_1_method_36_code
def yX3_isReadBack : MethodName := ⟨RX3, "isReadBack", "(LBytewell$Gatherer;)Z"⟩
abbrev cX3_isPouredBack : ByteArray := prog_1_method_37_code
def yX3_isPouredBack : MethodName := ⟨RX3, "isPouredBack", "(LBytewell$Gatherer;)Z"⟩
abbrev cX3_pourByParts : ByteArray := prog_1_method_38_code
def yX3_pourByParts : MethodName := ⟨RX3, "pourByParts", "(LBytewell$Reader;LBytewell$Gatherer;I)I"⟩
abbrev cX3_needRow : ByteArray := prog_1_method_39_code
def yX3_needRow : MethodName := ⟨RX3, "needRow", "(I)V"⟩
abbrev cX3_rowAt : ByteArray := prog_1_method_40_code
def yX3_rowAt : MethodName := ⟨RX3, "rowAt", "(I)LBytewell$Row;"⟩
abbrev cX3_gathererAt : ByteArray := prog_1_method_41_code
def yX3_gathererAt : MethodName := ⟨RX3, "gathererAt", "(I)LBytewell$Gatherer;"⟩
abbrev cX3_readerAt : ByteArray := prog_1_method_42_code
def yX3_readerAt : MethodName := ⟨RX3, "readerAt", "(I)LBytewell$Reader;"⟩
abbrev cX3_needPlaces : ByteArray := prog_1_method_43_code
def yX3_needPlaces : MethodName := ⟨RX3, "needPlaces", "(LBytewell$Row;II)V"⟩
abbrev cX3_needRoom : ByteArray := prog_1_method_44_code
def yX3_needRoom : MethodName := ⟨RX3, "needRoom", "(LBytewell$Gatherer;I)V"⟩
abbrev cX3_needWanted : ByteArray := prog_1_method_45_code
def yX3_needWanted : MethodName := ⟨RX3, "needWanted", "(J)V"⟩
abbrev cX3_needOpen : ByteArray := prog_1_method_46_code
def yX3_needOpen : MethodName := ⟨RX3, "needOpen", "(LBytewell$Reader;)V"⟩
def RX4 : String := "BytewellModel"
def TX4 : u_T := fun k => match k with
  | 0 => ("BytewellModel", "bytes", "[I", false)
  | 1 => ("BytewellModel", "lengths", "[I", false)
  | 2 => ("BytewellModel", "rooms", "[I", false)
  | 3 => ("BytewellModel", "reads", "[I", false)
  | 4 => ("BytewellModel", "places", "[I", false)
  | 5 => ("BytewellModel", "marks", "[I", false)
  | 6 => ("BytewellModel", "gathered", "[I", false)
  | 7 => ("BytewellModel", "sizes", "[I", false)
  | 8 => ("BytewellModel", "kept", "[I", false)
  | _ => ("BytewellModel", "thrown", "I", false)
def tyX4 : Nat → FieldType := fun k => match k with
  | 0 => .array .int
  | 1 => .array .int
  | 2 => .array .int
  | 3 => .array .int
  | 4 => .array .int
  | 5 => .array .int
  | 6 => .array .int
  | 7 => .array .int
  | 8 => .array .int
  | _ => .int
abbrev wsX40 : List Cond := u_ws RX4 TX4 10
theorem nmX4 : ∀ a, a < 10 → ∀ b, b < 10 → a ≠ b → (TX4 a).2.1 ≠ (TX4 b).2.1 := by decide +kernel
theorem tyX4_ok : ∀ k, k < 10 → parseFieldDescriptor (TX4 k).2.2.1 = some (tyX4 k) := by decide +kernel
abbrev cX4_init : ByteArray := prog_6_method_1_code
def yX4_init : MethodName := ⟨RX4, "<init>", "()V"⟩
abbrev cX4_thrown : ByteArray := prog_6_method_2_code
def yX4_thrown : MethodName := ⟨RX4, "thrown", "()I"⟩
abbrev cX4_isWrong : ByteArray := prog_6_method_3_code
def yX4_isWrong : MethodName := ⟨RX4, "isWrong", "(I)Z"⟩
abbrev cX4_lesser : ByteArray := prog_6_method_4_code
def yX4_lesser : MethodName := ⟨RX4, "lesser", "(II)I"⟩
abbrev cX4_low : ByteArray := prog_6_method_5_code
def yX4_low : MethodName := ⟨RX4, "low", "(I)I"⟩
abbrev cX4_isRow : ByteArray := prog_6_method_6_code
def yX4_isRow : MethodName := ⟨RX4, "isRow", "(I)Z"⟩
abbrev cX4_isOther : ByteArray := prog_6_method_7_code
def yX4_isOther : MethodName := ⟨RX4, "isOther", "(I)Z"⟩
abbrev cX4_long0 : ByteArray := prog_6_method_8_code
def yX4_long0 : MethodName := ⟨RX4, "long0", "(I)I"⟩
abbrev cX4_isPart : ByteArray := prog_6_method_9_code
def yX4_isPart : MethodName := ⟨RX4, "isPart", "(III)Z"⟩
abbrev cX4_free : ByteArray := prog_6_method_10_code
def yX4_free : MethodName := ⟨RX4, "free", "()I"⟩
abbrev cX4_becomes : ByteArray := prog_6_method_11_code
def yX4_becomes : MethodName := ⟨RX4, "becomes", "(II)V"⟩
abbrev cX4_make : ByteArray := prog_6_method_12_code
def yX4_make : MethodName := ⟨RX4, "make", "(II)I"⟩
abbrev cX4_lend : ByteArray := prog_6_method_13_code
def yX4_lend : MethodName := ⟨RX4, "lend", "(II)I"⟩
abbrev cX4_length : ByteArray := prog_6_method_14_code
def yX4_length : MethodName := ⟨RX4, "length", "(I)I"⟩
abbrev cX4_get : ByteArray := prog_6_method_15_code
def yX4_get : MethodName := ⟨RX4, "get", "(II)I"⟩
abbrev cX4_put : ByteArray := prog_6_method_16_code
def yX4_put : MethodName := ⟨RX4, "put", "(III)I"⟩
abbrev cX4_fill : ByteArray := prog_6_method_17_code
def yX4_fill : MethodName := ⟨RX4, "fill", "(IIIII)I"⟩
abbrev cX4_isLike : ByteArray := prog_6_method_18_code
def yX4_isLike : MethodName := ⟨RX4, "isLike", "(II)Z"⟩
abbrev cX4_isFull : ByteArray := prog_6_method_19_code
def yX4_isFull : MethodName := ⟨RX4, "isFull", "(II)Z"⟩
abbrev cX4_adds : ByteArray := prog_6_method_20_code
def yX4_adds : MethodName := ⟨RX4, "adds", "(II)V"⟩
abbrev cX4_write : ByteArray := prog_6_method_21_code
def yX4_write : MethodName := ⟨RX4, "write", "(II)I"⟩
abbrev cX4_writePart : ByteArray := prog_6_method_22_code
def yX4_writePart : MethodName := ⟨RX4, "writePart", "(IIII)I"⟩
abbrev cX4_writeRow : ByteArray := prog_6_method_23_code
def yX4_writeRow : MethodName := ⟨RX4, "writeRow", "(II)I"⟩
abbrev cX4_writeNumber : ByteArray := prog_6_method_24_code
def yX4_writeNumber : MethodName := ⟨RX4, "writeNumber", "(II)I"⟩
abbrev cX4_size : ByteArray := prog_6_method_25_code
def yX4_size : MethodName := ⟨RX4, "size", "(I)I"⟩
abbrev cX4_empty : ByteArray := prog_6_method_26_code
def yX4_empty : MethodName := ⟨RX4, "empty", "(I)I"⟩
abbrev cX4_take : ByteArray := prog_6_method_27_code
def yX4_take : MethodName := ⟨RX4, "take", "(II)I"⟩
abbrev cX4_leftOf : ByteArray := prog_6_method_28_code
def yX4_leftOf : MethodName := ⟨RX4, "leftOf", "(I)I"⟩
abbrev cX4_next : ByteArray := prog_6_method_29_code
def yX4_next : MethodName := ⟨RX4, "next", "(I)I"⟩
abbrev cX4_open : ByteArray := prog_6_method_30_code
def yX4_open : MethodName := ⟨RX4, "open", "(II)I"⟩
abbrev cX4_isOpen : ByteArray := prog_6_method_31_code
def yX4_isOpen : MethodName := ⟨RX4, "isOpen", "(I)Z"⟩
abbrev cX4_isShut : ByteArray := prog_6_method_32_code
def yX4_isShut : MethodName := ⟨RX4, "isShut", "(I)Z"⟩
abbrev cX4_read : ByteArray := prog_6_method_33_code
def yX4_read : MethodName := ⟨RX4, "read", "(I)I"⟩
abbrev cX4_keeps : ByteArray := prog_6_method_34_code
def yX4_keeps : MethodName := ⟨RX4, "keeps", "(II)I"⟩
abbrev cX4_lays : ByteArray := prog_6_method_35_code
def yX4_lays : MethodName := ⟨RX4, "lays", "(IIII)I"⟩
abbrev cX4_readPart : ByteArray := prog_6_method_36_code
def yX4_readPart : MethodName := ⟨RX4, "readPart", "(IIII)I"⟩
abbrev cX4_readFull : ByteArray := prog_6_method_37_code
def yX4_readFull : MethodName := ⟨RX4, "readFull", "(IIII)I"⟩
abbrev cX4_readSome : ByteArray := prog_6_method_38_code
def yX4_readSome : MethodName := ⟨RX4, "readSome", "(III)I"⟩
abbrev cX4_readNumber : ByteArray := prog_6_method_39_code
def yX4_readNumber : MethodName := ⟨RX4, "readNumber", "(I)I"⟩
abbrev cX4_readLine : ByteArray := prog_6_method_40_code
def yX4_readLine : MethodName := ⟨RX4, "readLine", "(II)I"⟩
abbrev cX4_find : ByteArray := prog_6_method_41_code
def yX4_find : MethodName := ⟨RX4, "find", "(II)I"⟩
abbrev cX4_skip : ByteArray := prog_6_method_42_code
def yX4_skip : MethodName := ⟨RX4, "skip", "(IJ)J"⟩
abbrev cX4_left : ByteArray := prog_6_method_43_code
def yX4_left : MethodName := ⟨RX4, "left", "(I)I"⟩
abbrev cX4_mark : ByteArray := prog_6_method_44_code
def yX4_mark : MethodName := ⟨RX4, "mark", "(II)I"⟩
abbrev cX4_back : ByteArray := prog_6_method_45_code
def yX4_back : MethodName := ⟨RX4, "back", "(I)I"⟩
abbrev cX4_pour : ByteArray := prog_6_method_46_code
def yX4_pour : MethodName := ⟨RX4, "pour", "(II)I"⟩
abbrev cX4_pourParts : ByteArray := prog_6_method_47_code
def yX4_pourParts : MethodName := ⟨RX4, "pourParts", "(III)I"⟩
abbrev cX4_alike : ByteArray := prog_6_method_48_code
def yX4_alike : MethodName := ⟨RX4, "alike", "(II)I"⟩
abbrev cX4_leftShare : ByteArray := prog_6_method_49_code
def yX4_leftShare : MethodName := ⟨RX4, "leftShare", "(I)F"⟩
abbrev cX4_meanSize : ByteArray := prog_6_method_50_code
def yX4_meanSize : MethodName := ⟨RX4, "meanSize", "()D"⟩
abbrev cX4_checksum : ByteArray := prog_6_method_51_code
def yX4_checksum : MethodName := ⟨RX4, "checksum", "()J"⟩
abbrev cX4_isTrue : ByteArray := prog_6_method_52_code
def yX4_isTrue : MethodName := ⟨RX4, "isTrue", "()Z"⟩
def RJx145de : String := "java/io/Serializable"
def TJx145de : u_T := fun k => match k with
  | _ => ("", "", "", false)
def tyJx145de : Nat → FieldType := fun k => match k with
  | _ => .int
abbrev wsJx145de0 : List Cond := u_ws RJx145de TJx145de 0
theorem nmJx145de : ∀ a, a < 0 → ∀ b, b < 0 → a ≠ b → (TJx145de a).2.1 ≠ (TJx145de b).2.1 := by decide +kernel
theorem tyJx145de_ok : ∀ k, k < 0 → parseFieldDescriptor (TJx145de k).2.2.1 = some (tyJx145de k) := by decide +kernel
def RJx00060 : String := "java/lang/ArrayIndexOutOfBoundsException"
def TJx00060 : u_T := fun k => match k with
  | 0 => ("java/lang/Throwable", "backtrace", "Ljava/lang/Object;", false)
  | 1 => ("java/lang/Throwable", "detailMessage", "Ljava/lang/String;", false)
  | 2 => ("java/lang/Throwable", "cause", "Ljava/lang/Throwable;", false)
  | 3 => ("java/lang/Throwable", "stackTrace", "[Ljava/lang/StackTraceElement;", false)
  | 4 => ("java/lang/Throwable", "depth", "I", false)
  | _ => ("java/lang/Throwable", "suppressedExceptions", "Ljava/util/List;", false)
def tyJx00060 : Nat → FieldType := fun k => match k with
  | 0 => .object "java/lang/Object"
  | 1 => .object "java/lang/String"
  | 2 => .object "java/lang/Throwable"
  | 3 => .array (.object "java/lang/StackTraceElement")
  | 4 => .int
  | _ => .object "java/util/List"
abbrev wsJx000600 : List Cond := u_ws RJx00060 TJx00060 6
theorem nmJx00060 : ∀ a, a < 6 → ∀ b, b < 6 → a ≠ b → (TJx00060 a).2.1 ≠ (TJx00060 b).2.1 := by decide +kernel
theorem tyJx00060_ok : ∀ k, k < 6 → parseFieldDescriptor (TJx00060 k).2.2.1 = some (tyJx00060 k) := by decide +kernel
abbrev cJx00060_init_a7421 : ByteArray := prog_9_method_2_code
def yJx00060_init_a7421 : MethodName := ⟨RJx00060, "<init>", "(Ljava/lang/String;)V"⟩
def RJ9 : String := "java/lang/Math"
def TJ9 : u_T := fun k => match k with
  | _ => ("", "", "", false)
def tyJ9 : Nat → FieldType := fun k => match k with
  | _ => .int
abbrev wsJ90 : List Cond := u_ws RJ9 TJ9 0
theorem nmJ9 : ∀ a, a < 0 → ∀ b, b < 0 → a ≠ b → (TJ9 a).2.1 ≠ (TJ9 b).2.1 := by decide +kernel
theorem tyJ9_ok : ∀ k, k < 0 → parseFieldDescriptor (TJ9 k).2.2.1 = some (tyJ9 k) := by decide +kernel
abbrev cJ9_max_7cf53 : ByteArray := prog_14_method_65_code
def yJ9_max_7cf53 : MethodName := ⟨RJ9, "max", "(II)I"⟩
abbrev cJ9_min_7cf53 : ByteArray := prog_14_method_69_code
def yJ9_min_7cf53 : MethodName := ⟨RJ9, "min", "(II)I"⟩
abbrev cJ9_min_f86c9 : ByteArray := prog_14_method_70_code
def yJ9_min_f86c9 : MethodName := ⟨RJ9, "min", "(JJ)J"⟩
def RJ0 : String := "java/lang/String"
def TJ0 : u_T := fun k => match k with
  | 0 => ("java/lang/String", "value", "[B", true)
  | _ => ("java/lang/String", "coder", "B", true)
def tyJ0 : Nat → FieldType := fun k => match k with
  | 0 => .array .byte
  | _ => .byte
abbrev wsJ00 : List Cond := u_ws RJ0 TJ0 2
theorem nmJ0 : ∀ a, a < 2 → ∀ b, b < 2 → a ≠ b → (TJ0 a).2.1 ≠ (TJ0 b).2.1 := by decide +kernel
theorem tyJ0_ok : ∀ k, k < 2 → parseFieldDescriptor (TJ0 k).2.2.1 = some (tyJ0 k) := by decide +kernel
def RJ10 : String := "java/lang/System"
def TJ10 : u_T := fun k => match k with
  | _ => ("", "", "", false)
def tyJ10 : Nat → FieldType := fun k => match k with
  | _ => .int
abbrev wsJ100 : List Cond := u_ws RJ10 TJ10 0
theorem nmJ10 : ∀ a, a < 0 → ∀ b, b < 0 → a ≠ b → (TJ10 a).2.1 ≠ (TJ10 b).2.1 := by decide +kernel
theorem tyJ10_ok : ∀ k, k < 0 → parseFieldDescriptor (TJ10 k).2.2.1 = some (tyJ10 k) := by decide +kernel
def RL : String := "BytewellLaw"
abbrev cL_make : ByteArray := method_3_code
def yL_make : MethodName := ⟨RL, "make", "(LBytewell;II[J)I"⟩
abbrev cL_lend : ByteArray := method_4_code
def yL_lend : MethodName := ⟨RL, "lend", "(LBytewell;II[J)I"⟩
abbrev cL_length : ByteArray := method_5_code
def yL_length : MethodName := ⟨RL, "length", "(LBytewell;I[J)I"⟩
abbrev cL_get : ByteArray := method_6_code
def yL_get : MethodName := ⟨RL, "get", "(LBytewell;II[J)I"⟩
abbrev cL_put : ByteArray := method_7_code
def yL_put : MethodName := ⟨RL, "put", "(LBytewell;III[J)I"⟩
abbrev cL_fill : ByteArray := method_8_code
def yL_fill : MethodName := ⟨RL, "fill", "(LBytewell;IIIII[J)I"⟩
abbrev cL_isLike : ByteArray := method_9_code
def yL_isLike : MethodName := ⟨RL, "isLike", "(LBytewell;II[J)I"⟩
abbrev cL_write : ByteArray := method_10_code
def yL_write : MethodName := ⟨RL, "write", "(LBytewell;II[J)I"⟩
abbrev cL_writePart : ByteArray := method_11_code
def yL_writePart : MethodName := ⟨RL, "writePart", "(LBytewell;IIII[J)I"⟩
abbrev cL_writeRow : ByteArray := method_12_code
def yL_writeRow : MethodName := ⟨RL, "writeRow", "(LBytewell;II[J)I"⟩
abbrev cL_writeNumber : ByteArray := method_13_code
def yL_writeNumber : MethodName := ⟨RL, "writeNumber", "(LBytewell;II[J)I"⟩
abbrev cL_size : ByteArray := method_14_code
def yL_size : MethodName := ⟨RL, "size", "(LBytewell;I[J)I"⟩
abbrev cL_empty : ByteArray := method_15_code
def yL_empty : MethodName := ⟨RL, "empty", "(LBytewell;I[J)I"⟩
abbrev cL_take : ByteArray := method_16_code
def yL_take : MethodName := ⟨RL, "take", "(LBytewell;II[J)I"⟩
abbrev cL_open : ByteArray := method_17_code
def yL_open : MethodName := ⟨RL, "open", "(LBytewell;II[J)I"⟩
abbrev cL_isOpen : ByteArray := method_18_code
def yL_isOpen : MethodName := ⟨RL, "isOpen", "(LBytewell;I[J)I"⟩
abbrev cL_read : ByteArray := method_19_code
def yL_read : MethodName := ⟨RL, "read", "(LBytewell;I[J)I"⟩
abbrev cL_readPart : ByteArray := method_20_code
def yL_readPart : MethodName := ⟨RL, "readPart", "(LBytewell;IIII[J)I"⟩
abbrev cL_readFull : ByteArray := method_21_code
def yL_readFull : MethodName := ⟨RL, "readFull", "(LBytewell;IIII[J)I"⟩
abbrev cL_readSome : ByteArray := method_22_code
def yL_readSome : MethodName := ⟨RL, "readSome", "(LBytewell;III[J)I"⟩
abbrev cL_readNumber : ByteArray := method_23_code
def yL_readNumber : MethodName := ⟨RL, "readNumber", "(LBytewell;I[J)I"⟩
abbrev cL_readLine : ByteArray := method_24_code
def yL_readLine : MethodName := ⟨RL, "readLine", "(LBytewell;II[J)I"⟩
abbrev cL_find : ByteArray := method_25_code
def yL_find : MethodName := ⟨RL, "find", "(LBytewell;II[J)I"⟩
abbrev cL_skip : ByteArray := method_26_code
def yL_skip : MethodName := ⟨RL, "skip", "(LBytewell;IJ[J)I"⟩
abbrev cL_left : ByteArray := method_27_code
def yL_left : MethodName := ⟨RL, "left", "(LBytewell;I[J)I"⟩
abbrev cL_mark : ByteArray := method_28_code
def yL_mark : MethodName := ⟨RL, "mark", "(LBytewell;II[J)I"⟩
abbrev cL_back : ByteArray := method_29_code
def yL_back : MethodName := ⟨RL, "back", "(LBytewell;I[J)I"⟩
abbrev cL_pour : ByteArray := method_30_code
def yL_pour : MethodName := ⟨RL, "pour", "(LBytewell;II[J)I"⟩
abbrev cL_pourParts : ByteArray := method_31_code
def yL_pourParts : MethodName := ⟨RL, "pourParts", "(LBytewell;III[J)I"⟩
abbrev cL_alike : ByteArray := method_32_code
def yL_alike : MethodName := ⟨RL, "alike", "(LBytewell;II[J)I"⟩
abbrev cL_leftShare : ByteArray := method_33_code
def yL_leftShare : MethodName := ⟨RL, "leftShare", "(LBytewell;I[D)I"⟩
abbrev cL_meanSize : ByteArray := method_34_code
def yL_meanSize : MethodName := ⟨RL, "meanSize", "(LBytewell;[D)I"⟩
abbrev cL_law : ByteArray := code
def yL_law : MethodName := ⟨RL, "law", "([I)Z"⟩
end
section
theorem dX0_init_0 : decode cX0_init 0 = .ok (.aload_n 0, 1) := by decide +kernel
theorem dX0_init_1 : decode cX0_init 1 = .ok (.invokespecial 3, 3) := by decide +kernel
theorem dX0_init_4 : decode cX0_init 4 = .ok (.aload_n 0, 1) := by decide +kernel
theorem dX0_init_5 : decode cX0_init 5 = .ok (.new 9, 3) := by decide +kernel
theorem dX0_init_8 : decode cX0_init 8 = .ok (.dup, 1) := by decide +kernel
theorem dX0_init_9 : decode cX0_init 9 = .ok (.sipush 256, 3) := by decide +kernel
theorem dX0_init_12 : decode cX0_init 12 = .ok (.invokespecial 11, 3) := by decide +kernel
theorem dX0_init_15 : decode cX0_init 15 = .ok (.putfield 14, 3) := by decide +kernel
theorem dX0_init_18 : decode cX0_init 18 = .ok (.return_, 1) := by decide +kernel
theorem dX0_count_0 : decode cX0_count 0 = .ok (.aload_n 0, 1) := by decide +kernel
theorem dX0_count_1 : decode cX0_count 1 = .ok (.getfield 20, 3) := by decide +kernel
theorem dX0_count_4 : decode cX0_count 4 = .ok (.ireturn, 1) := by decide +kernel
theorem dX0_room_0 : decode cX0_room 0 = .ok (.aload_n 0, 1) := by decide +kernel
theorem dX0_room_1 : decode cX0_room 1 = .ok (.getfield 14, 3) := by decide +kernel
theorem dX0_room_4 : decode cX0_room 4 = .ok (.invokevirtual 24, 3) := by decide +kernel
theorem dX0_room_7 : decode cX0_room 7 = .ok (.aload_n 0, 1) := by decide +kernel
theorem dX0_room_8 : decode cX0_room 8 = .ok (.getfield 20, 3) := by decide +kernel
theorem dX0_room_11 : decode cX0_room 11 = .ok (.isub, 1) := by decide +kernel
theorem dX0_room_12 : decode cX0_room 12 = .ok (.ireturn, 1) := by decide +kernel
theorem dX0_numberAt_0 : decode cX0_numberAt 0 = .ok (.aload_n 0, 1) := by decide +kernel
theorem dX0_numberAt_1 : decode cX0_numberAt 1 = .ok (.getfield 14, 3) := by decide +kernel
theorem dX0_numberAt_4 : decode cX0_numberAt 4 = .ok (.iload_n 1, 1) := by decide +kernel
theorem dX0_numberAt_5 : decode cX0_numberAt 5 = .ok (.invokevirtual 27, 3) := by decide +kernel
theorem dX0_numberAt_8 : decode cX0_numberAt 8 = .ok (.sipush 255, 3) := by decide +kernel
theorem dX0_numberAt_11 : decode cX0_numberAt 11 = .ok (.iand, 1) := by decide +kernel
theorem dX0_numberAt_12 : decode cX0_numberAt 12 = .ok (.ireturn, 1) := by decide +kernel
theorem dX0_gather_0 : decode cX0_gather 0 = .ok (.aload_n 0, 1) := by decide +kernel
theorem dX0_gather_1 : decode cX0_gather 1 = .ok (.getfield 14, 3) := by decide +kernel
theorem dX0_gather_4 : decode cX0_gather 4 = .ok (.aload_n 0, 1) := by decide +kernel
theorem dX0_gather_5 : decode cX0_gather 5 = .ok (.getfield 20, 3) := by decide +kernel
theorem dX0_gather_8 : decode cX0_gather 8 = .ok (.iload_n 1, 1) := by decide +kernel
theorem dX0_gather_9 : decode cX0_gather 9 = .ok (.invokevirtual 31, 3) := by decide +kernel
theorem dX0_gather_12 : decode cX0_gather 12 = .ok (.pop, 1) := by decide +kernel
theorem dX0_gather_13 : decode cX0_gather 13 = .ok (.aload_n 0, 1) := by decide +kernel
theorem dX0_gather_14 : decode cX0_gather 14 = .ok (.dup, 1) := by decide +kernel
theorem dX0_gather_15 : decode cX0_gather 15 = .ok (.getfield 20, 3) := by decide +kernel
theorem dX0_gather_18 : decode cX0_gather 18 = .ok (.iconst 1, 1) := by decide +kernel
theorem dX0_gather_19 : decode cX0_gather 19 = .ok (.iadd, 1) := by decide +kernel
theorem dX0_gather_20 : decode cX0_gather 20 = .ok (.putfield 20, 3) := by decide +kernel
theorem dX0_gather_23 : decode cX0_gather 23 = .ok (.return_, 1) := by decide +kernel
theorem dX0_gatherPart_0 : decode cX0_gatherPart 0 = .ok (.aload_n 1, 1) := by decide +kernel
theorem dX0_gatherPart_1 : decode cX0_gatherPart 1 = .ok (.aload_n 0, 1) := by decide +kernel
theorem dX0_gatherPart_2 : decode cX0_gatherPart 2 = .ok (.getfield 14, 3) := by decide +kernel
theorem dX0_gatherPart_5 : decode cX0_gatherPart 5 = .ok (.aload_n 0, 1) := by decide +kernel
theorem dX0_gatherPart_6 : decode cX0_gatherPart 6 = .ok (.getfield 20, 3) := by decide +kernel
theorem dX0_gatherPart_9 : decode cX0_gatherPart 9 = .ok (.iload_n 2, 1) := by decide +kernel
theorem dX0_gatherPart_10 : decode cX0_gatherPart 10 = .ok (.iload_n 3, 1) := by decide +kernel
theorem dX0_gatherPart_11 : decode cX0_gatherPart 11 = .ok (.invokevirtual 35, 3) := by decide +kernel
theorem dX0_gatherPart_14 : decode cX0_gatherPart 14 = .ok (.aload_n 0, 1) := by decide +kernel
theorem dX0_gatherPart_15 : decode cX0_gatherPart 15 = .ok (.dup, 1) := by decide +kernel
theorem dX0_gatherPart_16 : decode cX0_gatherPart 16 = .ok (.getfield 20, 3) := by decide +kernel
theorem dX0_gatherPart_19 : decode cX0_gatherPart 19 = .ok (.iload_n 3, 1) := by decide +kernel
theorem dX0_gatherPart_20 : decode cX0_gatherPart 20 = .ok (.iadd, 1) := by decide +kernel
theorem dX0_gatherPart_21 : decode cX0_gatherPart 21 = .ok (.putfield 20, 3) := by decide +kernel
theorem dX0_gatherPart_24 : decode cX0_gatherPart 24 = .ok (.return_, 1) := by decide +kernel
theorem dX0_clear_0 : decode cX0_clear 0 = .ok (.aload_n 0, 1) := by decide +kernel
theorem dX0_clear_1 : decode cX0_clear 1 = .ok (.iconst 0, 1) := by decide +kernel
theorem dX0_clear_2 : decode cX0_clear 2 = .ok (.putfield 20, 3) := by decide +kernel
theorem dX0_clear_5 : decode cX0_clear 5 = .ok (.return_, 1) := by decide +kernel
theorem dX0_copy_0 : decode cX0_copy 0 = .ok (.new 9, 3) := by decide +kernel
theorem dX0_copy_3 : decode cX0_copy 3 = .ok (.dup, 1) := by decide +kernel
theorem dX0_copy_4 : decode cX0_copy 4 = .ok (.aload_n 0, 1) := by decide +kernel
theorem dX0_copy_5 : decode cX0_copy 5 = .ok (.getfield 20, 3) := by decide +kernel
theorem dX0_copy_8 : decode cX0_copy 8 = .ok (.invokespecial 11, 3) := by decide +kernel
theorem dX0_copy_11 : decode cX0_copy 11 = .ok (.astore_n 1, 1) := by decide +kernel
theorem dX0_copy_12 : decode cX0_copy 12 = .ok (.aload_n 0, 1) := by decide +kernel
theorem dX0_copy_13 : decode cX0_copy 13 = .ok (.getfield 14, 3) := by decide +kernel
theorem dX0_copy_16 : decode cX0_copy 16 = .ok (.aload_n 1, 1) := by decide +kernel
theorem dX0_copy_17 : decode cX0_copy 17 = .ok (.iconst 0, 1) := by decide +kernel
theorem dX0_copy_18 : decode cX0_copy 18 = .ok (.iconst 0, 1) := by decide +kernel
theorem dX0_copy_19 : decode cX0_copy 19 = .ok (.aload_n 0, 1) := by decide +kernel
theorem dX0_copy_20 : decode cX0_copy 20 = .ok (.getfield 20, 3) := by decide +kernel
theorem dX0_copy_23 : decode cX0_copy 23 = .ok (.invokevirtual 35, 3) := by decide +kernel
theorem dX0_copy_26 : decode cX0_copy 26 = .ok (.aload_n 1, 1) := by decide +kernel
theorem dX0_copy_27 : decode cX0_copy 27 = .ok (.areturn, 1) := by decide +kernel
theorem dX0_addedTo_0 : decode cX0_addedTo 0 = .ok (.aload_n 0, 1) := by decide +kernel
theorem dX0_addedTo_1 : decode cX0_addedTo 1 = .ok (.getfield 14, 3) := by decide +kernel
theorem dX0_addedTo_4 : decode cX0_addedTo 4 = .ok (.lload_n 1, 1) := by decide +kernel
theorem dX0_addedTo_5 : decode cX0_addedTo 5 = .ok (.aload_n 0, 1) := by decide +kernel
theorem dX0_addedTo_6 : decode cX0_addedTo 6 = .ok (.getfield 20, 3) := by decide +kernel
theorem dX0_addedTo_9 : decode cX0_addedTo 9 = .ok (.invokevirtual 39, 3) := by decide +kernel
theorem dX0_addedTo_12 : decode cX0_addedTo 12 = .ok (.lreturn, 1) := by decide +kernel
theorem dX1_init_0 : decode cX1_init 0 = .ok (.aload_n 0, 1) := by decide +kernel
theorem dX1_init_1 : decode cX1_init 1 = .ok (.invokespecial 1, 3) := by decide +kernel
theorem dX1_init_4 : decode cX1_init 4 = .ok (.aload_n 0, 1) := by decide +kernel
theorem dX1_init_5 : decode cX1_init 5 = .ok (.new 7, 3) := by decide +kernel
theorem dX1_init_8 : decode cX1_init 8 = .ok (.dup, 1) := by decide +kernel
theorem dX1_init_9 : decode cX1_init 9 = .ok (.iconst 0, 1) := by decide +kernel
theorem dX1_init_10 : decode cX1_init 10 = .ok (.invokespecial 9, 3) := by decide +kernel
theorem dX1_init_13 : decode cX1_init 13 = .ok (.putfield 12, 3) := by decide +kernel
theorem dX1_init_16 : decode cX1_init 16 = .ok (.return_, 1) := by decide +kernel
theorem dX1_start_0 : decode cX1_start 0 = .ok (.aload_n 0, 1) := by decide +kernel
theorem dX1_start_1 : decode cX1_start 1 = .ok (.aload_n 1, 1) := by decide +kernel
theorem dX1_start_2 : decode cX1_start 2 = .ok (.putfield 12, 3) := by decide +kernel
theorem dX1_start_5 : decode cX1_start 5 = .ok (.aload_n 0, 1) := by decide +kernel
theorem dX1_start_6 : decode cX1_start 6 = .ok (.iconst 1, 1) := by decide +kernel
theorem dX1_start_7 : decode cX1_start 7 = .ok (.putfield 18, 3) := by decide +kernel
theorem dX1_start_10 : decode cX1_start 10 = .ok (.aload_n 0, 1) := by decide +kernel
theorem dX1_start_11 : decode cX1_start 11 = .ok (.iconst 0, 1) := by decide +kernel
theorem dX1_start_12 : decode cX1_start 12 = .ok (.putfield 22, 3) := by decide +kernel
theorem dX1_start_15 : decode cX1_start 15 = .ok (.aload_n 0, 1) := by decide +kernel
theorem dX1_start_16 : decode cX1_start 16 = .ok (.iconst 0, 1) := by decide +kernel
theorem dX1_start_17 : decode cX1_start 17 = .ok (.putfield 26, 3) := by decide +kernel
theorem dX1_start_20 : decode cX1_start 20 = .ok (.aload_n 0, 1) := by decide +kernel
theorem dX1_start_21 : decode cX1_start 21 = .ok (.invokevirtual 29, 3) := by decide +kernel
theorem dX1_start_24 : decode cX1_start 24 = .ok (.return_, 1) := by decide +kernel
theorem dX1_isStarted_0 : decode cX1_isStarted 0 = .ok (.aload_n 0, 1) := by decide +kernel
theorem dX1_isStarted_1 : decode cX1_isStarted 1 = .ok (.getfield 18, 3) := by decide +kernel
theorem dX1_isStarted_4 : decode cX1_isStarted 4 = .ok (.ireturn, 1) := by decide +kernel
theorem dX1_isOver_0 : decode cX1_isOver 0 = .ok (.aload_n 0, 1) := by decide +kernel
theorem dX1_isOver_1 : decode cX1_isOver 1 = .ok (.getfield 12, 3) := by decide +kernel
theorem dX1_isOver_4 : decode cX1_isOver 4 = .ok (.aload_n 1, 1) := by decide +kernel
theorem dX1_isOver_5 : decode cX1_isOver 5 = .ok (.if_acmp .ne 7, 3) := by decide +kernel
theorem dX1_isOver_8 : decode cX1_isOver 8 = .ok (.iconst 1, 1) := by decide +kernel
theorem dX1_isOver_9 : decode cX1_isOver 9 = .ok (.goto 4, 3) := by decide +kernel
theorem dX1_isOver_12 : decode cX1_isOver 12 = .ok (.iconst 0, 1) := by decide +kernel
theorem dX1_isOver_13 : decode cX1_isOver 13 = .ok (.ireturn, 1) := by decide +kernel
theorem dX1_whole_0 : decode cX1_whole 0 = .ok (.aload_n 0, 1) := by decide +kernel
theorem dX1_whole_1 : decode cX1_whole 1 = .ok (.getfield 12, 3) := by decide +kernel
theorem dX1_whole_4 : decode cX1_whole 4 = .ok (.invokevirtual 32, 3) := by decide +kernel
theorem dX1_whole_7 : decode cX1_whole 7 = .ok (.ireturn, 1) := by decide +kernel
theorem dX1_remaining_0 : decode cX1_remaining 0 = .ok (.aload_n 0, 1) := by decide +kernel
theorem dX1_remaining_1 : decode cX1_remaining 1 = .ok (.getfield 12, 3) := by decide +kernel
theorem dX1_remaining_4 : decode cX1_remaining 4 = .ok (.invokevirtual 32, 3) := by decide +kernel
theorem dX1_remaining_7 : decode cX1_remaining 7 = .ok (.aload_n 0, 1) := by decide +kernel
theorem dX1_remaining_8 : decode cX1_remaining 8 = .ok (.getfield 22, 3) := by decide +kernel
theorem dX1_remaining_11 : decode cX1_remaining 11 = .ok (.isub, 1) := by decide +kernel
theorem dX1_remaining_12 : decode cX1_remaining 12 = .ok (.ireturn, 1) := by decide +kernel
theorem dX1_tell_0 : decode cX1_tell 0 = .ok (.aload_n 0, 1) := by decide +kernel
theorem dX1_tell_1 : decode cX1_tell 1 = .ok (.dup, 1) := by decide +kernel
theorem dX1_tell_2 : decode cX1_tell 2 = .ok (.getfield 26, 3) := by decide +kernel
theorem dX1_tell_5 : decode cX1_tell 5 = .ok (.iload_n 1, 1) := by decide +kernel
theorem dX1_tell_6 : decode cX1_tell 6 = .ok (.iadd, 1) := by decide +kernel
theorem dX1_tell_7 : decode cX1_tell 7 = .ok (.putfield 26, 3) := by decide +kernel
theorem dX1_tell_10 : decode cX1_tell 10 = .ok (.iload_n 1, 1) := by decide +kernel
theorem dX1_tell_11 : decode cX1_tell 11 = .ok (.ireturn, 1) := by decide +kernel
theorem dX1_hasToldAll_0 : decode cX1_hasToldAll 0 = .ok (.aload_n 0, 1) := by decide +kernel
theorem dX1_hasToldAll_1 : decode cX1_hasToldAll 1 = .ok (.getfield 26, 3) := by decide +kernel
theorem dX1_hasToldAll_4 : decode cX1_hasToldAll 4 = .ok (.aload_n 0, 1) := by decide +kernel
theorem dX1_hasToldAll_5 : decode cX1_hasToldAll 5 = .ok (.invokevirtual 36, 3) := by decide +kernel
theorem dX1_hasToldAll_8 : decode cX1_hasToldAll 8 = .ok (.iadd, 1) := by decide +kernel
theorem dX1_hasToldAll_9 : decode cX1_hasToldAll 9 = .ok (.aload_n 0, 1) := by decide +kernel
theorem dX1_hasToldAll_10 : decode cX1_hasToldAll 10 = .ok (.getfield 12, 3) := by decide +kernel
theorem dX1_hasToldAll_13 : decode cX1_hasToldAll 13 = .ok (.invokevirtual 32, 3) := by decide +kernel
theorem dX1_hasToldAll_16 : decode cX1_hasToldAll 16 = .ok (.if_icmp .ne 7, 3) := by decide +kernel
theorem dX1_hasToldAll_19 : decode cX1_hasToldAll 19 = .ok (.iconst 1, 1) := by decide +kernel
theorem dX1_hasToldAll_20 : decode cX1_hasToldAll 20 = .ok (.goto 4, 3) := by decide +kernel
theorem dX1_hasToldAll_23 : decode cX1_hasToldAll 23 = .ok (.iconst 0, 1) := by decide +kernel
theorem dX1_hasToldAll_24 : decode cX1_hasToldAll 24 = .ok (.ireturn, 1) := by decide +kernel
theorem dX1_setMark_0 : decode cX1_setMark 0 = .ok (.aload_n 0, 1) := by decide +kernel
theorem dX1_setMark_1 : decode cX1_setMark 1 = .ok (.aload_n 0, 1) := by decide +kernel
theorem dX1_setMark_2 : decode cX1_setMark 2 = .ok (.getfield 22, 3) := by decide +kernel
theorem dX1_setMark_5 : decode cX1_setMark 5 = .ok (.putfield 39, 3) := by decide +kernel
theorem dX1_setMark_8 : decode cX1_setMark 8 = .ok (.aload_n 0, 1) := by decide +kernel
theorem dX1_setMark_9 : decode cX1_setMark 9 = .ok (.aload_n 0, 1) := by decide +kernel
theorem dX1_setMark_10 : decode cX1_setMark 10 = .ok (.getfield 26, 3) := by decide +kernel
theorem dX1_setMark_13 : decode cX1_setMark 13 = .ok (.putfield 42, 3) := by decide +kernel
theorem dX1_setMark_16 : decode cX1_setMark 16 = .ok (.return_, 1) := by decide +kernel
theorem dX1_goBack_0 : decode cX1_goBack 0 = .ok (.aload_n 0, 1) := by decide +kernel
theorem dX1_goBack_1 : decode cX1_goBack 1 = .ok (.aload_n 0, 1) := by decide +kernel
theorem dX1_goBack_2 : decode cX1_goBack 2 = .ok (.getfield 39, 3) := by decide +kernel
theorem dX1_goBack_5 : decode cX1_goBack 5 = .ok (.putfield 22, 3) := by decide +kernel
theorem dX1_goBack_8 : decode cX1_goBack 8 = .ok (.aload_n 0, 1) := by decide +kernel
theorem dX1_goBack_9 : decode cX1_goBack 9 = .ok (.aload_n 0, 1) := by decide +kernel
theorem dX1_goBack_10 : decode cX1_goBack 10 = .ok (.getfield 42, 3) := by decide +kernel
theorem dX1_goBack_13 : decode cX1_goBack 13 = .ok (.putfield 26, 3) := by decide +kernel
theorem dX1_goBack_16 : decode cX1_goBack 16 = .ok (.return_, 1) := by decide +kernel
theorem dX1_peek_0 : decode cX1_peek 0 = .ok (.aload_n 0, 1) := by decide +kernel
theorem dX1_peek_1 : decode cX1_peek 1 = .ok (.getfield 12, 3) := by decide +kernel
theorem dX1_peek_4 : decode cX1_peek 4 = .ok (.aload_n 0, 1) := by decide +kernel
theorem dX1_peek_5 : decode cX1_peek 5 = .ok (.getfield 22, 3) := by decide +kernel
theorem dX1_peek_8 : decode cX1_peek 8 = .ok (.invokevirtual 45, 3) := by decide +kernel
theorem dX1_peek_11 : decode cX1_peek 11 = .ok (.sipush 255, 3) := by decide +kernel
theorem dX1_peek_14 : decode cX1_peek 14 = .ok (.iand, 1) := by decide +kernel
theorem dX1_peek_15 : decode cX1_peek 15 = .ok (.ireturn, 1) := by decide +kernel
theorem dX1_next_0 : decode cX1_next 0 = .ok (.aload_n 0, 1) := by decide +kernel
theorem dX1_next_1 : decode cX1_next 1 = .ok (.invokevirtual 49, 3) := by decide +kernel
theorem dX1_next_4 : decode cX1_next 4 = .ok (.istore_n 1, 1) := by decide +kernel
theorem dX1_next_5 : decode cX1_next 5 = .ok (.aload_n 0, 1) := by decide +kernel
theorem dX1_next_6 : decode cX1_next 6 = .ok (.lconst 1, 1) := by decide +kernel
theorem dX1_next_7 : decode cX1_next 7 = .ok (.invokevirtual 52, 3) := by decide +kernel
theorem dX1_next_10 : decode cX1_next 10 = .ok (.pop, 1) := by decide +kernel
theorem dX1_next_11 : decode cX1_next 11 = .ok (.iload_n 1, 1) := by decide +kernel
theorem dX1_next_12 : decode cX1_next 12 = .ok (.ireturn, 1) := by decide +kernel
theorem dX1_asManyAs_0 : decode cX1_asManyAs 0 = .ok (.lload_n 1, 1) := by decide +kernel
theorem dX1_asManyAs_1 : decode cX1_asManyAs 1 = .ok (.aload_n 0, 1) := by decide +kernel
theorem dX1_asManyAs_2 : decode cX1_asManyAs 2 = .ok (.getfield 12, 3) := by decide +kernel
theorem dX1_asManyAs_5 : decode cX1_asManyAs 5 = .ok (.invokevirtual 32, 3) := by decide +kernel
theorem dX1_asManyAs_8 : decode cX1_asManyAs 8 = .ok (.aload_n 0, 1) := by decide +kernel
theorem dX1_asManyAs_9 : decode cX1_asManyAs 9 = .ok (.getfield 22, 3) := by decide +kernel
theorem dX1_asManyAs_12 : decode cX1_asManyAs 12 = .ok (.isub, 1) := by decide +kernel
theorem dX1_asManyAs_13 : decode cX1_asManyAs 13 = .ok (.i2l, 1) := by decide +kernel
theorem dX1_asManyAs_14 : decode cX1_asManyAs 14 = .ok (.invokestatic 56, 3) := by decide +kernel
theorem dX1_asManyAs_17 : decode cX1_asManyAs 17 = .ok (.l2i, 1) := by decide +kernel
theorem dX1_asManyAs_18 : decode cX1_asManyAs 18 = .ok (.ireturn, 1) := by decide +kernel
theorem dX1_pass_0 : decode cX1_pass 0 = .ok (.aload_n 0, 1) := by decide +kernel
theorem dX1_pass_1 : decode cX1_pass 1 = .ok (.lload_n 1, 1) := by decide +kernel
theorem dX1_pass_2 : decode cX1_pass 2 = .ok (.invokevirtual 62, 3) := by decide +kernel
theorem dX1_pass_5 : decode cX1_pass 5 = .ok (.istore_n 3, 1) := by decide +kernel
theorem dX1_pass_6 : decode cX1_pass 6 = .ok (.aload_n 0, 1) := by decide +kernel
theorem dX1_pass_7 : decode cX1_pass 7 = .ok (.dup, 1) := by decide +kernel
theorem dX1_pass_8 : decode cX1_pass 8 = .ok (.getfield 22, 3) := by decide +kernel
theorem dX1_pass_11 : decode cX1_pass 11 = .ok (.iload_n 3, 1) := by decide +kernel
theorem dX1_pass_12 : decode cX1_pass 12 = .ok (.iadd, 1) := by decide +kernel
theorem dX1_pass_13 : decode cX1_pass 13 = .ok (.putfield 22, 3) := by decide +kernel
theorem dX1_pass_16 : decode cX1_pass 16 = .ok (.iload_n 3, 1) := by decide +kernel
theorem dX1_pass_17 : decode cX1_pass 17 = .ok (.ireturn, 1) := by decide +kernel
theorem dX1_distanceTo_0 : decode cX1_distanceTo 0 = .ok (.aload_n 0, 1) := by decide +kernel
theorem dX1_distanceTo_1 : decode cX1_distanceTo 1 = .ok (.invokevirtual 36, 3) := by decide +kernel
theorem dX1_distanceTo_4 : decode cX1_distanceTo 4 = .ok (.istore_n 2, 1) := by decide +kernel
theorem dX1_distanceTo_5 : decode cX1_distanceTo 5 = .ok (.iconst 0, 1) := by decide +kernel
theorem dX1_distanceTo_6 : decode cX1_distanceTo 6 = .ok (.istore_n 3, 1) := by decide +kernel
theorem dX1_distanceTo_7 : decode cX1_distanceTo 7 = .ok (.iload_n 3, 1) := by decide +kernel
theorem dX1_distanceTo_8 : decode cX1_distanceTo 8 = .ok (.iload_n 2, 1) := by decide +kernel
theorem dX1_distanceTo_9 : decode cX1_distanceTo 9 = .ok (.if_icmp .ge 32, 3) := by decide +kernel
theorem dX1_distanceTo_12 : decode cX1_distanceTo 12 = .ok (.aload_n 0, 1) := by decide +kernel
theorem dX1_distanceTo_13 : decode cX1_distanceTo 13 = .ok (.getfield 12, 3) := by decide +kernel
theorem dX1_distanceTo_16 : decode cX1_distanceTo 16 = .ok (.aload_n 0, 1) := by decide +kernel
theorem dX1_distanceTo_17 : decode cX1_distanceTo 17 = .ok (.getfield 22, 3) := by decide +kernel
theorem dX1_distanceTo_20 : decode cX1_distanceTo 20 = .ok (.iload_n 3, 1) := by decide +kernel
theorem dX1_distanceTo_21 : decode cX1_distanceTo 21 = .ok (.iadd, 1) := by decide +kernel
theorem dX1_distanceTo_22 : decode cX1_distanceTo 22 = .ok (.invokevirtual 45, 3) := by decide +kernel
theorem dX1_distanceTo_25 : decode cX1_distanceTo 25 = .ok (.sipush 255, 3) := by decide +kernel
theorem dX1_distanceTo_28 : decode cX1_distanceTo 28 = .ok (.iand, 1) := by decide +kernel
theorem dX1_distanceTo_29 : decode cX1_distanceTo 29 = .ok (.iload_n 1, 1) := by decide +kernel
theorem dX1_distanceTo_30 : decode cX1_distanceTo 30 = .ok (.if_icmp .ne 5, 3) := by decide +kernel
theorem dX1_distanceTo_33 : decode cX1_distanceTo 33 = .ok (.iload_n 3, 1) := by decide +kernel
theorem dX1_distanceTo_34 : decode cX1_distanceTo 34 = .ok (.ireturn, 1) := by decide +kernel
theorem dX1_distanceTo_35 : decode cX1_distanceTo 35 = .ok (.iinc 3 1, 3) := by decide +kernel
theorem dX1_distanceTo_38 : decode cX1_distanceTo 38 = .ok (.goto (-31), 3) := by decide +kernel
theorem dX1_distanceTo_41 : decode cX1_distanceTo 41 = .ok (.iload_n 2, 1) := by decide +kernel
theorem dX1_distanceTo_42 : decode cX1_distanceTo 42 = .ok (.ireturn, 1) := by decide +kernel
theorem dX1_moveInto_0 : decode cX1_moveInto 0 = .ok (.aload_n 0, 1) := by decide +kernel
theorem dX1_moveInto_1 : decode cX1_moveInto 1 = .ok (.iload_n 3, 1) := by decide +kernel
theorem dX1_moveInto_2 : decode cX1_moveInto 2 = .ok (.i2l, 1) := by decide +kernel
theorem dX1_moveInto_3 : decode cX1_moveInto 3 = .ok (.invokevirtual 62, 3) := by decide +kernel
theorem dX1_moveInto_6 : decode cX1_moveInto 6 = .ok (.istore 4, 2) := by decide +kernel
theorem dX1_moveInto_8 : decode cX1_moveInto 8 = .ok (.aload_n 0, 1) := by decide +kernel
theorem dX1_moveInto_9 : decode cX1_moveInto 9 = .ok (.getfield 12, 3) := by decide +kernel
theorem dX1_moveInto_12 : decode cX1_moveInto 12 = .ok (.aload_n 1, 1) := by decide +kernel
theorem dX1_moveInto_13 : decode cX1_moveInto 13 = .ok (.iload_n 2, 1) := by decide +kernel
theorem dX1_moveInto_14 : decode cX1_moveInto 14 = .ok (.aload_n 0, 1) := by decide +kernel
theorem dX1_moveInto_15 : decode cX1_moveInto 15 = .ok (.getfield 22, 3) := by decide +kernel
theorem dX1_moveInto_18 : decode cX1_moveInto 18 = .ok (.iload 4, 2) := by decide +kernel
theorem dX1_moveInto_20 : decode cX1_moveInto 20 = .ok (.invokevirtual 65, 3) := by decide +kernel
theorem dX1_moveInto_23 : decode cX1_moveInto 23 = .ok (.aload_n 0, 1) := by decide +kernel
theorem dX1_moveInto_24 : decode cX1_moveInto 24 = .ok (.iload 4, 2) := by decide +kernel
theorem dX1_moveInto_26 : decode cX1_moveInto 26 = .ok (.i2l, 1) := by decide +kernel
theorem dX1_moveInto_27 : decode cX1_moveInto 27 = .ok (.invokevirtual 52, 3) := by decide +kernel
theorem dX1_moveInto_30 : decode cX1_moveInto 30 = .ok (.ireturn, 1) := by decide +kernel
theorem dX1_nextRow_0 : decode cX1_nextRow 0 = .ok (.new 7, 3) := by decide +kernel
theorem dX1_nextRow_3 : decode cX1_nextRow 3 = .ok (.dup, 1) := by decide +kernel
theorem dX1_nextRow_4 : decode cX1_nextRow 4 = .ok (.aload_n 0, 1) := by decide +kernel
theorem dX1_nextRow_5 : decode cX1_nextRow 5 = .ok (.iload_n 1, 1) := by decide +kernel
theorem dX1_nextRow_6 : decode cX1_nextRow 6 = .ok (.i2l, 1) := by decide +kernel
theorem dX1_nextRow_7 : decode cX1_nextRow 7 = .ok (.invokevirtual 62, 3) := by decide +kernel
theorem dX1_nextRow_10 : decode cX1_nextRow 10 = .ok (.invokespecial 9, 3) := by decide +kernel
theorem dX1_nextRow_13 : decode cX1_nextRow 13 = .ok (.astore_n 2, 1) := by decide +kernel
theorem dX1_nextRow_14 : decode cX1_nextRow 14 = .ok (.aload_n 0, 1) := by decide +kernel
theorem dX1_nextRow_15 : decode cX1_nextRow 15 = .ok (.aload_n 2, 1) := by decide +kernel
theorem dX1_nextRow_16 : decode cX1_nextRow 16 = .ok (.iconst 0, 1) := by decide +kernel
theorem dX1_nextRow_17 : decode cX1_nextRow 17 = .ok (.aload_n 2, 1) := by decide +kernel
theorem dX1_nextRow_18 : decode cX1_nextRow 18 = .ok (.invokevirtual 32, 3) := by decide +kernel
theorem dX1_nextRow_21 : decode cX1_nextRow 21 = .ok (.invokevirtual 69, 3) := by decide +kernel
theorem dX1_nextRow_24 : decode cX1_nextRow 24 = .ok (.pop, 1) := by decide +kernel
theorem dX1_nextRow_25 : decode cX1_nextRow 25 = .ok (.aload_n 2, 1) := by decide +kernel
theorem dX1_nextRow_26 : decode cX1_nextRow 26 = .ok (.areturn, 1) := by decide +kernel
theorem dX1_pourInto_0 : decode cX1_pourInto 0 = .ok (.aload_n 0, 1) := by decide +kernel
theorem dX1_pourInto_1 : decode cX1_pourInto 1 = .ok (.iload_n 2, 1) := by decide +kernel
theorem dX1_pourInto_2 : decode cX1_pourInto 2 = .ok (.i2l, 1) := by decide +kernel
theorem dX1_pourInto_3 : decode cX1_pourInto 3 = .ok (.invokevirtual 62, 3) := by decide +kernel
theorem dX1_pourInto_6 : decode cX1_pourInto 6 = .ok (.istore_n 3, 1) := by decide +kernel
theorem dX1_pourInto_7 : decode cX1_pourInto 7 = .ok (.aload_n 1, 1) := by decide +kernel
theorem dX1_pourInto_8 : decode cX1_pourInto 8 = .ok (.aload_n 0, 1) := by decide +kernel
theorem dX1_pourInto_9 : decode cX1_pourInto 9 = .ok (.getfield 12, 3) := by decide +kernel
theorem dX1_pourInto_12 : decode cX1_pourInto 12 = .ok (.aload_n 0, 1) := by decide +kernel
theorem dX1_pourInto_13 : decode cX1_pourInto 13 = .ok (.getfield 22, 3) := by decide +kernel
theorem dX1_pourInto_16 : decode cX1_pourInto 16 = .ok (.iload_n 3, 1) := by decide +kernel
theorem dX1_pourInto_17 : decode cX1_pourInto 17 = .ok (.invokevirtual 73, 3) := by decide +kernel
theorem dX1_pourInto_20 : decode cX1_pourInto 20 = .ok (.aload_n 0, 1) := by decide +kernel
theorem dX1_pourInto_21 : decode cX1_pourInto 21 = .ok (.iload_n 3, 1) := by decide +kernel
theorem dX1_pourInto_22 : decode cX1_pourInto 22 = .ok (.i2l, 1) := by decide +kernel
theorem dX1_pourInto_23 : decode cX1_pourInto 23 = .ok (.invokevirtual 52, 3) := by decide +kernel
theorem dX1_pourInto_26 : decode cX1_pourInto 26 = .ok (.ireturn, 1) := by decide +kernel
theorem dX2_init_0 : decode cX2_init 0 = .ok (.aload_n 0, 1) := by decide +kernel
theorem dX2_init_1 : decode cX2_init 1 = .ok (.invokespecial 1, 3) := by decide +kernel
theorem dX2_init_4 : decode cX2_init 4 = .ok (.aload_n 0, 1) := by decide +kernel
theorem dX2_init_5 : decode cX2_init 5 = .ok (.iload_n 1, 1) := by decide +kernel
theorem dX2_init_6 : decode cX2_init 6 = .ok (.iconst 0, 1) := by decide +kernel
theorem dX2_init_7 : decode cX2_init 7 = .ok (.invokestatic 7, 3) := by decide +kernel
theorem dX2_init_10 : decode cX2_init 10 = .ok (.newarray .byte, 2) := by decide +kernel
theorem dX2_init_12 : decode cX2_init 12 = .ok (.putfield 13, 3) := by decide +kernel
theorem dX2_init_15 : decode cX2_init 15 = .ok (.return_, 1) := by decide +kernel
theorem dX2_count_0 : decode cX2_count 0 = .ok (.aload_n 0, 1) := by decide +kernel
theorem dX2_count_1 : decode cX2_count 1 = .ok (.getfield 13, 3) := by decide +kernel
theorem dX2_count_4 : decode cX2_count 4 = .ok (.arraylength, 1) := by decide +kernel
theorem dX2_count_5 : decode cX2_count 5 = .ok (.ireturn, 1) := by decide +kernel
theorem dX2_has_0 : decode cX2_has 0 = .ok (.iload_n 1, 1) := by decide +kernel
theorem dX2_has_1 : decode cX2_has 1 = .ok (.ifCond .lt 16, 3) := by decide +kernel
theorem dX2_has_4 : decode cX2_has 4 = .ok (.iload_n 1, 1) := by decide +kernel
theorem dX2_has_5 : decode cX2_has 5 = .ok (.aload_n 0, 1) := by decide +kernel
theorem dX2_has_6 : decode cX2_has 6 = .ok (.getfield 13, 3) := by decide +kernel
theorem dX2_has_9 : decode cX2_has 9 = .ok (.arraylength, 1) := by decide +kernel
theorem dX2_has_10 : decode cX2_has 10 = .ok (.if_icmp .ge 7, 3) := by decide +kernel
theorem dX2_has_13 : decode cX2_has 13 = .ok (.iconst 1, 1) := by decide +kernel
theorem dX2_has_14 : decode cX2_has 14 = .ok (.goto 4, 3) := by decide +kernel
theorem dX2_has_17 : decode cX2_has 17 = .ok (.iconst 0, 1) := by decide +kernel
theorem dX2_has_18 : decode cX2_has 18 = .ok (.ireturn, 1) := by decide +kernel
theorem dX2_byteAt_0 : decode cX2_byteAt 0 = .ok (.aload_n 0, 1) := by decide +kernel
theorem dX2_byteAt_1 : decode cX2_byteAt 1 = .ok (.iload_n 1, 1) := by decide +kernel
theorem dX2_byteAt_2 : decode cX2_byteAt 2 = .ok (.invokevirtual 19, 3) := by decide +kernel
theorem dX2_byteAt_5 : decode cX2_byteAt 5 = .ok (.ifCond .eq 12, 3) := by decide +kernel
theorem dX2_byteAt_8 : decode cX2_byteAt 8 = .ok (.aload_n 0, 1) := by decide +kernel
theorem dX2_byteAt_9 : decode cX2_byteAt 9 = .ok (.getfield 13, 3) := by decide +kernel
theorem dX2_byteAt_12 : decode cX2_byteAt 12 = .ok (.iload_n 1, 1) := by decide +kernel
theorem dX2_byteAt_13 : decode cX2_byteAt 13 = .ok (.baload, 1) := by decide +kernel
theorem dX2_byteAt_14 : decode cX2_byteAt 14 = .ok (.goto 4, 3) := by decide +kernel
theorem dX2_byteAt_17 : decode cX2_byteAt 17 = .ok (.iconst 0, 1) := by decide +kernel
theorem dX2_byteAt_18 : decode cX2_byteAt 18 = .ok (.ireturn, 1) := by decide +kernel
theorem dX2_exchange_0 : decode cX2_exchange 0 = .ok (.aload_n 0, 1) := by decide +kernel
theorem dX2_exchange_1 : decode cX2_exchange 1 = .ok (.iload_n 1, 1) := by decide +kernel
theorem dX2_exchange_2 : decode cX2_exchange 2 = .ok (.invokevirtual 23, 3) := by decide +kernel
theorem dX2_exchange_5 : decode cX2_exchange 5 = .ok (.istore_n 3, 1) := by decide +kernel
theorem dX2_exchange_6 : decode cX2_exchange 6 = .ok (.aload_n 0, 1) := by decide +kernel
theorem dX2_exchange_7 : decode cX2_exchange 7 = .ok (.iload_n 1, 1) := by decide +kernel
theorem dX2_exchange_8 : decode cX2_exchange 8 = .ok (.invokevirtual 19, 3) := by decide +kernel
theorem dX2_exchange_11 : decode cX2_exchange 11 = .ok (.ifCond .eq 11, 3) := by decide +kernel
theorem dX2_exchange_14 : decode cX2_exchange 14 = .ok (.aload_n 0, 1) := by decide +kernel
theorem dX2_exchange_15 : decode cX2_exchange 15 = .ok (.getfield 13, 3) := by decide +kernel
theorem dX2_exchange_18 : decode cX2_exchange 18 = .ok (.iload_n 1, 1) := by decide +kernel
theorem dX2_exchange_19 : decode cX2_exchange 19 = .ok (.iload_n 2, 1) := by decide +kernel
theorem dX2_exchange_20 : decode cX2_exchange 20 = .ok (.i2b, 1) := by decide +kernel
theorem dX2_exchange_21 : decode cX2_exchange 21 = .ok (.bastore, 1) := by decide +kernel
theorem dX2_exchange_22 : decode cX2_exchange 22 = .ok (.iload_n 3, 1) := by decide +kernel
theorem dX2_exchange_23 : decode cX2_exchange 23 = .ok (.ireturn, 1) := by decide +kernel
theorem dX2_hasPart_0 : decode cX2_hasPart 0 = .ok (.iload_n 1, 1) := by decide +kernel
theorem dX2_hasPart_1 : decode cX2_hasPart 1 = .ok (.ifCond .lt 31, 3) := by decide +kernel
theorem dX2_hasPart_4 : decode cX2_hasPart 4 = .ok (.iload_n 2, 1) := by decide +kernel
theorem dX2_hasPart_5 : decode cX2_hasPart 5 = .ok (.ifCond .lt 27, 3) := by decide +kernel
theorem dX2_hasPart_8 : decode cX2_hasPart 8 = .ok (.iload_n 1, 1) := by decide +kernel
theorem dX2_hasPart_9 : decode cX2_hasPart 9 = .ok (.aload_n 0, 1) := by decide +kernel
theorem dX2_hasPart_10 : decode cX2_hasPart 10 = .ok (.getfield 13, 3) := by decide +kernel
theorem dX2_hasPart_13 : decode cX2_hasPart 13 = .ok (.arraylength, 1) := by decide +kernel
theorem dX2_hasPart_14 : decode cX2_hasPart 14 = .ok (.if_icmp .gt 18, 3) := by decide +kernel
theorem dX2_hasPart_17 : decode cX2_hasPart 17 = .ok (.iload_n 2, 1) := by decide +kernel
theorem dX2_hasPart_18 : decode cX2_hasPart 18 = .ok (.aload_n 0, 1) := by decide +kernel
theorem dX2_hasPart_19 : decode cX2_hasPart 19 = .ok (.getfield 13, 3) := by decide +kernel
theorem dX2_hasPart_22 : decode cX2_hasPart 22 = .ok (.arraylength, 1) := by decide +kernel
theorem dX2_hasPart_23 : decode cX2_hasPart 23 = .ok (.iload_n 1, 1) := by decide +kernel
theorem dX2_hasPart_24 : decode cX2_hasPart 24 = .ok (.isub, 1) := by decide +kernel
theorem dX2_hasPart_25 : decode cX2_hasPart 25 = .ok (.if_icmp .gt 7, 3) := by decide +kernel
theorem dX2_hasPart_28 : decode cX2_hasPart 28 = .ok (.iconst 1, 1) := by decide +kernel
theorem dX2_hasPart_29 : decode cX2_hasPart 29 = .ok (.goto 4, 3) := by decide +kernel
theorem dX2_hasPart_32 : decode cX2_hasPart 32 = .ok (.iconst 0, 1) := by decide +kernel
theorem dX2_hasPart_33 : decode cX2_hasPart 33 = .ok (.ireturn, 1) := by decide +kernel
theorem dX2_copyTo_0 : decode cX2_copyTo 0 = .ok (.aload_n 0, 1) := by decide +kernel
theorem dX2_copyTo_1 : decode cX2_copyTo 1 = .ok (.iload_n 3, 1) := by decide +kernel
theorem dX2_copyTo_2 : decode cX2_copyTo 2 = .ok (.iload 4, 2) := by decide +kernel
theorem dX2_copyTo_4 : decode cX2_copyTo 4 = .ok (.invokevirtual 27, 3) := by decide +kernel
theorem dX2_copyTo_7 : decode cX2_copyTo 7 = .ok (.ifCond .eq 28, 3) := by decide +kernel
theorem dX2_copyTo_10 : decode cX2_copyTo 10 = .ok (.aload_n 1, 1) := by decide +kernel
theorem dX2_copyTo_11 : decode cX2_copyTo 11 = .ok (.iload_n 2, 1) := by decide +kernel
theorem dX2_copyTo_12 : decode cX2_copyTo 12 = .ok (.iload 4, 2) := by decide +kernel
theorem dX2_copyTo_14 : decode cX2_copyTo 14 = .ok (.invokevirtual 27, 3) := by decide +kernel
theorem dX2_copyTo_17 : decode cX2_copyTo 17 = .ok (.ifCond .eq 18, 3) := by decide +kernel
theorem dX2_copyTo_20 : decode cX2_copyTo 20 = .ok (.aload_n 0, 1) := by decide +kernel
theorem dX2_copyTo_21 : decode cX2_copyTo 21 = .ok (.getfield 13, 3) := by decide +kernel
theorem dX2_copyTo_24 : decode cX2_copyTo 24 = .ok (.iload_n 3, 1) := by decide +kernel
theorem dX2_copyTo_25 : decode cX2_copyTo 25 = .ok (.aload_n 1, 1) := by decide +kernel
theorem dX2_copyTo_26 : decode cX2_copyTo 26 = .ok (.getfield 13, 3) := by decide +kernel
theorem dX2_copyTo_29 : decode cX2_copyTo 29 = .ok (.iload_n 2, 1) := by decide +kernel
theorem dX2_copyTo_30 : decode cX2_copyTo 30 = .ok (.iload 4, 2) := by decide +kernel
theorem dX2_copyTo_32 : decode cX2_copyTo 32 = .ok (.invokestatic 31, 3) := by decide +kernel
theorem dX2_copyTo_35 : decode cX2_copyTo 35 = .ok (.return_, 1) := by decide +kernel
theorem dX2_addedTo_0 : decode cX2_addedTo 0 = .ok (.lload_n 1, 1) := by decide +kernel
theorem dX2_addedTo_1 : decode cX2_addedTo 1 = .ok (.lstore 4, 2) := by decide +kernel
theorem dX2_addedTo_3 : decode cX2_addedTo 3 = .ok (.iconst 0, 1) := by decide +kernel
theorem dX2_addedTo_4 : decode cX2_addedTo 4 = .ok (.istore 6, 2) := by decide +kernel
theorem dX2_addedTo_6 : decode cX2_addedTo 6 = .ok (.iload 6, 2) := by decide +kernel
theorem dX2_addedTo_8 : decode cX2_addedTo 8 = .ok (.iload_n 3, 1) := by decide +kernel
theorem dX2_addedTo_9 : decode cX2_addedTo 9 = .ok (.if_icmp .ge 25, 3) := by decide +kernel
theorem dX2_addedTo_12 : decode cX2_addedTo 12 = .ok (.ldc2_w 37, 3) := by decide +kernel
theorem dX2_addedTo_15 : decode cX2_addedTo 15 = .ok (.lload 4, 2) := by decide +kernel
theorem dX2_addedTo_17 : decode cX2_addedTo 17 = .ok (.lmul, 1) := by decide +kernel
theorem dX2_addedTo_18 : decode cX2_addedTo 18 = .ok (.aload_n 0, 1) := by decide +kernel
theorem dX2_addedTo_19 : decode cX2_addedTo 19 = .ok (.iload 6, 2) := by decide +kernel
theorem dX2_addedTo_21 : decode cX2_addedTo 21 = .ok (.invokevirtual 23, 3) := by decide +kernel
theorem dX2_addedTo_24 : decode cX2_addedTo 24 = .ok (.i2l, 1) := by decide +kernel
theorem dX2_addedTo_25 : decode cX2_addedTo 25 = .ok (.ladd, 1) := by decide +kernel
theorem dX2_addedTo_26 : decode cX2_addedTo 26 = .ok (.lstore 4, 2) := by decide +kernel
theorem dX2_addedTo_28 : decode cX2_addedTo 28 = .ok (.iinc 6 1, 3) := by decide +kernel
theorem dX2_addedTo_31 : decode cX2_addedTo 31 = .ok (.goto (-25), 3) := by decide +kernel
theorem dX2_addedTo_34 : decode cX2_addedTo 34 = .ok (.lload 4, 2) := by decide +kernel
theorem dX2_addedTo_36 : decode cX2_addedTo 36 = .ok (.lreturn, 1) := by decide +kernel
theorem dX3_init_0 : decode cX3_init 0 = .ok (.aload_n 0, 1) := by decide +kernel
theorem dX3_init_1 : decode cX3_init 1 = .ok (.invokespecial 1, 3) := by decide +kernel
theorem dX3_init_4 : decode cX3_init 4 = .ok (.aload_n 0, 1) := by decide +kernel
theorem dX3_init_5 : decode cX3_init 5 = .ok (.iconst 4, 1) := by decide +kernel
theorem dX3_init_6 : decode cX3_init 6 = .ok (.anewarray 9, 3) := by decide +kernel
theorem dX3_init_9 : decode cX3_init 9 = .ok (.putfield 11, 3) := by decide +kernel
theorem dX3_init_12 : decode cX3_init 12 = .ok (.iconst 0, 1) := by decide +kernel
theorem dX3_init_13 : decode cX3_init 13 = .ok (.istore_n 1, 1) := by decide +kernel
theorem dX3_init_14 : decode cX3_init 14 = .ok (.iload_n 1, 1) := by decide +kernel
theorem dX3_init_15 : decode cX3_init 15 = .ok (.aload_n 0, 1) := by decide +kernel
theorem dX3_init_16 : decode cX3_init 16 = .ok (.getfield 11, 3) := by decide +kernel
theorem dX3_init_19 : decode cX3_init 19 = .ok (.arraylength, 1) := by decide +kernel
theorem dX3_init_20 : decode cX3_init 20 = .ok (.if_icmp .ge 23, 3) := by decide +kernel
theorem dX3_init_23 : decode cX3_init 23 = .ok (.aload_n 0, 1) := by decide +kernel
theorem dX3_init_24 : decode cX3_init 24 = .ok (.getfield 11, 3) := by decide +kernel
theorem dX3_init_27 : decode cX3_init 27 = .ok (.iload_n 1, 1) := by decide +kernel
theorem dX3_init_28 : decode cX3_init 28 = .ok (.new 9, 3) := by decide +kernel
theorem dX3_init_31 : decode cX3_init 31 = .ok (.dup, 1) := by decide +kernel
theorem dX3_init_32 : decode cX3_init 32 = .ok (.iconst 0, 1) := by decide +kernel
theorem dX3_init_33 : decode cX3_init 33 = .ok (.invokespecial 15, 3) := by decide +kernel
theorem dX3_init_36 : decode cX3_init 36 = .ok (.aastore, 1) := by decide +kernel
theorem dX3_init_37 : decode cX3_init 37 = .ok (.iinc 1 1, 3) := by decide +kernel
theorem dX3_init_40 : decode cX3_init 40 = .ok (.goto (-26), 3) := by decide +kernel
theorem dX3_init_43 : decode cX3_init 43 = .ok (.aload_n 0, 1) := by decide +kernel
theorem dX3_init_44 : decode cX3_init 44 = .ok (.iconst 3, 1) := by decide +kernel
theorem dX3_init_45 : decode cX3_init 45 = .ok (.anewarray 18, 3) := by decide +kernel
theorem dX3_init_48 : decode cX3_init 48 = .ok (.putfield 20, 3) := by decide +kernel
theorem dX3_init_51 : decode cX3_init 51 = .ok (.iconst 0, 1) := by decide +kernel
theorem dX3_init_52 : decode cX3_init 52 = .ok (.istore_n 1, 1) := by decide +kernel
theorem dX3_init_53 : decode cX3_init 53 = .ok (.iload_n 1, 1) := by decide +kernel
theorem dX3_init_54 : decode cX3_init 54 = .ok (.aload_n 0, 1) := by decide +kernel
theorem dX3_init_55 : decode cX3_init 55 = .ok (.getfield 20, 3) := by decide +kernel
theorem dX3_init_58 : decode cX3_init 58 = .ok (.arraylength, 1) := by decide +kernel
theorem dX3_init_59 : decode cX3_init 59 = .ok (.if_icmp .ge 22, 3) := by decide +kernel
theorem dX3_init_62 : decode cX3_init 62 = .ok (.aload_n 0, 1) := by decide +kernel
theorem dX3_init_63 : decode cX3_init 63 = .ok (.getfield 20, 3) := by decide +kernel
theorem dX3_init_66 : decode cX3_init 66 = .ok (.iload_n 1, 1) := by decide +kernel
theorem dX3_init_67 : decode cX3_init 67 = .ok (.new 18, 3) := by decide +kernel
theorem dX3_init_70 : decode cX3_init 70 = .ok (.dup, 1) := by decide +kernel
theorem dX3_init_71 : decode cX3_init 71 = .ok (.invokespecial 24, 3) := by decide +kernel
theorem dX3_init_74 : decode cX3_init 74 = .ok (.aastore, 1) := by decide +kernel
theorem dX3_init_75 : decode cX3_init 75 = .ok (.iinc 1 1, 3) := by decide +kernel
theorem dX3_init_78 : decode cX3_init 78 = .ok (.goto (-25), 3) := by decide +kernel
theorem dX3_init_81 : decode cX3_init 81 = .ok (.aload_n 0, 1) := by decide +kernel
theorem dX3_init_82 : decode cX3_init 82 = .ok (.iconst 3, 1) := by decide +kernel
theorem dX3_init_83 : decode cX3_init 83 = .ok (.anewarray 25, 3) := by decide +kernel
theorem dX3_init_86 : decode cX3_init 86 = .ok (.putfield 27, 3) := by decide +kernel
theorem dX3_init_89 : decode cX3_init 89 = .ok (.iconst 0, 1) := by decide +kernel
theorem dX3_init_90 : decode cX3_init 90 = .ok (.istore_n 1, 1) := by decide +kernel
theorem dX3_init_91 : decode cX3_init 91 = .ok (.iload_n 1, 1) := by decide +kernel
theorem dX3_init_92 : decode cX3_init 92 = .ok (.aload_n 0, 1) := by decide +kernel
theorem dX3_init_93 : decode cX3_init 93 = .ok (.getfield 27, 3) := by decide +kernel
theorem dX3_init_96 : decode cX3_init 96 = .ok (.arraylength, 1) := by decide +kernel
theorem dX3_init_97 : decode cX3_init 97 = .ok (.if_icmp .ge 22, 3) := by decide +kernel
theorem dX3_init_100 : decode cX3_init 100 = .ok (.aload_n 0, 1) := by decide +kernel
theorem dX3_init_101 : decode cX3_init 101 = .ok (.getfield 27, 3) := by decide +kernel
theorem dX3_init_104 : decode cX3_init 104 = .ok (.iload_n 1, 1) := by decide +kernel
theorem dX3_init_105 : decode cX3_init 105 = .ok (.new 25, 3) := by decide +kernel
theorem dX3_init_108 : decode cX3_init 108 = .ok (.dup, 1) := by decide +kernel
theorem dX3_init_109 : decode cX3_init 109 = .ok (.invokespecial 31, 3) := by decide +kernel
theorem dX3_init_112 : decode cX3_init 112 = .ok (.aastore, 1) := by decide +kernel
theorem dX3_init_113 : decode cX3_init 113 = .ok (.iinc 1 1, 3) := by decide +kernel
theorem dX3_init_116 : decode cX3_init 116 = .ok (.goto (-25), 3) := by decide +kernel
theorem dX3_init_119 : decode cX3_init 119 = .ok (.aload_n 0, 1) := by decide +kernel
theorem dX3_init_120 : decode cX3_init 120 = .ok (.new 25, 3) := by decide +kernel
theorem dX3_init_123 : decode cX3_init 123 = .ok (.dup, 1) := by decide +kernel
theorem dX3_init_124 : decode cX3_init 124 = .ok (.invokespecial 31, 3) := by decide +kernel
theorem dX3_init_127 : decode cX3_init 127 = .ok (.putfield 32, 3) := by decide +kernel
theorem dX3_init_130 : decode cX3_init 130 = .ok (.aload_n 0, 1) := by decide +kernel
theorem dX3_init_131 : decode cX3_init 131 = .ok (.new 18, 3) := by decide +kernel
theorem dX3_init_134 : decode cX3_init 134 = .ok (.dup, 1) := by decide +kernel
theorem dX3_init_135 : decode cX3_init 135 = .ok (.invokespecial 24, 3) := by decide +kernel
theorem dX3_init_138 : decode cX3_init 138 = .ok (.putfield 36, 3) := by decide +kernel
theorem dX3_init_141 : decode cX3_init 141 = .ok (.return_, 1) := by decide +kernel
theorem dX3_make_0 : decode cX3_make 0 = .ok (.aload_n 0, 1) := by decide +kernel
theorem dX3_make_1 : decode cX3_make 1 = .ok (.iload_n 1, 1) := by decide +kernel
theorem dX3_make_2 : decode cX3_make 2 = .ok (.invokevirtual 40, 3) := by decide +kernel
theorem dX3_make_5 : decode cX3_make 5 = .ok (.astore_n 3, 1) := by decide +kernel
theorem dX3_make_6 : decode cX3_make 6 = .ok (.iload_n 2, 1) := by decide +kernel
theorem dX3_make_7 : decode cX3_make 7 = .ok (.ifCond .lt 10, 3) := by decide +kernel
theorem dX3_make_10 : decode cX3_make 10 = .ok (.iload_n 2, 1) := by decide +kernel
theorem dX3_make_11 : decode cX3_make 11 = .ok (.sipush 256, 3) := by decide +kernel
theorem dX3_make_14 : decode cX3_make 14 = .ok (.if_icmp .le 13, 3) := by decide +kernel
theorem dX3_make_17 : decode cX3_make 17 = .ok (.new 44, 3) := by decide +kernel
theorem dX3_make_20 : decode cX3_make 20 = .ok (.dup, 1) := by decide +kernel
theorem dX3_make_21 : decode cX3_make 21 = .ok (.ldc 46, 2) := by decide +kernel
theorem dX3_make_23 : decode cX3_make 23 = .ok (.invokespecial 48, 3) := by decide +kernel
theorem dX3_make_26 : decode cX3_make 26 = .ok (.athrow, 1) := by decide +kernel
theorem dX3_make_27 : decode cX3_make 27 = .ok (.aload_n 0, 1) := by decide +kernel
theorem dX3_make_28 : decode cX3_make 28 = .ok (.getfield 11, 3) := by decide +kernel
theorem dX3_make_31 : decode cX3_make 31 = .ok (.iload_n 1, 1) := by decide +kernel
theorem dX3_make_32 : decode cX3_make 32 = .ok (.new 9, 3) := by decide +kernel
theorem dX3_make_35 : decode cX3_make 35 = .ok (.dup, 1) := by decide +kernel
theorem dX3_make_36 : decode cX3_make 36 = .ok (.iload_n 2, 1) := by decide +kernel
theorem dX3_make_37 : decode cX3_make 37 = .ok (.invokespecial 15, 3) := by decide +kernel
theorem dX3_make_40 : decode cX3_make 40 = .ok (.aastore, 1) := by decide +kernel
theorem dX3_make_41 : decode cX3_make 41 = .ok (.aload_n 3, 1) := by decide +kernel
theorem dX3_make_42 : decode cX3_make 42 = .ok (.invokevirtual 51, 3) := by decide +kernel
theorem dX3_make_45 : decode cX3_make 45 = .ok (.ireturn, 1) := by decide +kernel
theorem dX3_lend_0 : decode cX3_lend 0 = .ok (.aload_n 0, 1) := by decide +kernel
theorem dX3_lend_1 : decode cX3_lend 1 = .ok (.iload_n 1, 1) := by decide +kernel
theorem dX3_lend_2 : decode cX3_lend 2 = .ok (.invokevirtual 40, 3) := by decide +kernel
theorem dX3_lend_5 : decode cX3_lend 5 = .ok (.astore_n 3, 1) := by decide +kernel
theorem dX3_lend_6 : decode cX3_lend 6 = .ok (.aload_n 0, 1) := by decide +kernel
theorem dX3_lend_7 : decode cX3_lend 7 = .ok (.iload_n 2, 1) := by decide +kernel
theorem dX3_lend_8 : decode cX3_lend 8 = .ok (.invokevirtual 40, 3) := by decide +kernel
theorem dX3_lend_11 : decode cX3_lend 11 = .ok (.astore 4, 2) := by decide +kernel
theorem dX3_lend_13 : decode cX3_lend 13 = .ok (.aload_n 0, 1) := by decide +kernel
theorem dX3_lend_14 : decode cX3_lend 14 = .ok (.getfield 11, 3) := by decide +kernel
theorem dX3_lend_17 : decode cX3_lend 17 = .ok (.iload_n 2, 1) := by decide +kernel
theorem dX3_lend_18 : decode cX3_lend 18 = .ok (.aload_n 3, 1) := by decide +kernel
theorem dX3_lend_19 : decode cX3_lend 19 = .ok (.aastore, 1) := by decide +kernel
theorem dX3_lend_20 : decode cX3_lend 20 = .ok (.aload 4, 2) := by decide +kernel
theorem dX3_lend_22 : decode cX3_lend 22 = .ok (.invokevirtual 51, 3) := by decide +kernel
theorem dX3_lend_25 : decode cX3_lend 25 = .ok (.ireturn, 1) := by decide +kernel
theorem dX3_length_0 : decode cX3_length 0 = .ok (.aload_n 0, 1) := by decide +kernel
theorem dX3_length_1 : decode cX3_length 1 = .ok (.iload_n 1, 1) := by decide +kernel
theorem dX3_length_2 : decode cX3_length 2 = .ok (.invokevirtual 40, 3) := by decide +kernel
theorem dX3_length_5 : decode cX3_length 5 = .ok (.invokevirtual 51, 3) := by decide +kernel
theorem dX3_length_8 : decode cX3_length 8 = .ok (.ireturn, 1) := by decide +kernel
theorem dX3_get_0 : decode cX3_get 0 = .ok (.aload_n 0, 1) := by decide +kernel
theorem dX3_get_1 : decode cX3_get 1 = .ok (.iload_n 1, 1) := by decide +kernel
theorem dX3_get_2 : decode cX3_get 2 = .ok (.invokevirtual 40, 3) := by decide +kernel
theorem dX3_get_5 : decode cX3_get 5 = .ok (.astore_n 3, 1) := by decide +kernel
theorem dX3_get_6 : decode cX3_get 6 = .ok (.aload_n 3, 1) := by decide +kernel
theorem dX3_get_7 : decode cX3_get 7 = .ok (.iload_n 2, 1) := by decide +kernel
theorem dX3_get_8 : decode cX3_get 8 = .ok (.iconst 1, 1) := by decide +kernel
theorem dX3_get_9 : decode cX3_get 9 = .ok (.invokestatic 55, 3) := by decide +kernel
theorem dX3_get_12 : decode cX3_get 12 = .ok (.aload_n 3, 1) := by decide +kernel
theorem dX3_get_13 : decode cX3_get 13 = .ok (.iload_n 2, 1) := by decide +kernel
theorem dX3_get_14 : decode cX3_get 14 = .ok (.invokevirtual 59, 3) := by decide +kernel
theorem dX3_get_17 : decode cX3_get 17 = .ok (.ireturn, 1) := by decide +kernel
theorem dX3_put_0 : decode cX3_put 0 = .ok (.aload_n 0, 1) := by decide +kernel
theorem dX3_put_1 : decode cX3_put 1 = .ok (.iload_n 1, 1) := by decide +kernel
theorem dX3_put_2 : decode cX3_put 2 = .ok (.invokevirtual 40, 3) := by decide +kernel
theorem dX3_put_5 : decode cX3_put 5 = .ok (.astore 4, 2) := by decide +kernel
theorem dX3_put_7 : decode cX3_put 7 = .ok (.aload 4, 2) := by decide +kernel
theorem dX3_put_9 : decode cX3_put 9 = .ok (.iload_n 2, 1) := by decide +kernel
theorem dX3_put_10 : decode cX3_put 10 = .ok (.iconst 1, 1) := by decide +kernel
theorem dX3_put_11 : decode cX3_put 11 = .ok (.invokestatic 55, 3) := by decide +kernel
theorem dX3_put_14 : decode cX3_put 14 = .ok (.aload 4, 2) := by decide +kernel
theorem dX3_put_16 : decode cX3_put 16 = .ok (.iload_n 2, 1) := by decide +kernel
theorem dX3_put_17 : decode cX3_put 17 = .ok (.iload_n 3, 1) := by decide +kernel
theorem dX3_put_18 : decode cX3_put 18 = .ok (.invokevirtual 63, 3) := by decide +kernel
theorem dX3_put_21 : decode cX3_put 21 = .ok (.ireturn, 1) := by decide +kernel
theorem dX3_fill_0 : decode cX3_fill 0 = .ok (.aload_n 0, 1) := by decide +kernel
theorem dX3_fill_1 : decode cX3_fill 1 = .ok (.iload_n 1, 1) := by decide +kernel
theorem dX3_fill_2 : decode cX3_fill 2 = .ok (.invokevirtual 40, 3) := by decide +kernel
theorem dX3_fill_5 : decode cX3_fill 5 = .ok (.astore 6, 2) := by decide +kernel
theorem dX3_fill_7 : decode cX3_fill 7 = .ok (.aload 6, 2) := by decide +kernel
theorem dX3_fill_9 : decode cX3_fill 9 = .ok (.iload_n 2, 1) := by decide +kernel
theorem dX3_fill_10 : decode cX3_fill 10 = .ok (.iload_n 3, 1) := by decide +kernel
theorem dX3_fill_11 : decode cX3_fill 11 = .ok (.invokestatic 55, 3) := by decide +kernel
theorem dX3_fill_14 : decode cX3_fill 14 = .ok (.iconst 0, 1) := by decide +kernel
theorem dX3_fill_15 : decode cX3_fill 15 = .ok (.istore 7, 2) := by decide +kernel
theorem dX3_fill_17 : decode cX3_fill 17 = .ok (.iload 4, 2) := by decide +kernel
theorem dX3_fill_19 : decode cX3_fill 19 = .ok (.istore 8, 2) := by decide +kernel
theorem dX3_fill_21 : decode cX3_fill 21 = .ok (.iconst 0, 1) := by decide +kernel
theorem dX3_fill_22 : decode cX3_fill 22 = .ok (.istore 9, 2) := by decide +kernel
theorem dX3_fill_24 : decode cX3_fill 24 = .ok (.iload 9, 2) := by decide +kernel
theorem dX3_fill_26 : decode cX3_fill 26 = .ok (.iload_n 3, 1) := by decide +kernel
theorem dX3_fill_27 : decode cX3_fill 27 = .ok (.if_icmp .ge 32, 3) := by decide +kernel
theorem dX3_fill_30 : decode cX3_fill 30 = .ok (.iload 7, 2) := by decide +kernel
theorem dX3_fill_32 : decode cX3_fill 32 = .ok (.aload 6, 2) := by decide +kernel
theorem dX3_fill_34 : decode cX3_fill 34 = .ok (.iload_n 2, 1) := by decide +kernel
theorem dX3_fill_35 : decode cX3_fill 35 = .ok (.iload 9, 2) := by decide +kernel
theorem dX3_fill_37 : decode cX3_fill 37 = .ok (.iadd, 1) := by decide +kernel
theorem dX3_fill_38 : decode cX3_fill 38 = .ok (.iload 8, 2) := by decide +kernel
theorem dX3_fill_40 : decode cX3_fill 40 = .ok (.invokevirtual 63, 3) := by decide +kernel
theorem dX3_fill_43 : decode cX3_fill 43 = .ok (.iadd, 1) := by decide +kernel
theorem dX3_fill_44 : decode cX3_fill 44 = .ok (.istore 7, 2) := by decide +kernel
theorem dX3_fill_46 : decode cX3_fill 46 = .ok (.iload 8, 2) := by decide +kernel
theorem dX3_fill_48 : decode cX3_fill 48 = .ok (.iload 5, 2) := by decide +kernel
theorem dX3_fill_50 : decode cX3_fill 50 = .ok (.iadd, 1) := by decide +kernel
theorem dX3_fill_51 : decode cX3_fill 51 = .ok (.istore 8, 2) := by decide +kernel
theorem dX3_fill_53 : decode cX3_fill 53 = .ok (.iinc 9 1, 3) := by decide +kernel
theorem dX3_fill_56 : decode cX3_fill 56 = .ok (.goto (-32), 3) := by decide +kernel
theorem dX3_fill_59 : decode cX3_fill 59 = .ok (.iload 7, 2) := by decide +kernel
theorem dX3_fill_61 : decode cX3_fill 61 = .ok (.ireturn, 1) := by decide +kernel
theorem dX3_isLike_0 : decode cX3_isLike 0 = .ok (.aload_n 0, 1) := by decide +kernel
theorem dX3_isLike_1 : decode cX3_isLike 1 = .ok (.iload_n 1, 1) := by decide +kernel
theorem dX3_isLike_2 : decode cX3_isLike 2 = .ok (.invokevirtual 40, 3) := by decide +kernel
theorem dX3_isLike_5 : decode cX3_isLike 5 = .ok (.astore_n 3, 1) := by decide +kernel
theorem dX3_isLike_6 : decode cX3_isLike 6 = .ok (.aload_n 0, 1) := by decide +kernel
theorem dX3_isLike_7 : decode cX3_isLike 7 = .ok (.iload_n 2, 1) := by decide +kernel
theorem dX3_isLike_8 : decode cX3_isLike 8 = .ok (.invokevirtual 40, 3) := by decide +kernel
theorem dX3_isLike_11 : decode cX3_isLike 11 = .ok (.astore 4, 2) := by decide +kernel
theorem dX3_isLike_13 : decode cX3_isLike 13 = .ok (.aload_n 3, 1) := by decide +kernel
theorem dX3_isLike_14 : decode cX3_isLike 14 = .ok (.invokevirtual 51, 3) := by decide +kernel
theorem dX3_isLike_17 : decode cX3_isLike 17 = .ok (.aload 4, 2) := by decide +kernel
theorem dX3_isLike_19 : decode cX3_isLike 19 = .ok (.invokevirtual 51, 3) := by decide +kernel
theorem dX3_isLike_22 : decode cX3_isLike 22 = .ok (.if_icmp .eq 5, 3) := by decide +kernel
theorem dX3_isLike_25 : decode cX3_isLike 25 = .ok (.iconst 0, 1) := by decide +kernel
theorem dX3_isLike_26 : decode cX3_isLike 26 = .ok (.ireturn, 1) := by decide +kernel
theorem dX3_isLike_27 : decode cX3_isLike 27 = .ok (.iconst 0, 1) := by decide +kernel
theorem dX3_isLike_28 : decode cX3_isLike 28 = .ok (.istore 5, 2) := by decide +kernel
theorem dX3_isLike_30 : decode cX3_isLike 30 = .ok (.iload 5, 2) := by decide +kernel
theorem dX3_isLike_32 : decode cX3_isLike 32 = .ok (.aload_n 3, 1) := by decide +kernel
theorem dX3_isLike_33 : decode cX3_isLike 33 = .ok (.invokevirtual 51, 3) := by decide +kernel
theorem dX3_isLike_36 : decode cX3_isLike 36 = .ok (.if_icmp .ge 27, 3) := by decide +kernel
theorem dX3_isLike_39 : decode cX3_isLike 39 = .ok (.aload_n 3, 1) := by decide +kernel
theorem dX3_isLike_40 : decode cX3_isLike 40 = .ok (.iload 5, 2) := by decide +kernel
theorem dX3_isLike_42 : decode cX3_isLike 42 = .ok (.invokevirtual 59, 3) := by decide +kernel
theorem dX3_isLike_45 : decode cX3_isLike 45 = .ok (.aload 4, 2) := by decide +kernel
theorem dX3_isLike_47 : decode cX3_isLike 47 = .ok (.iload 5, 2) := by decide +kernel
theorem dX3_isLike_49 : decode cX3_isLike 49 = .ok (.invokevirtual 59, 3) := by decide +kernel
theorem dX3_isLike_52 : decode cX3_isLike 52 = .ok (.if_icmp .eq 5, 3) := by decide +kernel
theorem dX3_isLike_55 : decode cX3_isLike 55 = .ok (.iconst 0, 1) := by decide +kernel
theorem dX3_isLike_56 : decode cX3_isLike 56 = .ok (.ireturn, 1) := by decide +kernel
theorem dX3_isLike_57 : decode cX3_isLike 57 = .ok (.iinc 5 1, 3) := by decide +kernel
theorem dX3_isLike_60 : decode cX3_isLike 60 = .ok (.goto (-30), 3) := by decide +kernel
theorem dX3_isLike_63 : decode cX3_isLike 63 = .ok (.iconst 1, 1) := by decide +kernel
theorem dX3_isLike_64 : decode cX3_isLike 64 = .ok (.ireturn, 1) := by decide +kernel
theorem dX3_write_0 : decode cX3_write 0 = .ok (.aload_n 0, 1) := by decide +kernel
theorem dX3_write_1 : decode cX3_write 1 = .ok (.iload_n 1, 1) := by decide +kernel
theorem dX3_write_2 : decode cX3_write 2 = .ok (.invokevirtual 67, 3) := by decide +kernel
theorem dX3_write_5 : decode cX3_write 5 = .ok (.astore_n 3, 1) := by decide +kernel
theorem dX3_write_6 : decode cX3_write 6 = .ok (.aload_n 3, 1) := by decide +kernel
theorem dX3_write_7 : decode cX3_write 7 = .ok (.iconst 1, 1) := by decide +kernel
theorem dX3_write_8 : decode cX3_write 8 = .ok (.invokestatic 71, 3) := by decide +kernel
theorem dX3_write_11 : decode cX3_write 11 = .ok (.aload_n 3, 1) := by decide +kernel
theorem dX3_write_12 : decode cX3_write 12 = .ok (.iload_n 2, 1) := by decide +kernel
theorem dX3_write_13 : decode cX3_write 13 = .ok (.invokevirtual 75, 3) := by decide +kernel
theorem dX3_write_16 : decode cX3_write 16 = .ok (.aload_n 3, 1) := by decide +kernel
theorem dX3_write_17 : decode cX3_write 17 = .ok (.invokevirtual 78, 3) := by decide +kernel
theorem dX3_write_20 : decode cX3_write 20 = .ok (.ireturn, 1) := by decide +kernel
theorem dX3_writePart_0 : decode cX3_writePart 0 = .ok (.aload_n 0, 1) := by decide +kernel
theorem dX3_writePart_1 : decode cX3_writePart 1 = .ok (.iload_n 1, 1) := by decide +kernel
theorem dX3_writePart_2 : decode cX3_writePart 2 = .ok (.invokevirtual 67, 3) := by decide +kernel
theorem dX3_writePart_5 : decode cX3_writePart 5 = .ok (.astore 5, 2) := by decide +kernel
theorem dX3_writePart_7 : decode cX3_writePart 7 = .ok (.aload_n 0, 1) := by decide +kernel
theorem dX3_writePart_8 : decode cX3_writePart 8 = .ok (.iload_n 2, 1) := by decide +kernel
theorem dX3_writePart_9 : decode cX3_writePart 9 = .ok (.invokevirtual 40, 3) := by decide +kernel
theorem dX3_writePart_12 : decode cX3_writePart 12 = .ok (.astore 6, 2) := by decide +kernel
theorem dX3_writePart_14 : decode cX3_writePart 14 = .ok (.aload 6, 2) := by decide +kernel
theorem dX3_writePart_16 : decode cX3_writePart 16 = .ok (.iload_n 3, 1) := by decide +kernel
theorem dX3_writePart_17 : decode cX3_writePart 17 = .ok (.iload 4, 2) := by decide +kernel
theorem dX3_writePart_19 : decode cX3_writePart 19 = .ok (.invokestatic 55, 3) := by decide +kernel
theorem dX3_writePart_22 : decode cX3_writePart 22 = .ok (.aload 5, 2) := by decide +kernel
theorem dX3_writePart_24 : decode cX3_writePart 24 = .ok (.iload 4, 2) := by decide +kernel
theorem dX3_writePart_26 : decode cX3_writePart 26 = .ok (.invokestatic 71, 3) := by decide +kernel
theorem dX3_writePart_29 : decode cX3_writePart 29 = .ok (.aload 5, 2) := by decide +kernel
theorem dX3_writePart_31 : decode cX3_writePart 31 = .ok (.aload 6, 2) := by decide +kernel
theorem dX3_writePart_33 : decode cX3_writePart 33 = .ok (.iload_n 3, 1) := by decide +kernel
theorem dX3_writePart_34 : decode cX3_writePart 34 = .ok (.iload 4, 2) := by decide +kernel
theorem dX3_writePart_36 : decode cX3_writePart 36 = .ok (.invokevirtual 79, 3) := by decide +kernel
theorem dX3_writePart_39 : decode cX3_writePart 39 = .ok (.aload 5, 2) := by decide +kernel
theorem dX3_writePart_41 : decode cX3_writePart 41 = .ok (.invokevirtual 78, 3) := by decide +kernel
theorem dX3_writePart_44 : decode cX3_writePart 44 = .ok (.ireturn, 1) := by decide +kernel
theorem dX3_writeRow_0 : decode cX3_writeRow 0 = .ok (.aload_n 0, 1) := by decide +kernel
theorem dX3_writeRow_1 : decode cX3_writeRow 1 = .ok (.iload_n 1, 1) := by decide +kernel
theorem dX3_writeRow_2 : decode cX3_writeRow 2 = .ok (.invokevirtual 67, 3) := by decide +kernel
theorem dX3_writeRow_5 : decode cX3_writeRow 5 = .ok (.astore_n 3, 1) := by decide +kernel
theorem dX3_writeRow_6 : decode cX3_writeRow 6 = .ok (.aload_n 0, 1) := by decide +kernel
theorem dX3_writeRow_7 : decode cX3_writeRow 7 = .ok (.iload_n 2, 1) := by decide +kernel
theorem dX3_writeRow_8 : decode cX3_writeRow 8 = .ok (.invokevirtual 40, 3) := by decide +kernel
theorem dX3_writeRow_11 : decode cX3_writeRow 11 = .ok (.astore 4, 2) := by decide +kernel
theorem dX3_writeRow_13 : decode cX3_writeRow 13 = .ok (.aload_n 3, 1) := by decide +kernel
theorem dX3_writeRow_14 : decode cX3_writeRow 14 = .ok (.aload 4, 2) := by decide +kernel
theorem dX3_writeRow_16 : decode cX3_writeRow 16 = .ok (.invokevirtual 51, 3) := by decide +kernel
theorem dX3_writeRow_19 : decode cX3_writeRow 19 = .ok (.invokestatic 71, 3) := by decide +kernel
theorem dX3_writeRow_22 : decode cX3_writeRow 22 = .ok (.aload_n 3, 1) := by decide +kernel
theorem dX3_writeRow_23 : decode cX3_writeRow 23 = .ok (.aload 4, 2) := by decide +kernel
theorem dX3_writeRow_25 : decode cX3_writeRow 25 = .ok (.iconst 0, 1) := by decide +kernel
theorem dX3_writeRow_26 : decode cX3_writeRow 26 = .ok (.aload 4, 2) := by decide +kernel
theorem dX3_writeRow_28 : decode cX3_writeRow 28 = .ok (.invokevirtual 51, 3) := by decide +kernel
theorem dX3_writeRow_31 : decode cX3_writeRow 31 = .ok (.invokevirtual 79, 3) := by decide +kernel
theorem dX3_writeRow_34 : decode cX3_writeRow 34 = .ok (.aload_n 3, 1) := by decide +kernel
theorem dX3_writeRow_35 : decode cX3_writeRow 35 = .ok (.invokevirtual 78, 3) := by decide +kernel
theorem dX3_writeRow_38 : decode cX3_writeRow 38 = .ok (.ireturn, 1) := by decide +kernel
theorem dX3_writeNumber_0 : decode cX3_writeNumber 0 = .ok (.aload_n 0, 1) := by decide +kernel
theorem dX3_writeNumber_1 : decode cX3_writeNumber 1 = .ok (.iload_n 1, 1) := by decide +kernel
theorem dX3_writeNumber_2 : decode cX3_writeNumber 2 = .ok (.invokevirtual 67, 3) := by decide +kernel
theorem dX3_writeNumber_5 : decode cX3_writeNumber 5 = .ok (.astore_n 3, 1) := by decide +kernel
theorem dX3_writeNumber_6 : decode cX3_writeNumber 6 = .ok (.aload_n 3, 1) := by decide +kernel
theorem dX3_writeNumber_7 : decode cX3_writeNumber 7 = .ok (.iconst 4, 1) := by decide +kernel
theorem dX3_writeNumber_8 : decode cX3_writeNumber 8 = .ok (.invokestatic 71, 3) := by decide +kernel
theorem dX3_writeNumber_11 : decode cX3_writeNumber 11 = .ok (.bipush 24, 2) := by decide +kernel
theorem dX3_writeNumber_13 : decode cX3_writeNumber 13 = .ok (.istore 4, 2) := by decide +kernel
theorem dX3_writeNumber_15 : decode cX3_writeNumber 15 = .ok (.iload 4, 2) := by decide +kernel
theorem dX3_writeNumber_17 : decode cX3_writeNumber 17 = .ok (.ifCond .lt 17, 3) := by decide +kernel
theorem dX3_writeNumber_20 : decode cX3_writeNumber 20 = .ok (.aload_n 3, 1) := by decide +kernel
theorem dX3_writeNumber_21 : decode cX3_writeNumber 21 = .ok (.iload_n 2, 1) := by decide +kernel
theorem dX3_writeNumber_22 : decode cX3_writeNumber 22 = .ok (.iload 4, 2) := by decide +kernel
theorem dX3_writeNumber_24 : decode cX3_writeNumber 24 = .ok (.ishr, 1) := by decide +kernel
theorem dX3_writeNumber_25 : decode cX3_writeNumber 25 = .ok (.invokevirtual 75, 3) := by decide +kernel
theorem dX3_writeNumber_28 : decode cX3_writeNumber 28 = .ok (.iinc 4 (-8), 3) := by decide +kernel
theorem dX3_writeNumber_31 : decode cX3_writeNumber 31 = .ok (.goto (-16), 3) := by decide +kernel
theorem dX3_writeNumber_34 : decode cX3_writeNumber 34 = .ok (.aload_n 3, 1) := by decide +kernel
theorem dX3_writeNumber_35 : decode cX3_writeNumber 35 = .ok (.invokevirtual 78, 3) := by decide +kernel
theorem dX3_writeNumber_38 : decode cX3_writeNumber 38 = .ok (.ireturn, 1) := by decide +kernel
theorem dX3_size_0 : decode cX3_size 0 = .ok (.aload_n 0, 1) := by decide +kernel
theorem dX3_size_1 : decode cX3_size 1 = .ok (.iload_n 1, 1) := by decide +kernel
theorem dX3_size_2 : decode cX3_size 2 = .ok (.invokevirtual 67, 3) := by decide +kernel
theorem dX3_size_5 : decode cX3_size 5 = .ok (.invokevirtual 78, 3) := by decide +kernel
theorem dX3_size_8 : decode cX3_size 8 = .ok (.ireturn, 1) := by decide +kernel
theorem dX3_empty_0 : decode cX3_empty 0 = .ok (.aload_n 0, 1) := by decide +kernel
theorem dX3_empty_1 : decode cX3_empty 1 = .ok (.iload_n 1, 1) := by decide +kernel
theorem dX3_empty_2 : decode cX3_empty 2 = .ok (.invokevirtual 67, 3) := by decide +kernel
theorem dX3_empty_5 : decode cX3_empty 5 = .ok (.astore_n 2, 1) := by decide +kernel
theorem dX3_empty_6 : decode cX3_empty 6 = .ok (.aload_n 2, 1) := by decide +kernel
theorem dX3_empty_7 : decode cX3_empty 7 = .ok (.invokevirtual 78, 3) := by decide +kernel
theorem dX3_empty_10 : decode cX3_empty 10 = .ok (.istore_n 3, 1) := by decide +kernel
theorem dX3_empty_11 : decode cX3_empty 11 = .ok (.aload_n 2, 1) := by decide +kernel
theorem dX3_empty_12 : decode cX3_empty 12 = .ok (.invokevirtual 82, 3) := by decide +kernel
theorem dX3_empty_15 : decode cX3_empty 15 = .ok (.iload_n 3, 1) := by decide +kernel
theorem dX3_empty_16 : decode cX3_empty 16 = .ok (.ireturn, 1) := by decide +kernel
theorem dX3_take_0 : decode cX3_take 0 = .ok (.aload_n 0, 1) := by decide +kernel
theorem dX3_take_1 : decode cX3_take 1 = .ok (.iload_n 1, 1) := by decide +kernel
theorem dX3_take_2 : decode cX3_take 2 = .ok (.invokevirtual 67, 3) := by decide +kernel
theorem dX3_take_5 : decode cX3_take 5 = .ok (.astore_n 3, 1) := by decide +kernel
theorem dX3_take_6 : decode cX3_take 6 = .ok (.aload_n 0, 1) := by decide +kernel
theorem dX3_take_7 : decode cX3_take 7 = .ok (.iload_n 2, 1) := by decide +kernel
theorem dX3_take_8 : decode cX3_take 8 = .ok (.invokevirtual 85, 3) := by decide +kernel
theorem dX3_take_11 : decode cX3_take 11 = .ok (.aload_n 3, 1) := by decide +kernel
theorem dX3_take_12 : decode cX3_take 12 = .ok (.invokevirtual 88, 3) := by decide +kernel
theorem dX3_take_15 : decode cX3_take 15 = .ok (.astore 4, 2) := by decide +kernel
theorem dX3_take_17 : decode cX3_take 17 = .ok (.aload_n 0, 1) := by decide +kernel
theorem dX3_take_18 : decode cX3_take 18 = .ok (.getfield 11, 3) := by decide +kernel
theorem dX3_take_21 : decode cX3_take 21 = .ok (.iload_n 2, 1) := by decide +kernel
theorem dX3_take_22 : decode cX3_take 22 = .ok (.aload 4, 2) := by decide +kernel
theorem dX3_take_24 : decode cX3_take 24 = .ok (.aastore, 1) := by decide +kernel
theorem dX3_take_25 : decode cX3_take 25 = .ok (.aload 4, 2) := by decide +kernel
theorem dX3_take_27 : decode cX3_take 27 = .ok (.invokevirtual 51, 3) := by decide +kernel
theorem dX3_take_30 : decode cX3_take 30 = .ok (.ireturn, 1) := by decide +kernel
theorem dX3_open_0 : decode cX3_open 0 = .ok (.aload_n 0, 1) := by decide +kernel
theorem dX3_open_1 : decode cX3_open 1 = .ok (.iload_n 1, 1) := by decide +kernel
theorem dX3_open_2 : decode cX3_open 2 = .ok (.invokevirtual 92, 3) := by decide +kernel
theorem dX3_open_5 : decode cX3_open 5 = .ok (.astore_n 3, 1) := by decide +kernel
theorem dX3_open_6 : decode cX3_open 6 = .ok (.aload_n 3, 1) := by decide +kernel
theorem dX3_open_7 : decode cX3_open 7 = .ok (.aload_n 0, 1) := by decide +kernel
theorem dX3_open_8 : decode cX3_open 8 = .ok (.iload_n 2, 1) := by decide +kernel
theorem dX3_open_9 : decode cX3_open 9 = .ok (.invokevirtual 40, 3) := by decide +kernel
theorem dX3_open_12 : decode cX3_open 12 = .ok (.invokevirtual 96, 3) := by decide +kernel
theorem dX3_open_15 : decode cX3_open 15 = .ok (.aload_n 3, 1) := by decide +kernel
theorem dX3_open_16 : decode cX3_open 16 = .ok (.invokevirtual 100, 3) := by decide +kernel
theorem dX3_open_19 : decode cX3_open 19 = .ok (.ireturn, 1) := by decide +kernel
theorem dX3_isOpen_0 : decode cX3_isOpen 0 = .ok (.aload_n 0, 1) := by decide +kernel
theorem dX3_isOpen_1 : decode cX3_isOpen 1 = .ok (.iload_n 1, 1) := by decide +kernel
theorem dX3_isOpen_2 : decode cX3_isOpen 2 = .ok (.invokevirtual 92, 3) := by decide +kernel
theorem dX3_isOpen_5 : decode cX3_isOpen 5 = .ok (.invokevirtual 103, 3) := by decide +kernel
theorem dX3_isOpen_8 : decode cX3_isOpen 8 = .ok (.ireturn, 1) := by decide +kernel
theorem dX3_read_0 : decode cX3_read 0 = .ok (.aload_n 0, 1) := by decide +kernel
theorem dX3_read_1 : decode cX3_read 1 = .ok (.iload_n 1, 1) := by decide +kernel
theorem dX3_read_2 : decode cX3_read 2 = .ok (.invokevirtual 92, 3) := by decide +kernel
theorem dX3_read_5 : decode cX3_read 5 = .ok (.astore_n 2, 1) := by decide +kernel
theorem dX3_read_6 : decode cX3_read 6 = .ok (.aload_n 2, 1) := by decide +kernel
theorem dX3_read_7 : decode cX3_read 7 = .ok (.invokestatic 107, 3) := by decide +kernel
theorem dX3_read_10 : decode cX3_read 10 = .ok (.aload_n 2, 1) := by decide +kernel
theorem dX3_read_11 : decode cX3_read 11 = .ok (.invokevirtual 100, 3) := by decide +kernel
theorem dX3_read_14 : decode cX3_read 14 = .ok (.ifCond .ne 5, 3) := by decide +kernel
theorem dX3_read_17 : decode cX3_read 17 = .ok (.iconst (-1), 1) := by decide +kernel
theorem dX3_read_18 : decode cX3_read 18 = .ok (.ireturn, 1) := by decide +kernel
theorem dX3_read_19 : decode cX3_read 19 = .ok (.aload_n 2, 1) := by decide +kernel
theorem dX3_read_20 : decode cX3_read 20 = .ok (.iconst 1, 1) := by decide +kernel
theorem dX3_read_21 : decode cX3_read 21 = .ok (.invokevirtual 111, 3) := by decide +kernel
theorem dX3_read_24 : decode cX3_read 24 = .ok (.pop, 1) := by decide +kernel
theorem dX3_read_25 : decode cX3_read 25 = .ok (.aload_n 2, 1) := by decide +kernel
theorem dX3_read_26 : decode cX3_read 26 = .ok (.invokevirtual 114, 3) := by decide +kernel
theorem dX3_read_29 : decode cX3_read 29 = .ok (.ireturn, 1) := by decide +kernel
theorem dX3_readPart_0 : decode cX3_readPart 0 = .ok (.aload_n 0, 1) := by decide +kernel
theorem dX3_readPart_1 : decode cX3_readPart 1 = .ok (.iload_n 1, 1) := by decide +kernel
theorem dX3_readPart_2 : decode cX3_readPart 2 = .ok (.invokevirtual 92, 3) := by decide +kernel
theorem dX3_readPart_5 : decode cX3_readPart 5 = .ok (.astore 5, 2) := by decide +kernel
theorem dX3_readPart_7 : decode cX3_readPart 7 = .ok (.aload_n 0, 1) := by decide +kernel
theorem dX3_readPart_8 : decode cX3_readPart 8 = .ok (.iload_n 2, 1) := by decide +kernel
theorem dX3_readPart_9 : decode cX3_readPart 9 = .ok (.invokevirtual 40, 3) := by decide +kernel
theorem dX3_readPart_12 : decode cX3_readPart 12 = .ok (.astore 6, 2) := by decide +kernel
theorem dX3_readPart_14 : decode cX3_readPart 14 = .ok (.aload 6, 2) := by decide +kernel
theorem dX3_readPart_16 : decode cX3_readPart 16 = .ok (.iload_n 3, 1) := by decide +kernel
theorem dX3_readPart_17 : decode cX3_readPart 17 = .ok (.iload 4, 2) := by decide +kernel
theorem dX3_readPart_19 : decode cX3_readPart 19 = .ok (.invokestatic 55, 3) := by decide +kernel
theorem dX3_readPart_22 : decode cX3_readPart 22 = .ok (.aload 5, 2) := by decide +kernel
theorem dX3_readPart_24 : decode cX3_readPart 24 = .ok (.invokestatic 107, 3) := by decide +kernel
theorem dX3_readPart_27 : decode cX3_readPart 27 = .ok (.aload 5, 2) := by decide +kernel
theorem dX3_readPart_29 : decode cX3_readPart 29 = .ok (.invokevirtual 100, 3) := by decide +kernel
theorem dX3_readPart_32 : decode cX3_readPart 32 = .ok (.ifCond .ne 5, 3) := by decide +kernel
theorem dX3_readPart_35 : decode cX3_readPart 35 = .ok (.iconst (-1), 1) := by decide +kernel
theorem dX3_readPart_36 : decode cX3_readPart 36 = .ok (.ireturn, 1) := by decide +kernel
theorem dX3_readPart_37 : decode cX3_readPart 37 = .ok (.aload 5, 2) := by decide +kernel
theorem dX3_readPart_39 : decode cX3_readPart 39 = .ok (.aload 5, 2) := by decide +kernel
theorem dX3_readPart_41 : decode cX3_readPart 41 = .ok (.aload 6, 2) := by decide +kernel
theorem dX3_readPart_43 : decode cX3_readPart 43 = .ok (.iload_n 3, 1) := by decide +kernel
theorem dX3_readPart_44 : decode cX3_readPart 44 = .ok (.iload 4, 2) := by decide +kernel
theorem dX3_readPart_46 : decode cX3_readPart 46 = .ok (.invokevirtual 117, 3) := by decide +kernel
theorem dX3_readPart_49 : decode cX3_readPart 49 = .ok (.invokevirtual 111, 3) := by decide +kernel
theorem dX3_readPart_52 : decode cX3_readPart 52 = .ok (.ireturn, 1) := by decide +kernel
theorem dX3_readFull_0 : decode cX3_readFull 0 = .ok (.aload_n 0, 1) := by decide +kernel
theorem dX3_readFull_1 : decode cX3_readFull 1 = .ok (.iload_n 1, 1) := by decide +kernel
theorem dX3_readFull_2 : decode cX3_readFull 2 = .ok (.invokevirtual 92, 3) := by decide +kernel
theorem dX3_readFull_5 : decode cX3_readFull 5 = .ok (.astore 5, 2) := by decide +kernel
theorem dX3_readFull_7 : decode cX3_readFull 7 = .ok (.aload_n 0, 1) := by decide +kernel
theorem dX3_readFull_8 : decode cX3_readFull 8 = .ok (.iload_n 2, 1) := by decide +kernel
theorem dX3_readFull_9 : decode cX3_readFull 9 = .ok (.invokevirtual 40, 3) := by decide +kernel
theorem dX3_readFull_12 : decode cX3_readFull 12 = .ok (.astore 6, 2) := by decide +kernel
theorem dX3_readFull_14 : decode cX3_readFull 14 = .ok (.aload 6, 2) := by decide +kernel
theorem dX3_readFull_16 : decode cX3_readFull 16 = .ok (.iload_n 3, 1) := by decide +kernel
theorem dX3_readFull_17 : decode cX3_readFull 17 = .ok (.iload 4, 2) := by decide +kernel
theorem dX3_readFull_19 : decode cX3_readFull 19 = .ok (.invokestatic 55, 3) := by decide +kernel
theorem dX3_readFull_22 : decode cX3_readFull 22 = .ok (.aload 5, 2) := by decide +kernel
theorem dX3_readFull_24 : decode cX3_readFull 24 = .ok (.invokestatic 107, 3) := by decide +kernel
theorem dX3_readFull_27 : decode cX3_readFull 27 = .ok (.aload 5, 2) := by decide +kernel
theorem dX3_readFull_29 : decode cX3_readFull 29 = .ok (.aload 6, 2) := by decide +kernel
theorem dX3_readFull_31 : decode cX3_readFull 31 = .ok (.invokevirtual 121, 3) := by decide +kernel
theorem dX3_readFull_34 : decode cX3_readFull 34 = .ok (.ifCond .eq 13, 3) := by decide +kernel
theorem dX3_readFull_37 : decode cX3_readFull 37 = .ok (.new 44, 3) := by decide +kernel
theorem dX3_readFull_40 : decode cX3_readFull 40 = .ok (.dup, 1) := by decide +kernel
theorem dX3_readFull_41 : decode cX3_readFull 41 = .ok (.ldc 125, 2) := by decide +kernel
theorem dX3_readFull_43 : decode cX3_readFull 43 = .ok (.invokespecial 48, 3) := by decide +kernel
theorem dX3_readFull_46 : decode cX3_readFull 46 = .ok (.athrow, 1) := by decide +kernel
theorem dX3_readFull_47 : decode cX3_readFull 47 = .ok (.aload 5, 2) := by decide +kernel
theorem dX3_readFull_49 : decode cX3_readFull 49 = .ok (.aload 5, 2) := by decide +kernel
theorem dX3_readFull_51 : decode cX3_readFull 51 = .ok (.aload 6, 2) := by decide +kernel
theorem dX3_readFull_53 : decode cX3_readFull 53 = .ok (.iload_n 3, 1) := by decide +kernel
theorem dX3_readFull_54 : decode cX3_readFull 54 = .ok (.iload 4, 2) := by decide +kernel
theorem dX3_readFull_56 : decode cX3_readFull 56 = .ok (.invokevirtual 117, 3) := by decide +kernel
theorem dX3_readFull_59 : decode cX3_readFull 59 = .ok (.invokevirtual 111, 3) := by decide +kernel
theorem dX3_readFull_62 : decode cX3_readFull 62 = .ok (.ireturn, 1) := by decide +kernel
theorem dX3_readSome_0 : decode cX3_readSome 0 = .ok (.aload_n 0, 1) := by decide +kernel
theorem dX3_readSome_1 : decode cX3_readSome 1 = .ok (.iload_n 1, 1) := by decide +kernel
theorem dX3_readSome_2 : decode cX3_readSome 2 = .ok (.invokevirtual 92, 3) := by decide +kernel
theorem dX3_readSome_5 : decode cX3_readSome 5 = .ok (.astore 4, 2) := by decide +kernel
theorem dX3_readSome_7 : decode cX3_readSome 7 = .ok (.aload_n 0, 1) := by decide +kernel
theorem dX3_readSome_8 : decode cX3_readSome 8 = .ok (.iload_n 2, 1) := by decide +kernel
theorem dX3_readSome_9 : decode cX3_readSome 9 = .ok (.invokevirtual 85, 3) := by decide +kernel
theorem dX3_readSome_12 : decode cX3_readSome 12 = .ok (.iload_n 3, 1) := by decide +kernel
theorem dX3_readSome_13 : decode cX3_readSome 13 = .ok (.i2l, 1) := by decide +kernel
theorem dX3_readSome_14 : decode cX3_readSome 14 = .ok (.invokestatic 127, 3) := by decide +kernel
theorem dX3_readSome_17 : decode cX3_readSome 17 = .ok (.aload 4, 2) := by decide +kernel
theorem dX3_readSome_19 : decode cX3_readSome 19 = .ok (.invokestatic 107, 3) := by decide +kernel
theorem dX3_readSome_22 : decode cX3_readSome 22 = .ok (.aload_n 0, 1) := by decide +kernel
theorem dX3_readSome_23 : decode cX3_readSome 23 = .ok (.getfield 11, 3) := by decide +kernel
theorem dX3_readSome_26 : decode cX3_readSome 26 = .ok (.iload_n 2, 1) := by decide +kernel
theorem dX3_readSome_27 : decode cX3_readSome 27 = .ok (.aload 4, 2) := by decide +kernel
theorem dX3_readSome_29 : decode cX3_readSome 29 = .ok (.iload_n 3, 1) := by decide +kernel
theorem dX3_readSome_30 : decode cX3_readSome 30 = .ok (.invokevirtual 131, 3) := by decide +kernel
theorem dX3_readSome_33 : decode cX3_readSome 33 = .ok (.aastore, 1) := by decide +kernel
theorem dX3_readSome_34 : decode cX3_readSome 34 = .ok (.aload 4, 2) := by decide +kernel
theorem dX3_readSome_36 : decode cX3_readSome 36 = .ok (.aload_n 0, 1) := by decide +kernel
theorem dX3_readSome_37 : decode cX3_readSome 37 = .ok (.getfield 11, 3) := by decide +kernel
theorem dX3_readSome_40 : decode cX3_readSome 40 = .ok (.iload_n 2, 1) := by decide +kernel
theorem dX3_readSome_41 : decode cX3_readSome 41 = .ok (.aaload, 1) := by decide +kernel
theorem dX3_readSome_42 : decode cX3_readSome 42 = .ok (.invokevirtual 51, 3) := by decide +kernel
theorem dX3_readSome_45 : decode cX3_readSome 45 = .ok (.invokevirtual 111, 3) := by decide +kernel
theorem dX3_readSome_48 : decode cX3_readSome 48 = .ok (.ireturn, 1) := by decide +kernel
theorem dX3_readNumber_0 : decode cX3_readNumber 0 = .ok (.aload_n 0, 1) := by decide +kernel
theorem dX3_readNumber_1 : decode cX3_readNumber 1 = .ok (.iload_n 1, 1) := by decide +kernel
theorem dX3_readNumber_2 : decode cX3_readNumber 2 = .ok (.invokevirtual 92, 3) := by decide +kernel
theorem dX3_readNumber_5 : decode cX3_readNumber 5 = .ok (.astore_n 2, 1) := by decide +kernel
theorem dX3_readNumber_6 : decode cX3_readNumber 6 = .ok (.aload_n 2, 1) := by decide +kernel
theorem dX3_readNumber_7 : decode cX3_readNumber 7 = .ok (.invokestatic 107, 3) := by decide +kernel
theorem dX3_readNumber_10 : decode cX3_readNumber 10 = .ok (.aload_n 2, 1) := by decide +kernel
theorem dX3_readNumber_11 : decode cX3_readNumber 11 = .ok (.invokevirtual 100, 3) := by decide +kernel
theorem dX3_readNumber_14 : decode cX3_readNumber 14 = .ok (.iconst 4, 1) := by decide +kernel
theorem dX3_readNumber_15 : decode cX3_readNumber 15 = .ok (.if_icmp .ge 13, 3) := by decide +kernel
theorem dX3_readNumber_18 : decode cX3_readNumber 18 = .ok (.new 134, 3) := by decide +kernel
theorem dX3_readNumber_21 : decode cX3_readNumber 21 = .ok (.dup, 1) := by decide +kernel
theorem dX3_readNumber_22 : decode cX3_readNumber 22 = .ok (.ldc 136, 2) := by decide +kernel
theorem dX3_readNumber_24 : decode cX3_readNumber 24 = .ok (.invokespecial 138, 3) := by decide +kernel
theorem dX3_readNumber_27 : decode cX3_readNumber 27 = .ok (.athrow, 1) := by decide +kernel
theorem dX3_readNumber_28 : decode cX3_readNumber 28 = .ok (.iconst 0, 1) := by decide +kernel
theorem dX3_readNumber_29 : decode cX3_readNumber 29 = .ok (.istore_n 3, 1) := by decide +kernel
theorem dX3_readNumber_30 : decode cX3_readNumber 30 = .ok (.iconst 0, 1) := by decide +kernel
theorem dX3_readNumber_31 : decode cX3_readNumber 31 = .ok (.istore 4, 2) := by decide +kernel
theorem dX3_readNumber_33 : decode cX3_readNumber 33 = .ok (.iload 4, 2) := by decide +kernel
theorem dX3_readNumber_35 : decode cX3_readNumber 35 = .ok (.iconst 4, 1) := by decide +kernel
theorem dX3_readNumber_36 : decode cX3_readNumber 36 = .ok (.if_icmp .ge 19, 3) := by decide +kernel
theorem dX3_readNumber_39 : decode cX3_readNumber 39 = .ok (.iload_n 3, 1) := by decide +kernel
theorem dX3_readNumber_40 : decode cX3_readNumber 40 = .ok (.bipush 8, 2) := by decide +kernel
theorem dX3_readNumber_42 : decode cX3_readNumber 42 = .ok (.ishl, 1) := by decide +kernel
theorem dX3_readNumber_43 : decode cX3_readNumber 43 = .ok (.aload_n 2, 1) := by decide +kernel
theorem dX3_readNumber_44 : decode cX3_readNumber 44 = .ok (.invokevirtual 114, 3) := by decide +kernel
theorem dX3_readNumber_47 : decode cX3_readNumber 47 = .ok (.ior, 1) := by decide +kernel
theorem dX3_readNumber_48 : decode cX3_readNumber 48 = .ok (.istore_n 3, 1) := by decide +kernel
theorem dX3_readNumber_49 : decode cX3_readNumber 49 = .ok (.iinc 4 1, 3) := by decide +kernel
theorem dX3_readNumber_52 : decode cX3_readNumber 52 = .ok (.goto (-19), 3) := by decide +kernel
theorem dX3_readNumber_55 : decode cX3_readNumber 55 = .ok (.aload_n 2, 1) := by decide +kernel
theorem dX3_readNumber_56 : decode cX3_readNumber 56 = .ok (.iconst 4, 1) := by decide +kernel
theorem dX3_readNumber_57 : decode cX3_readNumber 57 = .ok (.invokevirtual 111, 3) := by decide +kernel
theorem dX3_readNumber_60 : decode cX3_readNumber 60 = .ok (.pop, 1) := by decide +kernel
theorem dX3_readNumber_61 : decode cX3_readNumber 61 = .ok (.iload_n 3, 1) := by decide +kernel
theorem dX3_readNumber_62 : decode cX3_readNumber 62 = .ok (.ireturn, 1) := by decide +kernel
theorem dX3_readLine_0 : decode cX3_readLine 0 = .ok (.aload_n 0, 1) := by decide +kernel
theorem dX3_readLine_1 : decode cX3_readLine 1 = .ok (.iload_n 1, 1) := by decide +kernel
theorem dX3_readLine_2 : decode cX3_readLine 2 = .ok (.invokevirtual 92, 3) := by decide +kernel
theorem dX3_readLine_5 : decode cX3_readLine 5 = .ok (.astore_n 3, 1) := by decide +kernel
theorem dX3_readLine_6 : decode cX3_readLine 6 = .ok (.aload_n 0, 1) := by decide +kernel
theorem dX3_readLine_7 : decode cX3_readLine 7 = .ok (.iload_n 2, 1) := by decide +kernel
theorem dX3_readLine_8 : decode cX3_readLine 8 = .ok (.invokevirtual 85, 3) := by decide +kernel
theorem dX3_readLine_11 : decode cX3_readLine 11 = .ok (.aload_n 3, 1) := by decide +kernel
theorem dX3_readLine_12 : decode cX3_readLine 12 = .ok (.invokestatic 107, 3) := by decide +kernel
theorem dX3_readLine_15 : decode cX3_readLine 15 = .ok (.aload_n 3, 1) := by decide +kernel
theorem dX3_readLine_16 : decode cX3_readLine 16 = .ok (.invokevirtual 100, 3) := by decide +kernel
theorem dX3_readLine_19 : decode cX3_readLine 19 = .ok (.ifCond .ne 5, 3) := by decide +kernel
theorem dX3_readLine_22 : decode cX3_readLine 22 = .ok (.iconst (-1), 1) := by decide +kernel
theorem dX3_readLine_23 : decode cX3_readLine 23 = .ok (.ireturn, 1) := by decide +kernel
theorem dX3_readLine_24 : decode cX3_readLine 24 = .ok (.aload_n 0, 1) := by decide +kernel
theorem dX3_readLine_25 : decode cX3_readLine 25 = .ok (.getfield 11, 3) := by decide +kernel
theorem dX3_readLine_28 : decode cX3_readLine 28 = .ok (.iload_n 2, 1) := by decide +kernel
theorem dX3_readLine_29 : decode cX3_readLine 29 = .ok (.aload_n 3, 1) := by decide +kernel
theorem dX3_readLine_30 : decode cX3_readLine 30 = .ok (.aload_n 3, 1) := by decide +kernel
theorem dX3_readLine_31 : decode cX3_readLine 31 = .ok (.bipush 10, 2) := by decide +kernel
theorem dX3_readLine_33 : decode cX3_readLine 33 = .ok (.invokevirtual 139, 3) := by decide +kernel
theorem dX3_readLine_36 : decode cX3_readLine 36 = .ok (.invokevirtual 131, 3) := by decide +kernel
theorem dX3_readLine_39 : decode cX3_readLine 39 = .ok (.aastore, 1) := by decide +kernel
theorem dX3_readLine_40 : decode cX3_readLine 40 = .ok (.aload_n 3, 1) := by decide +kernel
theorem dX3_readLine_41 : decode cX3_readLine 41 = .ok (.aload_n 0, 1) := by decide +kernel
theorem dX3_readLine_42 : decode cX3_readLine 42 = .ok (.getfield 11, 3) := by decide +kernel
theorem dX3_readLine_45 : decode cX3_readLine 45 = .ok (.iload_n 2, 1) := by decide +kernel
theorem dX3_readLine_46 : decode cX3_readLine 46 = .ok (.aaload, 1) := by decide +kernel
theorem dX3_readLine_47 : decode cX3_readLine 47 = .ok (.invokevirtual 51, 3) := by decide +kernel
theorem dX3_readLine_50 : decode cX3_readLine 50 = .ok (.invokevirtual 111, 3) := by decide +kernel
theorem dX3_readLine_53 : decode cX3_readLine 53 = .ok (.istore 4, 2) := by decide +kernel
theorem dX3_readLine_55 : decode cX3_readLine 55 = .ok (.aload_n 3, 1) := by decide +kernel
theorem dX3_readLine_56 : decode cX3_readLine 56 = .ok (.aload_n 3, 1) := by decide +kernel
theorem dX3_readLine_57 : decode cX3_readLine 57 = .ok (.lconst 1, 1) := by decide +kernel
theorem dX3_readLine_58 : decode cX3_readLine 58 = .ok (.invokevirtual 142, 3) := by decide +kernel
theorem dX3_readLine_61 : decode cX3_readLine 61 = .ok (.invokevirtual 111, 3) := by decide +kernel
theorem dX3_readLine_64 : decode cX3_readLine 64 = .ok (.pop, 1) := by decide +kernel
theorem dX3_readLine_65 : decode cX3_readLine 65 = .ok (.iload 4, 2) := by decide +kernel
theorem dX3_readLine_67 : decode cX3_readLine 67 = .ok (.ireturn, 1) := by decide +kernel
theorem dX3_find_0 : decode cX3_find 0 = .ok (.aload_n 0, 1) := by decide +kernel
theorem dX3_find_1 : decode cX3_find 1 = .ok (.iload_n 1, 1) := by decide +kernel
theorem dX3_find_2 : decode cX3_find 2 = .ok (.invokevirtual 92, 3) := by decide +kernel
theorem dX3_find_5 : decode cX3_find 5 = .ok (.astore_n 3, 1) := by decide +kernel
theorem dX3_find_6 : decode cX3_find 6 = .ok (.aload_n 3, 1) := by decide +kernel
theorem dX3_find_7 : decode cX3_find 7 = .ok (.invokestatic 107, 3) := by decide +kernel
theorem dX3_find_10 : decode cX3_find 10 = .ok (.aload_n 3, 1) := by decide +kernel
theorem dX3_find_11 : decode cX3_find 11 = .ok (.iload_n 2, 1) := by decide +kernel
theorem dX3_find_12 : decode cX3_find 12 = .ok (.invokevirtual 139, 3) := by decide +kernel
theorem dX3_find_15 : decode cX3_find 15 = .ok (.istore 4, 2) := by decide +kernel
theorem dX3_find_17 : decode cX3_find 17 = .ok (.iload 4, 2) := by decide +kernel
theorem dX3_find_19 : decode cX3_find 19 = .ok (.aload_n 3, 1) := by decide +kernel
theorem dX3_find_20 : decode cX3_find 20 = .ok (.invokevirtual 100, 3) := by decide +kernel
theorem dX3_find_23 : decode cX3_find 23 = .ok (.if_icmp .ge 17, 3) := by decide +kernel
theorem dX3_find_26 : decode cX3_find 26 = .ok (.aload_n 3, 1) := by decide +kernel
theorem dX3_find_27 : decode cX3_find 27 = .ok (.aload_n 3, 1) := by decide +kernel
theorem dX3_find_28 : decode cX3_find 28 = .ok (.iload 4, 2) := by decide +kernel
theorem dX3_find_30 : decode cX3_find 30 = .ok (.iconst 1, 1) := by decide +kernel
theorem dX3_find_31 : decode cX3_find 31 = .ok (.iadd, 1) := by decide +kernel
theorem dX3_find_32 : decode cX3_find 32 = .ok (.i2l, 1) := by decide +kernel
theorem dX3_find_33 : decode cX3_find 33 = .ok (.invokevirtual 142, 3) := by decide +kernel
theorem dX3_find_36 : decode cX3_find 36 = .ok (.invokevirtual 111, 3) := by decide +kernel
theorem dX3_find_39 : decode cX3_find 39 = .ok (.ireturn, 1) := by decide +kernel
theorem dX3_find_40 : decode cX3_find 40 = .ok (.iconst (-1), 1) := by decide +kernel
theorem dX3_find_41 : decode cX3_find 41 = .ok (.aload_n 3, 1) := by decide +kernel
theorem dX3_find_42 : decode cX3_find 42 = .ok (.aload_n 3, 1) := by decide +kernel
theorem dX3_find_43 : decode cX3_find 43 = .ok (.iload 4, 2) := by decide +kernel
theorem dX3_find_45 : decode cX3_find 45 = .ok (.i2l, 1) := by decide +kernel
theorem dX3_find_46 : decode cX3_find 46 = .ok (.invokevirtual 142, 3) := by decide +kernel
theorem dX3_find_49 : decode cX3_find 49 = .ok (.invokevirtual 111, 3) := by decide +kernel
theorem dX3_find_52 : decode cX3_find 52 = .ok (.isub, 1) := by decide +kernel
theorem dX3_find_53 : decode cX3_find 53 = .ok (.ireturn, 1) := by decide +kernel
theorem dX3_skip_0 : decode cX3_skip 0 = .ok (.aload_n 0, 1) := by decide +kernel
theorem dX3_skip_1 : decode cX3_skip 1 = .ok (.iload_n 1, 1) := by decide +kernel
theorem dX3_skip_2 : decode cX3_skip 2 = .ok (.invokevirtual 92, 3) := by decide +kernel
theorem dX3_skip_5 : decode cX3_skip 5 = .ok (.astore 4, 2) := by decide +kernel
theorem dX3_skip_7 : decode cX3_skip 7 = .ok (.lload_n 2, 1) := by decide +kernel
theorem dX3_skip_8 : decode cX3_skip 8 = .ok (.invokestatic 127, 3) := by decide +kernel
theorem dX3_skip_11 : decode cX3_skip 11 = .ok (.aload 4, 2) := by decide +kernel
theorem dX3_skip_13 : decode cX3_skip 13 = .ok (.invokestatic 107, 3) := by decide +kernel
theorem dX3_skip_16 : decode cX3_skip 16 = .ok (.aload 4, 2) := by decide +kernel
theorem dX3_skip_18 : decode cX3_skip 18 = .ok (.aload 4, 2) := by decide +kernel
theorem dX3_skip_20 : decode cX3_skip 20 = .ok (.lload_n 2, 1) := by decide +kernel
theorem dX3_skip_21 : decode cX3_skip 21 = .ok (.invokevirtual 142, 3) := by decide +kernel
theorem dX3_skip_24 : decode cX3_skip 24 = .ok (.invokevirtual 111, 3) := by decide +kernel
theorem dX3_skip_27 : decode cX3_skip 27 = .ok (.i2l, 1) := by decide +kernel
theorem dX3_skip_28 : decode cX3_skip 28 = .ok (.lreturn, 1) := by decide +kernel
theorem dX3_left_0 : decode cX3_left 0 = .ok (.aload_n 0, 1) := by decide +kernel
theorem dX3_left_1 : decode cX3_left 1 = .ok (.iload_n 1, 1) := by decide +kernel
theorem dX3_left_2 : decode cX3_left 2 = .ok (.invokevirtual 92, 3) := by decide +kernel
theorem dX3_left_5 : decode cX3_left 5 = .ok (.astore_n 2, 1) := by decide +kernel
theorem dX3_left_6 : decode cX3_left 6 = .ok (.aload_n 2, 1) := by decide +kernel
theorem dX3_left_7 : decode cX3_left 7 = .ok (.invokestatic 107, 3) := by decide +kernel
theorem dX3_left_10 : decode cX3_left 10 = .ok (.aload_n 2, 1) := by decide +kernel
theorem dX3_left_11 : decode cX3_left 11 = .ok (.invokevirtual 100, 3) := by decide +kernel
theorem dX3_left_14 : decode cX3_left 14 = .ok (.ireturn, 1) := by decide +kernel
theorem dX3_mark_0 : decode cX3_mark 0 = .ok (.aload_n 0, 1) := by decide +kernel
theorem dX3_mark_1 : decode cX3_mark 1 = .ok (.iload_n 1, 1) := by decide +kernel
theorem dX3_mark_2 : decode cX3_mark 2 = .ok (.invokevirtual 92, 3) := by decide +kernel
theorem dX3_mark_5 : decode cX3_mark 5 = .ok (.astore_n 3, 1) := by decide +kernel
theorem dX3_mark_6 : decode cX3_mark 6 = .ok (.aload_n 3, 1) := by decide +kernel
theorem dX3_mark_7 : decode cX3_mark 7 = .ok (.invokestatic 107, 3) := by decide +kernel
theorem dX3_mark_10 : decode cX3_mark 10 = .ok (.aload_n 3, 1) := by decide +kernel
theorem dX3_mark_11 : decode cX3_mark 11 = .ok (.invokevirtual 146, 3) := by decide +kernel
theorem dX3_mark_14 : decode cX3_mark 14 = .ok (.aload_n 3, 1) := by decide +kernel
theorem dX3_mark_15 : decode cX3_mark 15 = .ok (.invokevirtual 100, 3) := by decide +kernel
theorem dX3_mark_18 : decode cX3_mark 18 = .ok (.ireturn, 1) := by decide +kernel
theorem dX3_back_0 : decode cX3_back 0 = .ok (.aload_n 0, 1) := by decide +kernel
theorem dX3_back_1 : decode cX3_back 1 = .ok (.iload_n 1, 1) := by decide +kernel
theorem dX3_back_2 : decode cX3_back 2 = .ok (.invokevirtual 92, 3) := by decide +kernel
theorem dX3_back_5 : decode cX3_back 5 = .ok (.astore_n 2, 1) := by decide +kernel
theorem dX3_back_6 : decode cX3_back 6 = .ok (.aload_n 2, 1) := by decide +kernel
theorem dX3_back_7 : decode cX3_back 7 = .ok (.invokestatic 107, 3) := by decide +kernel
theorem dX3_back_10 : decode cX3_back 10 = .ok (.aload_n 2, 1) := by decide +kernel
theorem dX3_back_11 : decode cX3_back 11 = .ok (.invokevirtual 149, 3) := by decide +kernel
theorem dX3_back_14 : decode cX3_back 14 = .ok (.aload_n 2, 1) := by decide +kernel
theorem dX3_back_15 : decode cX3_back 15 = .ok (.invokevirtual 100, 3) := by decide +kernel
theorem dX3_back_18 : decode cX3_back 18 = .ok (.ireturn, 1) := by decide +kernel
theorem dX3_pour_0 : decode cX3_pour 0 = .ok (.aload_n 0, 1) := by decide +kernel
theorem dX3_pour_1 : decode cX3_pour 1 = .ok (.iload_n 1, 1) := by decide +kernel
theorem dX3_pour_2 : decode cX3_pour 2 = .ok (.invokevirtual 92, 3) := by decide +kernel
theorem dX3_pour_5 : decode cX3_pour 5 = .ok (.astore_n 3, 1) := by decide +kernel
theorem dX3_pour_6 : decode cX3_pour 6 = .ok (.aload_n 0, 1) := by decide +kernel
theorem dX3_pour_7 : decode cX3_pour 7 = .ok (.iload_n 2, 1) := by decide +kernel
theorem dX3_pour_8 : decode cX3_pour 8 = .ok (.invokevirtual 67, 3) := by decide +kernel
theorem dX3_pour_11 : decode cX3_pour 11 = .ok (.astore 4, 2) := by decide +kernel
theorem dX3_pour_13 : decode cX3_pour 13 = .ok (.aload_n 3, 1) := by decide +kernel
theorem dX3_pour_14 : decode cX3_pour 14 = .ok (.invokestatic 107, 3) := by decide +kernel
theorem dX3_pour_17 : decode cX3_pour 17 = .ok (.aload 4, 2) := by decide +kernel
theorem dX3_pour_19 : decode cX3_pour 19 = .ok (.aload_n 3, 1) := by decide +kernel
theorem dX3_pour_20 : decode cX3_pour 20 = .ok (.invokevirtual 100, 3) := by decide +kernel
theorem dX3_pour_23 : decode cX3_pour 23 = .ok (.invokestatic 71, 3) := by decide +kernel
theorem dX3_pour_26 : decode cX3_pour 26 = .ok (.aload_n 3, 1) := by decide +kernel
theorem dX3_pour_27 : decode cX3_pour 27 = .ok (.aload_n 3, 1) := by decide +kernel
theorem dX3_pour_28 : decode cX3_pour 28 = .ok (.aload 4, 2) := by decide +kernel
theorem dX3_pour_30 : decode cX3_pour 30 = .ok (.aload_n 3, 1) := by decide +kernel
theorem dX3_pour_31 : decode cX3_pour 31 = .ok (.invokevirtual 100, 3) := by decide +kernel
theorem dX3_pour_34 : decode cX3_pour 34 = .ok (.invokevirtual 152, 3) := by decide +kernel
theorem dX3_pour_37 : decode cX3_pour 37 = .ok (.invokevirtual 111, 3) := by decide +kernel
theorem dX3_pour_40 : decode cX3_pour 40 = .ok (.ireturn, 1) := by decide +kernel
theorem dX3_pourParts_0 : decode cX3_pourParts 0 = .ok (.aload_n 0, 1) := by decide +kernel
theorem dX3_pourParts_1 : decode cX3_pourParts 1 = .ok (.iload_n 1, 1) := by decide +kernel
theorem dX3_pourParts_2 : decode cX3_pourParts 2 = .ok (.invokevirtual 92, 3) := by decide +kernel
theorem dX3_pourParts_5 : decode cX3_pourParts 5 = .ok (.astore 4, 2) := by decide +kernel
theorem dX3_pourParts_7 : decode cX3_pourParts 7 = .ok (.aload_n 0, 1) := by decide +kernel
theorem dX3_pourParts_8 : decode cX3_pourParts 8 = .ok (.iload_n 2, 1) := by decide +kernel
theorem dX3_pourParts_9 : decode cX3_pourParts 9 = .ok (.invokevirtual 67, 3) := by decide +kernel
theorem dX3_pourParts_12 : decode cX3_pourParts 12 = .ok (.astore 5, 2) := by decide +kernel
theorem dX3_pourParts_14 : decode cX3_pourParts 14 = .ok (.iload_n 3, 1) := by decide +kernel
theorem dX3_pourParts_15 : decode cX3_pourParts 15 = .ok (.iconst 1, 1) := by decide +kernel
theorem dX3_pourParts_16 : decode cX3_pourParts 16 = .ok (.if_icmp .lt 9, 3) := by decide +kernel
theorem dX3_pourParts_19 : decode cX3_pourParts 19 = .ok (.iload_n 3, 1) := by decide +kernel
theorem dX3_pourParts_20 : decode cX3_pourParts 20 = .ok (.bipush 64, 2) := by decide +kernel
theorem dX3_pourParts_22 : decode cX3_pourParts 22 = .ok (.if_icmp .le 13, 3) := by decide +kernel
theorem dX3_pourParts_25 : decode cX3_pourParts 25 = .ok (.new 44, 3) := by decide +kernel
theorem dX3_pourParts_28 : decode cX3_pourParts 28 = .ok (.dup, 1) := by decide +kernel
theorem dX3_pourParts_29 : decode cX3_pourParts 29 = .ok (.ldc 156, 2) := by decide +kernel
theorem dX3_pourParts_31 : decode cX3_pourParts 31 = .ok (.invokespecial 48, 3) := by decide +kernel
theorem dX3_pourParts_34 : decode cX3_pourParts 34 = .ok (.athrow, 1) := by decide +kernel
theorem dX3_pourParts_35 : decode cX3_pourParts 35 = .ok (.aload 4, 2) := by decide +kernel
theorem dX3_pourParts_37 : decode cX3_pourParts 37 = .ok (.invokestatic 107, 3) := by decide +kernel
theorem dX3_pourParts_40 : decode cX3_pourParts 40 = .ok (.aload 5, 2) := by decide +kernel
theorem dX3_pourParts_42 : decode cX3_pourParts 42 = .ok (.aload 4, 2) := by decide +kernel
theorem dX3_pourParts_44 : decode cX3_pourParts 44 = .ok (.invokevirtual 100, 3) := by decide +kernel
theorem dX3_pourParts_47 : decode cX3_pourParts 47 = .ok (.invokestatic 71, 3) := by decide +kernel
theorem dX3_pourParts_50 : decode cX3_pourParts 50 = .ok (.aload 4, 2) := by decide +kernel
theorem dX3_pourParts_52 : decode cX3_pourParts 52 = .ok (.aload 5, 2) := by decide +kernel
theorem dX3_pourParts_54 : decode cX3_pourParts 54 = .ok (.iload_n 3, 1) := by decide +kernel
theorem dX3_pourParts_55 : decode cX3_pourParts 55 = .ok (.invokestatic 158, 3) := by decide +kernel
theorem dX3_pourParts_58 : decode cX3_pourParts 58 = .ok (.ireturn, 1) := by decide +kernel
theorem dX3_alike_0 : decode cX3_alike 0 = .ok (.aload_n 0, 1) := by decide +kernel
theorem dX3_alike_1 : decode cX3_alike 1 = .ok (.iload_n 1, 1) := by decide +kernel
theorem dX3_alike_2 : decode cX3_alike 2 = .ok (.invokevirtual 92, 3) := by decide +kernel
theorem dX3_alike_5 : decode cX3_alike 5 = .ok (.astore_n 3, 1) := by decide +kernel
theorem dX3_alike_6 : decode cX3_alike 6 = .ok (.aload_n 0, 1) := by decide +kernel
theorem dX3_alike_7 : decode cX3_alike 7 = .ok (.iload_n 2, 1) := by decide +kernel
theorem dX3_alike_8 : decode cX3_alike 8 = .ok (.invokevirtual 92, 3) := by decide +kernel
theorem dX3_alike_11 : decode cX3_alike 11 = .ok (.astore 4, 2) := by decide +kernel
theorem dX3_alike_13 : decode cX3_alike 13 = .ok (.iload_n 1, 1) := by decide +kernel
theorem dX3_alike_14 : decode cX3_alike 14 = .ok (.iload_n 2, 1) := by decide +kernel
theorem dX3_alike_15 : decode cX3_alike 15 = .ok (.if_icmp .ne 13, 3) := by decide +kernel
theorem dX3_alike_18 : decode cX3_alike 18 = .ok (.new 44, 3) := by decide +kernel
theorem dX3_alike_21 : decode cX3_alike 21 = .ok (.dup, 1) := by decide +kernel
theorem dX3_alike_22 : decode cX3_alike 22 = .ok (.ldc 162, 2) := by decide +kernel
theorem dX3_alike_24 : decode cX3_alike 24 = .ok (.invokespecial 48, 3) := by decide +kernel
theorem dX3_alike_27 : decode cX3_alike 27 = .ok (.athrow, 1) := by decide +kernel
theorem dX3_alike_28 : decode cX3_alike 28 = .ok (.aload_n 3, 1) := by decide +kernel
theorem dX3_alike_29 : decode cX3_alike 29 = .ok (.invokestatic 107, 3) := by decide +kernel
theorem dX3_alike_32 : decode cX3_alike 32 = .ok (.aload 4, 2) := by decide +kernel
theorem dX3_alike_34 : decode cX3_alike 34 = .ok (.invokestatic 107, 3) := by decide +kernel
theorem dX3_alike_37 : decode cX3_alike 37 = .ok (.aload_n 3, 1) := by decide +kernel
theorem dX3_alike_38 : decode cX3_alike 38 = .ok (.invokevirtual 100, 3) := by decide +kernel
theorem dX3_alike_41 : decode cX3_alike 41 = .ok (.aload 4, 2) := by decide +kernel
theorem dX3_alike_43 : decode cX3_alike 43 = .ok (.invokevirtual 100, 3) := by decide +kernel
theorem dX3_alike_46 : decode cX3_alike 46 = .ok (.invokestatic 164, 3) := by decide +kernel
theorem dX3_alike_49 : decode cX3_alike 49 = .ok (.istore 5, 2) := by decide +kernel
theorem dX3_alike_51 : decode cX3_alike 51 = .ok (.iconst 0, 1) := by decide +kernel
theorem dX3_alike_52 : decode cX3_alike 52 = .ok (.istore 6, 2) := by decide +kernel
theorem dX3_alike_54 : decode cX3_alike 54 = .ok (.iload 6, 2) := by decide +kernel
theorem dX3_alike_56 : decode cX3_alike 56 = .ok (.iload 5, 2) := by decide +kernel
theorem dX3_alike_58 : decode cX3_alike 58 = .ok (.if_icmp .ge 34, 3) := by decide +kernel
theorem dX3_alike_61 : decode cX3_alike 61 = .ok (.aload_n 3, 1) := by decide +kernel
theorem dX3_alike_62 : decode cX3_alike 62 = .ok (.invokevirtual 169, 3) := by decide +kernel
theorem dX3_alike_65 : decode cX3_alike 65 = .ok (.aload 4, 2) := by decide +kernel
theorem dX3_alike_67 : decode cX3_alike 67 = .ok (.invokevirtual 169, 3) := by decide +kernel
theorem dX3_alike_70 : decode cX3_alike 70 = .ok (.if_icmp .ne 22, 3) := by decide +kernel
theorem dX3_alike_73 : decode cX3_alike 73 = .ok (.aload_n 3, 1) := by decide +kernel
theorem dX3_alike_74 : decode cX3_alike 74 = .ok (.lconst 1, 1) := by decide +kernel
theorem dX3_alike_75 : decode cX3_alike 75 = .ok (.invokevirtual 142, 3) := by decide +kernel
theorem dX3_alike_78 : decode cX3_alike 78 = .ok (.pop, 1) := by decide +kernel
theorem dX3_alike_79 : decode cX3_alike 79 = .ok (.aload 4, 2) := by decide +kernel
theorem dX3_alike_81 : decode cX3_alike 81 = .ok (.lconst 1, 1) := by decide +kernel
theorem dX3_alike_82 : decode cX3_alike 82 = .ok (.invokevirtual 142, 3) := by decide +kernel
theorem dX3_alike_85 : decode cX3_alike 85 = .ok (.pop, 1) := by decide +kernel
theorem dX3_alike_86 : decode cX3_alike 86 = .ok (.iinc 6 1, 3) := by decide +kernel
theorem dX3_alike_89 : decode cX3_alike 89 = .ok (.goto (-35), 3) := by decide +kernel
theorem dX3_alike_92 : decode cX3_alike 92 = .ok (.aload_n 3, 1) := by decide +kernel
theorem dX3_alike_93 : decode cX3_alike 93 = .ok (.iload 6, 2) := by decide +kernel
theorem dX3_alike_95 : decode cX3_alike 95 = .ok (.invokevirtual 111, 3) := by decide +kernel
theorem dX3_alike_98 : decode cX3_alike 98 = .ok (.pop, 1) := by decide +kernel
theorem dX3_alike_99 : decode cX3_alike 99 = .ok (.aload 4, 2) := by decide +kernel
theorem dX3_alike_101 : decode cX3_alike 101 = .ok (.iload 6, 2) := by decide +kernel
theorem dX3_alike_103 : decode cX3_alike 103 = .ok (.invokevirtual 111, 3) := by decide +kernel
theorem dX3_alike_106 : decode cX3_alike 106 = .ok (.pop, 1) := by decide +kernel
theorem dX3_alike_107 : decode cX3_alike 107 = .ok (.aload_n 3, 1) := by decide +kernel
theorem dX3_alike_108 : decode cX3_alike 108 = .ok (.invokevirtual 146, 3) := by decide +kernel
theorem dX3_alike_111 : decode cX3_alike 111 = .ok (.aload 4, 2) := by decide +kernel
theorem dX3_alike_113 : decode cX3_alike 113 = .ok (.invokevirtual 146, 3) := by decide +kernel
theorem dX3_alike_116 : decode cX3_alike 116 = .ok (.iload 6, 2) := by decide +kernel
theorem dX3_alike_118 : decode cX3_alike 118 = .ok (.ireturn, 1) := by decide +kernel
theorem dX3_leftShare_0 : decode cX3_leftShare 0 = .ok (.aload_n 0, 1) := by decide +kernel
theorem dX3_leftShare_1 : decode cX3_leftShare 1 = .ok (.iload_n 1, 1) := by decide +kernel
theorem dX3_leftShare_2 : decode cX3_leftShare 2 = .ok (.invokevirtual 92, 3) := by decide +kernel
theorem dX3_leftShare_5 : decode cX3_leftShare 5 = .ok (.astore_n 2, 1) := by decide +kernel
theorem dX3_leftShare_6 : decode cX3_leftShare 6 = .ok (.aload_n 2, 1) := by decide +kernel
theorem dX3_leftShare_7 : decode cX3_leftShare 7 = .ok (.invokestatic 107, 3) := by decide +kernel
theorem dX3_leftShare_10 : decode cX3_leftShare 10 = .ok (.aload_n 2, 1) := by decide +kernel
theorem dX3_leftShare_11 : decode cX3_leftShare 11 = .ok (.invokevirtual 172, 3) := by decide +kernel
theorem dX3_leftShare_14 : decode cX3_leftShare 14 = .ok (.istore_n 3, 1) := by decide +kernel
theorem dX3_leftShare_15 : decode cX3_leftShare 15 = .ok (.iload_n 3, 1) := by decide +kernel
theorem dX3_leftShare_16 : decode cX3_leftShare 16 = .ok (.ifCond .ne 13, 3) := by decide +kernel
theorem dX3_leftShare_19 : decode cX3_leftShare 19 = .ok (.new 175, 3) := by decide +kernel
theorem dX3_leftShare_22 : decode cX3_leftShare 22 = .ok (.dup, 1) := by decide +kernel
theorem dX3_leftShare_23 : decode cX3_leftShare 23 = .ok (.ldc 177, 2) := by decide +kernel
theorem dX3_leftShare_25 : decode cX3_leftShare 25 = .ok (.invokespecial 179, 3) := by decide +kernel
theorem dX3_leftShare_28 : decode cX3_leftShare 28 = .ok (.athrow, 1) := by decide +kernel
theorem dX3_leftShare_29 : decode cX3_leftShare 29 = .ok (.aload_n 2, 1) := by decide +kernel
theorem dX3_leftShare_30 : decode cX3_leftShare 30 = .ok (.invokevirtual 100, 3) := by decide +kernel
theorem dX3_leftShare_33 : decode cX3_leftShare 33 = .ok (.i2f, 1) := by decide +kernel
theorem dX3_leftShare_34 : decode cX3_leftShare 34 = .ok (.iload_n 3, 1) := by decide +kernel
theorem dX3_leftShare_35 : decode cX3_leftShare 35 = .ok (.i2f, 1) := by decide +kernel
theorem dX3_leftShare_36 : decode cX3_leftShare 36 = .ok (.fdiv, 1) := by decide +kernel
theorem dX3_leftShare_37 : decode cX3_leftShare 37 = .ok (.freturn, 1) := by decide +kernel
theorem dX3_meanSize_0 : decode cX3_meanSize 0 = .ok (.iconst 0, 1) := by decide +kernel
theorem dX3_meanSize_1 : decode cX3_meanSize 1 = .ok (.istore_n 1, 1) := by decide +kernel
theorem dX3_meanSize_2 : decode cX3_meanSize 2 = .ok (.iconst 0, 1) := by decide +kernel
theorem dX3_meanSize_3 : decode cX3_meanSize 3 = .ok (.istore_n 2, 1) := by decide +kernel
theorem dX3_meanSize_4 : decode cX3_meanSize 4 = .ok (.iconst 0, 1) := by decide +kernel
theorem dX3_meanSize_5 : decode cX3_meanSize 5 = .ok (.istore_n 3, 1) := by decide +kernel
theorem dX3_meanSize_6 : decode cX3_meanSize 6 = .ok (.iload_n 3, 1) := by decide +kernel
theorem dX3_meanSize_7 : decode cX3_meanSize 7 = .ok (.aload_n 0, 1) := by decide +kernel
theorem dX3_meanSize_8 : decode cX3_meanSize 8 = .ok (.getfield 20, 3) := by decide +kernel
theorem dX3_meanSize_11 : decode cX3_meanSize 11 = .ok (.arraylength, 1) := by decide +kernel
theorem dX3_meanSize_12 : decode cX3_meanSize 12 = .ok (.if_icmp .ge 36, 3) := by decide +kernel
theorem dX3_meanSize_15 : decode cX3_meanSize 15 = .ok (.aload_n 0, 1) := by decide +kernel
theorem dX3_meanSize_16 : decode cX3_meanSize 16 = .ok (.getfield 20, 3) := by decide +kernel
theorem dX3_meanSize_19 : decode cX3_meanSize 19 = .ok (.iload_n 3, 1) := by decide +kernel
theorem dX3_meanSize_20 : decode cX3_meanSize 20 = .ok (.aaload, 1) := by decide +kernel
theorem dX3_meanSize_21 : decode cX3_meanSize 21 = .ok (.invokevirtual 78, 3) := by decide +kernel
theorem dX3_meanSize_24 : decode cX3_meanSize 24 = .ok (.ifCond .le 18, 3) := by decide +kernel
theorem dX3_meanSize_27 : decode cX3_meanSize 27 = .ok (.iload_n 1, 1) := by decide +kernel
theorem dX3_meanSize_28 : decode cX3_meanSize 28 = .ok (.aload_n 0, 1) := by decide +kernel
theorem dX3_meanSize_29 : decode cX3_meanSize 29 = .ok (.getfield 20, 3) := by decide +kernel
theorem dX3_meanSize_32 : decode cX3_meanSize 32 = .ok (.iload_n 3, 1) := by decide +kernel
theorem dX3_meanSize_33 : decode cX3_meanSize 33 = .ok (.aaload, 1) := by decide +kernel
theorem dX3_meanSize_34 : decode cX3_meanSize 34 = .ok (.invokevirtual 78, 3) := by decide +kernel
theorem dX3_meanSize_37 : decode cX3_meanSize 37 = .ok (.iadd, 1) := by decide +kernel
theorem dX3_meanSize_38 : decode cX3_meanSize 38 = .ok (.istore_n 1, 1) := by decide +kernel
theorem dX3_meanSize_39 : decode cX3_meanSize 39 = .ok (.iinc 2 1, 3) := by decide +kernel
theorem dX3_meanSize_42 : decode cX3_meanSize 42 = .ok (.iinc 3 1, 3) := by decide +kernel
theorem dX3_meanSize_45 : decode cX3_meanSize 45 = .ok (.goto (-39), 3) := by decide +kernel
theorem dX3_meanSize_48 : decode cX3_meanSize 48 = .ok (.iload_n 2, 1) := by decide +kernel
theorem dX3_meanSize_49 : decode cX3_meanSize 49 = .ok (.ifCond .ne 13, 3) := by decide +kernel
theorem dX3_meanSize_52 : decode cX3_meanSize 52 = .ok (.new 175, 3) := by decide +kernel
theorem dX3_meanSize_55 : decode cX3_meanSize 55 = .ok (.dup, 1) := by decide +kernel
theorem dX3_meanSize_56 : decode cX3_meanSize 56 = .ok (.ldc 180, 2) := by decide +kernel
theorem dX3_meanSize_58 : decode cX3_meanSize 58 = .ok (.invokespecial 179, 3) := by decide +kernel
theorem dX3_meanSize_61 : decode cX3_meanSize 61 = .ok (.athrow, 1) := by decide +kernel
theorem dX3_meanSize_62 : decode cX3_meanSize 62 = .ok (.iload_n 1, 1) := by decide +kernel
theorem dX3_meanSize_63 : decode cX3_meanSize 63 = .ok (.i2d, 1) := by decide +kernel
theorem dX3_meanSize_64 : decode cX3_meanSize 64 = .ok (.iload_n 2, 1) := by decide +kernel
theorem dX3_meanSize_65 : decode cX3_meanSize 65 = .ok (.i2d, 1) := by decide +kernel
theorem dX3_meanSize_66 : decode cX3_meanSize 66 = .ok (.ddiv, 1) := by decide +kernel
theorem dX3_meanSize_67 : decode cX3_meanSize 67 = .ok (.dreturn, 1) := by decide +kernel
theorem dX3_checksum_0 : decode cX3_checksum 0 = .ok (.ldc2_w 182, 3) := by decide +kernel
theorem dX3_checksum_3 : decode cX3_checksum 3 = .ok (.lstore_n 1, 1) := by decide +kernel
theorem dX3_checksum_4 : decode cX3_checksum 4 = .ok (.iconst 0, 1) := by decide +kernel
theorem dX3_checksum_5 : decode cX3_checksum 5 = .ok (.istore_n 3, 1) := by decide +kernel
theorem dX3_checksum_6 : decode cX3_checksum 6 = .ok (.iload_n 3, 1) := by decide +kernel
theorem dX3_checksum_7 : decode cX3_checksum 7 = .ok (.aload_n 0, 1) := by decide +kernel
theorem dX3_checksum_8 : decode cX3_checksum 8 = .ok (.getfield 11, 3) := by decide +kernel
theorem dX3_checksum_11 : decode cX3_checksum 11 = .ok (.arraylength, 1) := by decide +kernel
theorem dX3_checksum_12 : decode cX3_checksum 12 = .ok (.if_icmp .ge 46, 3) := by decide +kernel
theorem dX3_checksum_15 : decode cX3_checksum 15 = .ok (.ldc2_w 184, 3) := by decide +kernel
theorem dX3_checksum_18 : decode cX3_checksum 18 = .ok (.lload_n 1, 1) := by decide +kernel
theorem dX3_checksum_19 : decode cX3_checksum 19 = .ok (.lmul, 1) := by decide +kernel
theorem dX3_checksum_20 : decode cX3_checksum 20 = .ok (.aload_n 0, 1) := by decide +kernel
theorem dX3_checksum_21 : decode cX3_checksum 21 = .ok (.getfield 11, 3) := by decide +kernel
theorem dX3_checksum_24 : decode cX3_checksum 24 = .ok (.iload_n 3, 1) := by decide +kernel
theorem dX3_checksum_25 : decode cX3_checksum 25 = .ok (.aaload, 1) := by decide +kernel
theorem dX3_checksum_26 : decode cX3_checksum 26 = .ok (.invokevirtual 51, 3) := by decide +kernel
theorem dX3_checksum_29 : decode cX3_checksum 29 = .ok (.i2l, 1) := by decide +kernel
theorem dX3_checksum_30 : decode cX3_checksum 30 = .ok (.ladd, 1) := by decide +kernel
theorem dX3_checksum_31 : decode cX3_checksum 31 = .ok (.lstore_n 1, 1) := by decide +kernel
theorem dX3_checksum_32 : decode cX3_checksum 32 = .ok (.aload_n 0, 1) := by decide +kernel
theorem dX3_checksum_33 : decode cX3_checksum 33 = .ok (.getfield 11, 3) := by decide +kernel
theorem dX3_checksum_36 : decode cX3_checksum 36 = .ok (.iload_n 3, 1) := by decide +kernel
theorem dX3_checksum_37 : decode cX3_checksum 37 = .ok (.aaload, 1) := by decide +kernel
theorem dX3_checksum_38 : decode cX3_checksum 38 = .ok (.lload_n 1, 1) := by decide +kernel
theorem dX3_checksum_39 : decode cX3_checksum 39 = .ok (.aload_n 0, 1) := by decide +kernel
theorem dX3_checksum_40 : decode cX3_checksum 40 = .ok (.getfield 11, 3) := by decide +kernel
theorem dX3_checksum_43 : decode cX3_checksum 43 = .ok (.iload_n 3, 1) := by decide +kernel
theorem dX3_checksum_44 : decode cX3_checksum 44 = .ok (.aaload, 1) := by decide +kernel
theorem dX3_checksum_45 : decode cX3_checksum 45 = .ok (.invokevirtual 51, 3) := by decide +kernel
theorem dX3_checksum_48 : decode cX3_checksum 48 = .ok (.invokevirtual 186, 3) := by decide +kernel
theorem dX3_checksum_51 : decode cX3_checksum 51 = .ok (.lstore_n 1, 1) := by decide +kernel
theorem dX3_checksum_52 : decode cX3_checksum 52 = .ok (.iinc 3 1, 3) := by decide +kernel
theorem dX3_checksum_55 : decode cX3_checksum 55 = .ok (.goto (-49), 3) := by decide +kernel
theorem dX3_checksum_58 : decode cX3_checksum 58 = .ok (.iconst 0, 1) := by decide +kernel
theorem dX3_checksum_59 : decode cX3_checksum 59 = .ok (.istore_n 3, 1) := by decide +kernel
theorem dX3_checksum_60 : decode cX3_checksum 60 = .ok (.iload_n 3, 1) := by decide +kernel
theorem dX3_checksum_61 : decode cX3_checksum 61 = .ok (.aload_n 0, 1) := by decide +kernel
theorem dX3_checksum_62 : decode cX3_checksum 62 = .ok (.getfield 20, 3) := by decide +kernel
theorem dX3_checksum_65 : decode cX3_checksum 65 = .ok (.arraylength, 1) := by decide +kernel
theorem dX3_checksum_66 : decode cX3_checksum 66 = .ok (.if_icmp .ge 37, 3) := by decide +kernel
theorem dX3_checksum_69 : decode cX3_checksum 69 = .ok (.ldc2_w 184, 3) := by decide +kernel
theorem dX3_checksum_72 : decode cX3_checksum 72 = .ok (.lload_n 1, 1) := by decide +kernel
theorem dX3_checksum_73 : decode cX3_checksum 73 = .ok (.lmul, 1) := by decide +kernel
theorem dX3_checksum_74 : decode cX3_checksum 74 = .ok (.aload_n 0, 1) := by decide +kernel
theorem dX3_checksum_75 : decode cX3_checksum 75 = .ok (.getfield 20, 3) := by decide +kernel
theorem dX3_checksum_78 : decode cX3_checksum 78 = .ok (.iload_n 3, 1) := by decide +kernel
theorem dX3_checksum_79 : decode cX3_checksum 79 = .ok (.aaload, 1) := by decide +kernel
theorem dX3_checksum_80 : decode cX3_checksum 80 = .ok (.invokevirtual 78, 3) := by decide +kernel
theorem dX3_checksum_83 : decode cX3_checksum 83 = .ok (.i2l, 1) := by decide +kernel
theorem dX3_checksum_84 : decode cX3_checksum 84 = .ok (.ladd, 1) := by decide +kernel
theorem dX3_checksum_85 : decode cX3_checksum 85 = .ok (.lstore_n 1, 1) := by decide +kernel
theorem dX3_checksum_86 : decode cX3_checksum 86 = .ok (.aload_n 0, 1) := by decide +kernel
theorem dX3_checksum_87 : decode cX3_checksum 87 = .ok (.getfield 20, 3) := by decide +kernel
theorem dX3_checksum_90 : decode cX3_checksum 90 = .ok (.iload_n 3, 1) := by decide +kernel
theorem dX3_checksum_91 : decode cX3_checksum 91 = .ok (.aaload, 1) := by decide +kernel
theorem dX3_checksum_92 : decode cX3_checksum 92 = .ok (.lload_n 1, 1) := by decide +kernel
theorem dX3_checksum_93 : decode cX3_checksum 93 = .ok (.invokevirtual 190, 3) := by decide +kernel
theorem dX3_checksum_96 : decode cX3_checksum 96 = .ok (.lstore_n 1, 1) := by decide +kernel
theorem dX3_checksum_97 : decode cX3_checksum 97 = .ok (.iinc 3 1, 3) := by decide +kernel
theorem dX3_checksum_100 : decode cX3_checksum 100 = .ok (.goto (-40), 3) := by decide +kernel
theorem dX3_checksum_103 : decode cX3_checksum 103 = .ok (.iconst 0, 1) := by decide +kernel
theorem dX3_checksum_104 : decode cX3_checksum 104 = .ok (.istore_n 3, 1) := by decide +kernel
theorem dX3_checksum_105 : decode cX3_checksum 105 = .ok (.iload_n 3, 1) := by decide +kernel
theorem dX3_checksum_106 : decode cX3_checksum 106 = .ok (.aload_n 0, 1) := by decide +kernel
theorem dX3_checksum_107 : decode cX3_checksum 107 = .ok (.getfield 27, 3) := by decide +kernel
theorem dX3_checksum_110 : decode cX3_checksum 110 = .ok (.arraylength, 1) := by decide +kernel
theorem dX3_checksum_111 : decode cX3_checksum 111 = .ok (.if_icmp .ge 42, 3) := by decide +kernel
theorem dX3_checksum_114 : decode cX3_checksum 114 = .ok (.ldc2_w 184, 3) := by decide +kernel
theorem dX3_checksum_117 : decode cX3_checksum 117 = .ok (.lload_n 1, 1) := by decide +kernel
theorem dX3_checksum_118 : decode cX3_checksum 118 = .ok (.lmul, 1) := by decide +kernel
theorem dX3_checksum_119 : decode cX3_checksum 119 = .ok (.aload_n 0, 1) := by decide +kernel
theorem dX3_checksum_120 : decode cX3_checksum 120 = .ok (.getfield 27, 3) := by decide +kernel
theorem dX3_checksum_123 : decode cX3_checksum 123 = .ok (.iload_n 3, 1) := by decide +kernel
theorem dX3_checksum_124 : decode cX3_checksum 124 = .ok (.aaload, 1) := by decide +kernel
theorem dX3_checksum_125 : decode cX3_checksum 125 = .ok (.invokevirtual 103, 3) := by decide +kernel
theorem dX3_checksum_128 : decode cX3_checksum 128 = .ok (.ifCond .eq 15, 3) := by decide +kernel
theorem dX3_checksum_131 : decode cX3_checksum 131 = .ok (.aload_n 0, 1) := by decide +kernel
theorem dX3_checksum_132 : decode cX3_checksum 132 = .ok (.getfield 27, 3) := by decide +kernel
theorem dX3_checksum_135 : decode cX3_checksum 135 = .ok (.iload_n 3, 1) := by decide +kernel
theorem dX3_checksum_136 : decode cX3_checksum 136 = .ok (.aaload, 1) := by decide +kernel
theorem dX3_checksum_137 : decode cX3_checksum 137 = .ok (.invokevirtual 100, 3) := by decide +kernel
theorem dX3_checksum_140 : decode cX3_checksum 140 = .ok (.goto 4, 3) := by decide +kernel
theorem dX3_checksum_143 : decode cX3_checksum 143 = .ok (.iconst (-1), 1) := by decide +kernel
theorem dX3_checksum_144 : decode cX3_checksum 144 = .ok (.i2l, 1) := by decide +kernel
theorem dX3_checksum_145 : decode cX3_checksum 145 = .ok (.ladd, 1) := by decide +kernel
theorem dX3_checksum_146 : decode cX3_checksum 146 = .ok (.lstore_n 1, 1) := by decide +kernel
theorem dX3_checksum_147 : decode cX3_checksum 147 = .ok (.iinc 3 1, 3) := by decide +kernel
theorem dX3_checksum_150 : decode cX3_checksum 150 = .ok (.goto (-45), 3) := by decide +kernel
theorem dX3_checksum_153 : decode cX3_checksum 153 = .ok (.lload_n 1, 1) := by decide +kernel
theorem dX3_checksum_154 : decode cX3_checksum 154 = .ok (.lreturn, 1) := by decide +kernel
theorem dX3_isTrue_0 : decode cX3_isTrue 0 = .ok (.iconst 0, 1) := by decide +kernel
theorem dX3_isTrue_1 : decode cX3_isTrue 1 = .ok (.istore_n 1, 1) := by decide +kernel
theorem dX3_isTrue_2 : decode cX3_isTrue 2 = .ok (.iload_n 1, 1) := by decide +kernel
theorem dX3_isTrue_3 : decode cX3_isTrue 3 = .ok (.aload_n 0, 1) := by decide +kernel
theorem dX3_isTrue_4 : decode cX3_isTrue 4 = .ok (.getfield 27, 3) := by decide +kernel
theorem dX3_isTrue_7 : decode cX3_isTrue 7 = .ok (.arraylength, 1) := by decide +kernel
theorem dX3_isTrue_8 : decode cX3_isTrue 8 = .ok (.if_icmp .ge 35, 3) := by decide +kernel
theorem dX3_isTrue_11 : decode cX3_isTrue 11 = .ok (.aload_n 0, 1) := by decide +kernel
theorem dX3_isTrue_12 : decode cX3_isTrue 12 = .ok (.getfield 27, 3) := by decide +kernel
theorem dX3_isTrue_15 : decode cX3_isTrue 15 = .ok (.iload_n 1, 1) := by decide +kernel
theorem dX3_isTrue_16 : decode cX3_isTrue 16 = .ok (.aaload, 1) := by decide +kernel
theorem dX3_isTrue_17 : decode cX3_isTrue 17 = .ok (.invokevirtual 103, 3) := by decide +kernel
theorem dX3_isTrue_20 : decode cX3_isTrue 20 = .ok (.ifCond .eq 17, 3) := by decide +kernel
theorem dX3_isTrue_23 : decode cX3_isTrue 23 = .ok (.aload_n 0, 1) := by decide +kernel
theorem dX3_isTrue_24 : decode cX3_isTrue 24 = .ok (.getfield 27, 3) := by decide +kernel
theorem dX3_isTrue_27 : decode cX3_isTrue 27 = .ok (.iload_n 1, 1) := by decide +kernel
theorem dX3_isTrue_28 : decode cX3_isTrue 28 = .ok (.aaload, 1) := by decide +kernel
theorem dX3_isTrue_29 : decode cX3_isTrue 29 = .ok (.invokevirtual 193, 3) := by decide +kernel
theorem dX3_isTrue_32 : decode cX3_isTrue 32 = .ok (.ifCond .ne 5, 3) := by decide +kernel
theorem dX3_isTrue_35 : decode cX3_isTrue 35 = .ok (.iconst 0, 1) := by decide +kernel
theorem dX3_isTrue_36 : decode cX3_isTrue 36 = .ok (.ireturn, 1) := by decide +kernel
theorem dX3_isTrue_37 : decode cX3_isTrue 37 = .ok (.iinc 1 1, 3) := by decide +kernel
theorem dX3_isTrue_40 : decode cX3_isTrue 40 = .ok (.goto (-38), 3) := by decide +kernel
theorem dX3_isTrue_43 : decode cX3_isTrue 43 = .ok (.iconst 0, 1) := by decide +kernel
theorem dX3_isTrue_44 : decode cX3_isTrue 44 = .ok (.istore_n 1, 1) := by decide +kernel
theorem dX3_isTrue_45 : decode cX3_isTrue 45 = .ok (.iload_n 1, 1) := by decide +kernel
theorem dX3_isTrue_46 : decode cX3_isTrue 46 = .ok (.aload_n 0, 1) := by decide +kernel
theorem dX3_isTrue_47 : decode cX3_isTrue 47 = .ok (.getfield 20, 3) := by decide +kernel
theorem dX3_isTrue_50 : decode cX3_isTrue 50 = .ok (.arraylength, 1) := by decide +kernel
theorem dX3_isTrue_51 : decode cX3_isTrue 51 = .ok (.if_icmp .ge 37, 3) := by decide +kernel
theorem dX3_isTrue_54 : decode cX3_isTrue 54 = .ok (.aload_n 0, 1) := by decide +kernel
theorem dX3_isTrue_55 : decode cX3_isTrue 55 = .ok (.aload_n 0, 1) := by decide +kernel
theorem dX3_isTrue_56 : decode cX3_isTrue 56 = .ok (.getfield 20, 3) := by decide +kernel
theorem dX3_isTrue_59 : decode cX3_isTrue 59 = .ok (.iload_n 1, 1) := by decide +kernel
theorem dX3_isTrue_60 : decode cX3_isTrue 60 = .ok (.aaload, 1) := by decide +kernel
theorem dX3_isTrue_61 : decode cX3_isTrue 61 = .ok (.invokevirtual 196, 3) := by decide +kernel
theorem dX3_isTrue_64 : decode cX3_isTrue 64 = .ok (.ifCond .eq 16, 3) := by decide +kernel
theorem dX3_isTrue_67 : decode cX3_isTrue 67 = .ok (.aload_n 0, 1) := by decide +kernel
theorem dX3_isTrue_68 : decode cX3_isTrue 68 = .ok (.aload_n 0, 1) := by decide +kernel
theorem dX3_isTrue_69 : decode cX3_isTrue 69 = .ok (.getfield 20, 3) := by decide +kernel
theorem dX3_isTrue_72 : decode cX3_isTrue 72 = .ok (.iload_n 1, 1) := by decide +kernel
theorem dX3_isTrue_73 : decode cX3_isTrue 73 = .ok (.aaload, 1) := by decide +kernel
theorem dX3_isTrue_74 : decode cX3_isTrue 74 = .ok (.invokevirtual 200, 3) := by decide +kernel
theorem dX3_isTrue_77 : decode cX3_isTrue 77 = .ok (.ifCond .ne 5, 3) := by decide +kernel
theorem dX3_isTrue_80 : decode cX3_isTrue 80 = .ok (.iconst 0, 1) := by decide +kernel
theorem dX3_isTrue_81 : decode cX3_isTrue 81 = .ok (.ireturn, 1) := by decide +kernel
theorem dX3_isTrue_82 : decode cX3_isTrue 82 = .ok (.iinc 1 1, 3) := by decide +kernel
theorem dX3_isTrue_85 : decode cX3_isTrue 85 = .ok (.goto (-40), 3) := by decide +kernel
theorem dX3_isTrue_88 : decode cX3_isTrue 88 = .ok (.iconst 1, 1) := by decide +kernel
theorem dX3_isTrue_89 : decode cX3_isTrue 89 = .ok (.ireturn, 1) := by decide +kernel
theorem dX3_isReadBack_0 : decode cX3_isReadBack 0 = .ok (.aload_n 0, 1) := by decide +kernel
theorem dX3_isReadBack_1 : decode cX3_isReadBack 1 = .ok (.getfield 32, 3) := by decide +kernel
theorem dX3_isReadBack_4 : decode cX3_isReadBack 4 = .ok (.aload_n 1, 1) := by decide +kernel
theorem dX3_isReadBack_5 : decode cX3_isReadBack 5 = .ok (.invokevirtual 88, 3) := by decide +kernel
theorem dX3_isReadBack_8 : decode cX3_isReadBack 8 = .ok (.invokevirtual 96, 3) := by decide +kernel
theorem dX3_isReadBack_11 : decode cX3_isReadBack 11 = .ok (.aload_n 0, 1) := by decide +kernel
theorem dX3_isReadBack_12 : decode cX3_isReadBack 12 = .ok (.getfield 32, 3) := by decide +kernel
theorem dX3_isReadBack_15 : decode cX3_isReadBack 15 = .ok (.invokevirtual 100, 3) := by decide +kernel
theorem dX3_isReadBack_18 : decode cX3_isReadBack 18 = .ok (.aload_n 1, 1) := by decide +kernel
theorem dX3_isReadBack_19 : decode cX3_isReadBack 19 = .ok (.invokevirtual 78, 3) := by decide +kernel
theorem dX3_isReadBack_22 : decode cX3_isReadBack 22 = .ok (.if_icmp .eq 5, 3) := by decide +kernel
theorem dX3_isReadBack_25 : decode cX3_isReadBack 25 = .ok (.iconst 0, 1) := by decide +kernel
theorem dX3_isReadBack_26 : decode cX3_isReadBack 26 = .ok (.ireturn, 1) := by decide +kernel
theorem dX3_isReadBack_27 : decode cX3_isReadBack 27 = .ok (.iconst 0, 1) := by decide +kernel
theorem dX3_isReadBack_28 : decode cX3_isReadBack 28 = .ok (.istore_n 2, 1) := by decide +kernel
theorem dX3_isReadBack_29 : decode cX3_isReadBack 29 = .ok (.iload_n 2, 1) := by decide +kernel
theorem dX3_isReadBack_30 : decode cX3_isReadBack 30 = .ok (.aload_n 1, 1) := by decide +kernel
theorem dX3_isReadBack_31 : decode cX3_isReadBack 31 = .ok (.invokevirtual 78, 3) := by decide +kernel
theorem dX3_isReadBack_34 : decode cX3_isReadBack 34 = .ok (.if_icmp .ge 26, 3) := by decide +kernel
theorem dX3_isReadBack_37 : decode cX3_isReadBack 37 = .ok (.aload_n 0, 1) := by decide +kernel
theorem dX3_isReadBack_38 : decode cX3_isReadBack 38 = .ok (.getfield 32, 3) := by decide +kernel
theorem dX3_isReadBack_41 : decode cX3_isReadBack 41 = .ok (.invokevirtual 114, 3) := by decide +kernel
theorem dX3_isReadBack_44 : decode cX3_isReadBack 44 = .ok (.aload_n 1, 1) := by decide +kernel
theorem dX3_isReadBack_45 : decode cX3_isReadBack 45 = .ok (.iload_n 2, 1) := by decide +kernel
theorem dX3_isReadBack_46 : decode cX3_isReadBack 46 = .ok (.invokevirtual 203, 3) := by decide +kernel
theorem dX3_isReadBack_49 : decode cX3_isReadBack 49 = .ok (.if_icmp .eq 5, 3) := by decide +kernel
theorem dX3_isReadBack_52 : decode cX3_isReadBack 52 = .ok (.iconst 0, 1) := by decide +kernel
theorem dX3_isReadBack_53 : decode cX3_isReadBack 53 = .ok (.ireturn, 1) := by decide +kernel
theorem dX3_isReadBack_54 : decode cX3_isReadBack 54 = .ok (.iinc 2 1, 3) := by decide +kernel
theorem dX3_isReadBack_57 : decode cX3_isReadBack 57 = .ok (.goto (-28), 3) := by decide +kernel
theorem dX3_isReadBack_60 : decode cX3_isReadBack 60 = .ok (.aload_n 0, 1) := by decide +kernel
theorem dX3_isReadBack_61 : decode cX3_isReadBack 61 = .ok (.getfield 32, 3) := by decide +kernel
theorem dX3_isReadBack_64 : decode cX3_isReadBack 64 = .ok (.invokevirtual 100, 3) := by decide +kernel
theorem dX3_isReadBack_67 : decode cX3_isReadBack 67 = .ok (.ifCond .ne 7, 3) := by decide +kernel
theorem dX3_isReadBack_70 : decode cX3_isReadBack 70 = .ok (.iconst 1, 1) := by decide +kernel
theorem dX3_isReadBack_71 : decode cX3_isReadBack 71 = .ok (.goto 4, 3) := by decide +kernel
theorem dX3_isReadBack_74 : decode cX3_isReadBack 74 = .ok (.iconst 0, 1) := by decide +kernel
theorem dX3_isReadBack_75 : decode cX3_isReadBack 75 = .ok (.ireturn, 1) := by decide +kernel
theorem dX3_isPouredBack_0 : decode cX3_isPouredBack 0 = .ok (.aload_n 0, 1) := by decide +kernel
theorem dX3_isPouredBack_1 : decode cX3_isPouredBack 1 = .ok (.getfield 32, 3) := by decide +kernel
theorem dX3_isPouredBack_4 : decode cX3_isPouredBack 4 = .ok (.invokevirtual 149, 3) := by decide +kernel
theorem dX3_isPouredBack_7 : decode cX3_isPouredBack 7 = .ok (.aload_n 0, 1) := by decide +kernel
theorem dX3_isPouredBack_8 : decode cX3_isPouredBack 8 = .ok (.getfield 36, 3) := by decide +kernel
theorem dX3_isPouredBack_11 : decode cX3_isPouredBack 11 = .ok (.invokevirtual 82, 3) := by decide +kernel
theorem dX3_isPouredBack_14 : decode cX3_isPouredBack 14 = .ok (.aload_n 0, 1) := by decide +kernel
theorem dX3_isPouredBack_15 : decode cX3_isPouredBack 15 = .ok (.getfield 32, 3) := by decide +kernel
theorem dX3_isPouredBack_18 : decode cX3_isPouredBack 18 = .ok (.aload_n 0, 1) := by decide +kernel
theorem dX3_isPouredBack_19 : decode cX3_isPouredBack 19 = .ok (.getfield 36, 3) := by decide +kernel
theorem dX3_isPouredBack_22 : decode cX3_isPouredBack 22 = .ok (.iconst 3, 1) := by decide +kernel
theorem dX3_isPouredBack_23 : decode cX3_isPouredBack 23 = .ok (.invokestatic 158, 3) := by decide +kernel
theorem dX3_isPouredBack_26 : decode cX3_isPouredBack 26 = .ok (.pop, 1) := by decide +kernel
theorem dX3_isPouredBack_27 : decode cX3_isPouredBack 27 = .ok (.aload_n 0, 1) := by decide +kernel
theorem dX3_isPouredBack_28 : decode cX3_isPouredBack 28 = .ok (.getfield 36, 3) := by decide +kernel
theorem dX3_isPouredBack_31 : decode cX3_isPouredBack 31 = .ok (.invokevirtual 78, 3) := by decide +kernel
theorem dX3_isPouredBack_34 : decode cX3_isPouredBack 34 = .ok (.aload_n 1, 1) := by decide +kernel
theorem dX3_isPouredBack_35 : decode cX3_isPouredBack 35 = .ok (.invokevirtual 78, 3) := by decide +kernel
theorem dX3_isPouredBack_38 : decode cX3_isPouredBack 38 = .ok (.if_icmp .eq 5, 3) := by decide +kernel
theorem dX3_isPouredBack_41 : decode cX3_isPouredBack 41 = .ok (.iconst 0, 1) := by decide +kernel
theorem dX3_isPouredBack_42 : decode cX3_isPouredBack 42 = .ok (.ireturn, 1) := by decide +kernel
theorem dX3_isPouredBack_43 : decode cX3_isPouredBack 43 = .ok (.iconst 0, 1) := by decide +kernel
theorem dX3_isPouredBack_44 : decode cX3_isPouredBack 44 = .ok (.istore_n 2, 1) := by decide +kernel
theorem dX3_isPouredBack_45 : decode cX3_isPouredBack 45 = .ok (.iload_n 2, 1) := by decide +kernel
theorem dX3_isPouredBack_46 : decode cX3_isPouredBack 46 = .ok (.aload_n 1, 1) := by decide +kernel
theorem dX3_isPouredBack_47 : decode cX3_isPouredBack 47 = .ok (.invokevirtual 78, 3) := by decide +kernel
theorem dX3_isPouredBack_50 : decode cX3_isPouredBack 50 = .ok (.if_icmp .ge 27, 3) := by decide +kernel
theorem dX3_isPouredBack_53 : decode cX3_isPouredBack 53 = .ok (.aload_n 0, 1) := by decide +kernel
theorem dX3_isPouredBack_54 : decode cX3_isPouredBack 54 = .ok (.getfield 36, 3) := by decide +kernel
theorem dX3_isPouredBack_57 : decode cX3_isPouredBack 57 = .ok (.iload_n 2, 1) := by decide +kernel
theorem dX3_isPouredBack_58 : decode cX3_isPouredBack 58 = .ok (.invokevirtual 203, 3) := by decide +kernel
theorem dX3_isPouredBack_61 : decode cX3_isPouredBack 61 = .ok (.aload_n 1, 1) := by decide +kernel
theorem dX3_isPouredBack_62 : decode cX3_isPouredBack 62 = .ok (.iload_n 2, 1) := by decide +kernel
theorem dX3_isPouredBack_63 : decode cX3_isPouredBack 63 = .ok (.invokevirtual 203, 3) := by decide +kernel
theorem dX3_isPouredBack_66 : decode cX3_isPouredBack 66 = .ok (.if_icmp .eq 5, 3) := by decide +kernel
theorem dX3_isPouredBack_69 : decode cX3_isPouredBack 69 = .ok (.iconst 0, 1) := by decide +kernel
theorem dX3_isPouredBack_70 : decode cX3_isPouredBack 70 = .ok (.ireturn, 1) := by decide +kernel
theorem dX3_isPouredBack_71 : decode cX3_isPouredBack 71 = .ok (.iinc 2 1, 3) := by decide +kernel
theorem dX3_isPouredBack_74 : decode cX3_isPouredBack 74 = .ok (.goto (-29), 3) := by decide +kernel
theorem dX3_isPouredBack_77 : decode cX3_isPouredBack 77 = .ok (.iconst 1, 1) := by decide +kernel
theorem dX3_isPouredBack_78 : decode cX3_isPouredBack 78 = .ok (.ireturn, 1) := by decide +kernel
theorem dX3_pourByParts_0 : decode cX3_pourByParts 0 = .ok (.iconst 0, 1) := by decide +kernel
theorem dX3_pourByParts_1 : decode cX3_pourByParts 1 = .ok (.istore_n 3, 1) := by decide +kernel
theorem dX3_pourByParts_2 : decode cX3_pourByParts 2 = .ok (.iload_n 3, 1) := by decide +kernel
theorem dX3_pourByParts_3 : decode cX3_pourByParts 3 = .ok (.sipush 256, 3) := by decide +kernel
theorem dX3_pourByParts_6 : decode cX3_pourByParts 6 = .ok (.if_icmp .ge 27, 3) := by decide +kernel
theorem dX3_pourByParts_9 : decode cX3_pourByParts 9 = .ok (.aload_n 0, 1) := by decide +kernel
theorem dX3_pourByParts_10 : decode cX3_pourByParts 10 = .ok (.invokevirtual 100, 3) := by decide +kernel
theorem dX3_pourByParts_13 : decode cX3_pourByParts 13 = .ok (.ifCond .le 20, 3) := by decide +kernel
theorem dX3_pourByParts_16 : decode cX3_pourByParts 16 = .ok (.aload_n 0, 1) := by decide +kernel
theorem dX3_pourByParts_17 : decode cX3_pourByParts 17 = .ok (.aload_n 0, 1) := by decide +kernel
theorem dX3_pourByParts_18 : decode cX3_pourByParts 18 = .ok (.aload_n 1, 1) := by decide +kernel
theorem dX3_pourByParts_19 : decode cX3_pourByParts 19 = .ok (.iload_n 2, 1) := by decide +kernel
theorem dX3_pourByParts_20 : decode cX3_pourByParts 20 = .ok (.invokevirtual 152, 3) := by decide +kernel
theorem dX3_pourByParts_23 : decode cX3_pourByParts 23 = .ok (.invokevirtual 111, 3) := by decide +kernel
theorem dX3_pourByParts_26 : decode cX3_pourByParts 26 = .ok (.pop, 1) := by decide +kernel
theorem dX3_pourByParts_27 : decode cX3_pourByParts 27 = .ok (.iinc 3 1, 3) := by decide +kernel
theorem dX3_pourByParts_30 : decode cX3_pourByParts 30 = .ok (.goto (-28), 3) := by decide +kernel
theorem dX3_pourByParts_33 : decode cX3_pourByParts 33 = .ok (.iload_n 3, 1) := by decide +kernel
theorem dX3_pourByParts_34 : decode cX3_pourByParts 34 = .ok (.ireturn, 1) := by decide +kernel
theorem dX3_needRow_0 : decode cX3_needRow 0 = .ok (.iload_n 1, 1) := by decide +kernel
theorem dX3_needRow_1 : decode cX3_needRow 1 = .ok (.ifCond .lt 12, 3) := by decide +kernel
theorem dX3_needRow_4 : decode cX3_needRow 4 = .ok (.iload_n 1, 1) := by decide +kernel
theorem dX3_needRow_5 : decode cX3_needRow 5 = .ok (.aload_n 0, 1) := by decide +kernel
theorem dX3_needRow_6 : decode cX3_needRow 6 = .ok (.getfield 11, 3) := by decide +kernel
theorem dX3_needRow_9 : decode cX3_needRow 9 = .ok (.arraylength, 1) := by decide +kernel
theorem dX3_needRow_10 : decode cX3_needRow 10 = .ok (.if_icmp .lt 13, 3) := by decide +kernel
theorem dX3_needRow_13 : decode cX3_needRow 13 = .ok (.new 206, 3) := by decide +kernel
theorem dX3_needRow_16 : decode cX3_needRow 16 = .ok (.dup, 1) := by decide +kernel
theorem dX3_needRow_17 : decode cX3_needRow 17 = .ok (.ldc 208, 2) := by decide +kernel
theorem dX3_needRow_19 : decode cX3_needRow 19 = .ok (.invokespecial 210, 3) := by decide +kernel
theorem dX3_needRow_22 : decode cX3_needRow 22 = .ok (.athrow, 1) := by decide +kernel
theorem dX3_needRow_23 : decode cX3_needRow 23 = .ok (.return_, 1) := by decide +kernel
theorem dX3_rowAt_0 : decode cX3_rowAt 0 = .ok (.aload_n 0, 1) := by decide +kernel
theorem dX3_rowAt_1 : decode cX3_rowAt 1 = .ok (.iload_n 1, 1) := by decide +kernel
theorem dX3_rowAt_2 : decode cX3_rowAt 2 = .ok (.invokevirtual 85, 3) := by decide +kernel
theorem dX3_rowAt_5 : decode cX3_rowAt 5 = .ok (.aload_n 0, 1) := by decide +kernel
theorem dX3_rowAt_6 : decode cX3_rowAt 6 = .ok (.getfield 11, 3) := by decide +kernel
theorem dX3_rowAt_9 : decode cX3_rowAt 9 = .ok (.iload_n 1, 1) := by decide +kernel
theorem dX3_rowAt_10 : decode cX3_rowAt 10 = .ok (.aaload, 1) := by decide +kernel
theorem dX3_rowAt_11 : decode cX3_rowAt 11 = .ok (.areturn, 1) := by decide +kernel
theorem dX3_gathererAt_0 : decode cX3_gathererAt 0 = .ok (.iload_n 1, 1) := by decide +kernel
theorem dX3_gathererAt_1 : decode cX3_gathererAt 1 = .ok (.ifCond .lt 12, 3) := by decide +kernel
theorem dX3_gathererAt_4 : decode cX3_gathererAt 4 = .ok (.iload_n 1, 1) := by decide +kernel
theorem dX3_gathererAt_5 : decode cX3_gathererAt 5 = .ok (.aload_n 0, 1) := by decide +kernel
theorem dX3_gathererAt_6 : decode cX3_gathererAt 6 = .ok (.getfield 20, 3) := by decide +kernel
theorem dX3_gathererAt_9 : decode cX3_gathererAt 9 = .ok (.arraylength, 1) := by decide +kernel
theorem dX3_gathererAt_10 : decode cX3_gathererAt 10 = .ok (.if_icmp .lt 13, 3) := by decide +kernel
theorem dX3_gathererAt_13 : decode cX3_gathererAt 13 = .ok (.new 206, 3) := by decide +kernel
theorem dX3_gathererAt_16 : decode cX3_gathererAt 16 = .ok (.dup, 1) := by decide +kernel
theorem dX3_gathererAt_17 : decode cX3_gathererAt 17 = .ok (.ldc 211, 2) := by decide +kernel
theorem dX3_gathererAt_19 : decode cX3_gathererAt 19 = .ok (.invokespecial 210, 3) := by decide +kernel
theorem dX3_gathererAt_22 : decode cX3_gathererAt 22 = .ok (.athrow, 1) := by decide +kernel
theorem dX3_gathererAt_23 : decode cX3_gathererAt 23 = .ok (.aload_n 0, 1) := by decide +kernel
theorem dX3_gathererAt_24 : decode cX3_gathererAt 24 = .ok (.getfield 20, 3) := by decide +kernel
theorem dX3_gathererAt_27 : decode cX3_gathererAt 27 = .ok (.iload_n 1, 1) := by decide +kernel
theorem dX3_gathererAt_28 : decode cX3_gathererAt 28 = .ok (.aaload, 1) := by decide +kernel
theorem dX3_gathererAt_29 : decode cX3_gathererAt 29 = .ok (.areturn, 1) := by decide +kernel
theorem dX3_readerAt_0 : decode cX3_readerAt 0 = .ok (.iload_n 1, 1) := by decide +kernel
theorem dX3_readerAt_1 : decode cX3_readerAt 1 = .ok (.ifCond .lt 12, 3) := by decide +kernel
theorem dX3_readerAt_4 : decode cX3_readerAt 4 = .ok (.iload_n 1, 1) := by decide +kernel
theorem dX3_readerAt_5 : decode cX3_readerAt 5 = .ok (.aload_n 0, 1) := by decide +kernel
theorem dX3_readerAt_6 : decode cX3_readerAt 6 = .ok (.getfield 27, 3) := by decide +kernel
theorem dX3_readerAt_9 : decode cX3_readerAt 9 = .ok (.arraylength, 1) := by decide +kernel
theorem dX3_readerAt_10 : decode cX3_readerAt 10 = .ok (.if_icmp .lt 13, 3) := by decide +kernel
theorem dX3_readerAt_13 : decode cX3_readerAt 13 = .ok (.new 206, 3) := by decide +kernel
theorem dX3_readerAt_16 : decode cX3_readerAt 16 = .ok (.dup, 1) := by decide +kernel
theorem dX3_readerAt_17 : decode cX3_readerAt 17 = .ok (.ldc 213, 2) := by decide +kernel
theorem dX3_readerAt_19 : decode cX3_readerAt 19 = .ok (.invokespecial 210, 3) := by decide +kernel
theorem dX3_readerAt_22 : decode cX3_readerAt 22 = .ok (.athrow, 1) := by decide +kernel
theorem dX3_readerAt_23 : decode cX3_readerAt 23 = .ok (.aload_n 0, 1) := by decide +kernel
theorem dX3_readerAt_24 : decode cX3_readerAt 24 = .ok (.getfield 27, 3) := by decide +kernel
theorem dX3_readerAt_27 : decode cX3_readerAt 27 = .ok (.iload_n 1, 1) := by decide +kernel
theorem dX3_readerAt_28 : decode cX3_readerAt 28 = .ok (.aaload, 1) := by decide +kernel
theorem dX3_readerAt_29 : decode cX3_readerAt 29 = .ok (.areturn, 1) := by decide +kernel
theorem dX3_needPlaces_0 : decode cX3_needPlaces 0 = .ok (.aload_n 0, 1) := by decide +kernel
theorem dX3_needPlaces_1 : decode cX3_needPlaces 1 = .ok (.iload_n 1, 1) := by decide +kernel
theorem dX3_needPlaces_2 : decode cX3_needPlaces 2 = .ok (.iload_n 2, 1) := by decide +kernel
theorem dX3_needPlaces_3 : decode cX3_needPlaces 3 = .ok (.invokevirtual 215, 3) := by decide +kernel
theorem dX3_needPlaces_6 : decode cX3_needPlaces 6 = .ok (.ifCond .ne 13, 3) := by decide +kernel
theorem dX3_needPlaces_9 : decode cX3_needPlaces 9 = .ok (.new 206, 3) := by decide +kernel
theorem dX3_needPlaces_12 : decode cX3_needPlaces 12 = .ok (.dup, 1) := by decide +kernel
theorem dX3_needPlaces_13 : decode cX3_needPlaces 13 = .ok (.ldc 219, 2) := by decide +kernel
theorem dX3_needPlaces_15 : decode cX3_needPlaces 15 = .ok (.invokespecial 210, 3) := by decide +kernel
theorem dX3_needPlaces_18 : decode cX3_needPlaces 18 = .ok (.athrow, 1) := by decide +kernel
theorem dX3_needPlaces_19 : decode cX3_needPlaces 19 = .ok (.return_, 1) := by decide +kernel
theorem dX3_needRoom_0 : decode cX3_needRoom 0 = .ok (.iload_n 1, 1) := by decide +kernel
theorem dX3_needRoom_1 : decode cX3_needRoom 1 = .ok (.aload_n 0, 1) := by decide +kernel
theorem dX3_needRoom_2 : decode cX3_needRoom 2 = .ok (.invokevirtual 221, 3) := by decide +kernel
theorem dX3_needRoom_5 : decode cX3_needRoom 5 = .ok (.if_icmp .le 13, 3) := by decide +kernel
theorem dX3_needRoom_8 : decode cX3_needRoom 8 = .ok (.new 224, 3) := by decide +kernel
theorem dX3_needRoom_11 : decode cX3_needRoom 11 = .ok (.dup, 1) := by decide +kernel
theorem dX3_needRoom_12 : decode cX3_needRoom 12 = .ok (.ldc 226, 2) := by decide +kernel
theorem dX3_needRoom_14 : decode cX3_needRoom 14 = .ok (.invokespecial 228, 3) := by decide +kernel
theorem dX3_needRoom_17 : decode cX3_needRoom 17 = .ok (.athrow, 1) := by decide +kernel
theorem dX3_needRoom_18 : decode cX3_needRoom 18 = .ok (.return_, 1) := by decide +kernel
theorem dX3_needWanted_0 : decode cX3_needWanted 0 = .ok (.lload_n 0, 1) := by decide +kernel
theorem dX3_needWanted_1 : decode cX3_needWanted 1 = .ok (.lconst 0, 1) := by decide +kernel
theorem dX3_needWanted_2 : decode cX3_needWanted 2 = .ok (.lcmp, 1) := by decide +kernel
theorem dX3_needWanted_3 : decode cX3_needWanted 3 = .ok (.ifCond .ge 13, 3) := by decide +kernel
theorem dX3_needWanted_6 : decode cX3_needWanted 6 = .ok (.new 44, 3) := by decide +kernel
theorem dX3_needWanted_9 : decode cX3_needWanted 9 = .ok (.dup, 1) := by decide +kernel
theorem dX3_needWanted_10 : decode cX3_needWanted 10 = .ok (.ldc 229, 2) := by decide +kernel
theorem dX3_needWanted_12 : decode cX3_needWanted 12 = .ok (.invokespecial 48, 3) := by decide +kernel
theorem dX3_needWanted_15 : decode cX3_needWanted 15 = .ok (.athrow, 1) := by decide +kernel
theorem dX3_needWanted_16 : decode cX3_needWanted 16 = .ok (.return_, 1) := by decide +kernel
theorem dX3_needOpen_0 : decode cX3_needOpen 0 = .ok (.aload_n 0, 1) := by decide +kernel
theorem dX3_needOpen_1 : decode cX3_needOpen 1 = .ok (.invokevirtual 103, 3) := by decide +kernel
theorem dX3_needOpen_4 : decode cX3_needOpen 4 = .ok (.ifCond .ne 13, 3) := by decide +kernel
theorem dX3_needOpen_7 : decode cX3_needOpen 7 = .ok (.new 231, 3) := by decide +kernel
theorem dX3_needOpen_10 : decode cX3_needOpen 10 = .ok (.dup, 1) := by decide +kernel
theorem dX3_needOpen_11 : decode cX3_needOpen 11 = .ok (.ldc 233, 2) := by decide +kernel
theorem dX3_needOpen_13 : decode cX3_needOpen 13 = .ok (.invokespecial 235, 3) := by decide +kernel
theorem dX3_needOpen_16 : decode cX3_needOpen 16 = .ok (.athrow, 1) := by decide +kernel
theorem dX3_needOpen_17 : decode cX3_needOpen 17 = .ok (.return_, 1) := by decide +kernel
theorem dX4_init_0 : decode cX4_init 0 = .ok (.aload_n 0, 1) := by decide +kernel
theorem dX4_init_1 : decode cX4_init 1 = .ok (.invokespecial 1, 3) := by decide +kernel
theorem dX4_init_4 : decode cX4_init 4 = .ok (.aload_n 0, 1) := by decide +kernel
theorem dX4_init_5 : decode cX4_init 5 = .ok (.sipush 2048, 3) := by decide +kernel
theorem dX4_init_8 : decode cX4_init 8 = .ok (.newarray .int, 2) := by decide +kernel
theorem dX4_init_10 : decode cX4_init 10 = .ok (.putfield 7, 3) := by decide +kernel
theorem dX4_init_13 : decode cX4_init 13 = .ok (.aload_n 0, 1) := by decide +kernel
theorem dX4_init_14 : decode cX4_init 14 = .ok (.bipush 8, 2) := by decide +kernel
theorem dX4_init_16 : decode cX4_init 16 = .ok (.newarray .int, 2) := by decide +kernel
theorem dX4_init_18 : decode cX4_init 18 = .ok (.putfield 13, 3) := by decide +kernel
theorem dX4_init_21 : decode cX4_init 21 = .ok (.aload_n 0, 1) := by decide +kernel
theorem dX4_init_22 : decode cX4_init 22 = .ok (.iconst 4, 1) := by decide +kernel
theorem dX4_init_23 : decode cX4_init 23 = .ok (.newarray .int, 2) := by decide +kernel
theorem dX4_init_25 : decode cX4_init 25 = .ok (.putfield 16, 3) := by decide +kernel
theorem dX4_init_28 : decode cX4_init 28 = .ok (.aload_n 0, 1) := by decide +kernel
theorem dX4_init_29 : decode cX4_init 29 = .ok (.iconst 3, 1) := by decide +kernel
theorem dX4_init_30 : decode cX4_init 30 = .ok (.newarray .int, 2) := by decide +kernel
theorem dX4_init_32 : decode cX4_init 32 = .ok (.putfield 19, 3) := by decide +kernel
theorem dX4_init_35 : decode cX4_init 35 = .ok (.aload_n 0, 1) := by decide +kernel
theorem dX4_init_36 : decode cX4_init 36 = .ok (.iconst 3, 1) := by decide +kernel
theorem dX4_init_37 : decode cX4_init 37 = .ok (.newarray .int, 2) := by decide +kernel
theorem dX4_init_39 : decode cX4_init 39 = .ok (.putfield 22, 3) := by decide +kernel
theorem dX4_init_42 : decode cX4_init 42 = .ok (.aload_n 0, 1) := by decide +kernel
theorem dX4_init_43 : decode cX4_init 43 = .ok (.iconst 3, 1) := by decide +kernel
theorem dX4_init_44 : decode cX4_init 44 = .ok (.newarray .int, 2) := by decide +kernel
theorem dX4_init_46 : decode cX4_init 46 = .ok (.putfield 25, 3) := by decide +kernel
theorem dX4_init_49 : decode cX4_init 49 = .ok (.aload_n 0, 1) := by decide +kernel
theorem dX4_init_50 : decode cX4_init 50 = .ok (.sipush 768, 3) := by decide +kernel
theorem dX4_init_53 : decode cX4_init 53 = .ok (.newarray .int, 2) := by decide +kernel
theorem dX4_init_55 : decode cX4_init 55 = .ok (.putfield 28, 3) := by decide +kernel
theorem dX4_init_58 : decode cX4_init 58 = .ok (.aload_n 0, 1) := by decide +kernel
theorem dX4_init_59 : decode cX4_init 59 = .ok (.iconst 3, 1) := by decide +kernel
theorem dX4_init_60 : decode cX4_init 60 = .ok (.newarray .int, 2) := by decide +kernel
theorem dX4_init_62 : decode cX4_init 62 = .ok (.putfield 31, 3) := by decide +kernel
theorem dX4_init_65 : decode cX4_init 65 = .ok (.aload_n 0, 1) := by decide +kernel
theorem dX4_init_66 : decode cX4_init 66 = .ok (.sipush 256, 3) := by decide +kernel
theorem dX4_init_69 : decode cX4_init 69 = .ok (.newarray .int, 2) := by decide +kernel
theorem dX4_init_71 : decode cX4_init 71 = .ok (.putfield 34, 3) := by decide +kernel
theorem dX4_init_74 : decode cX4_init 74 = .ok (.iconst 0, 1) := by decide +kernel
theorem dX4_init_75 : decode cX4_init 75 = .ok (.istore_n 1, 1) := by decide +kernel
theorem dX4_init_76 : decode cX4_init 76 = .ok (.iload_n 1, 1) := by decide +kernel
theorem dX4_init_77 : decode cX4_init 77 = .ok (.iconst 4, 1) := by decide +kernel
theorem dX4_init_78 : decode cX4_init 78 = .ok (.if_icmp .ge 16, 3) := by decide +kernel
theorem dX4_init_81 : decode cX4_init 81 = .ok (.aload_n 0, 1) := by decide +kernel
theorem dX4_init_82 : decode cX4_init 82 = .ok (.getfield 16, 3) := by decide +kernel
theorem dX4_init_85 : decode cX4_init 85 = .ok (.iload_n 1, 1) := by decide +kernel
theorem dX4_init_86 : decode cX4_init 86 = .ok (.iload_n 1, 1) := by decide +kernel
theorem dX4_init_87 : decode cX4_init 87 = .ok (.iastore, 1) := by decide +kernel
theorem dX4_init_88 : decode cX4_init 88 = .ok (.iinc 1 1, 3) := by decide +kernel
theorem dX4_init_91 : decode cX4_init 91 = .ok (.goto (-15), 3) := by decide +kernel
theorem dX4_init_94 : decode cX4_init 94 = .ok (.iconst 0, 1) := by decide +kernel
theorem dX4_init_95 : decode cX4_init 95 = .ok (.istore_n 1, 1) := by decide +kernel
theorem dX4_init_96 : decode cX4_init 96 = .ok (.iload_n 1, 1) := by decide +kernel
theorem dX4_init_97 : decode cX4_init 97 = .ok (.iconst 3, 1) := by decide +kernel
theorem dX4_init_98 : decode cX4_init 98 = .ok (.if_icmp .ge 16, 3) := by decide +kernel
theorem dX4_init_101 : decode cX4_init 101 = .ok (.aload_n 0, 1) := by decide +kernel
theorem dX4_init_102 : decode cX4_init 102 = .ok (.getfield 19, 3) := by decide +kernel
theorem dX4_init_105 : decode cX4_init 105 = .ok (.iload_n 1, 1) := by decide +kernel
theorem dX4_init_106 : decode cX4_init 106 = .ok (.iconst (-1), 1) := by decide +kernel
theorem dX4_init_107 : decode cX4_init 107 = .ok (.iastore, 1) := by decide +kernel
theorem dX4_init_108 : decode cX4_init 108 = .ok (.iinc 1 1, 3) := by decide +kernel
theorem dX4_init_111 : decode cX4_init 111 = .ok (.goto (-15), 3) := by decide +kernel
theorem dX4_init_114 : decode cX4_init 114 = .ok (.return_, 1) := by decide +kernel
theorem dX4_thrown_0 : decode cX4_thrown 0 = .ok (.aload_n 0, 1) := by decide +kernel
theorem dX4_thrown_1 : decode cX4_thrown 1 = .ok (.getfield 37, 3) := by decide +kernel
theorem dX4_thrown_4 : decode cX4_thrown 4 = .ok (.ireturn, 1) := by decide +kernel
theorem dX4_isWrong_0 : decode cX4_isWrong 0 = .ok (.aload_n 0, 1) := by decide +kernel
theorem dX4_isWrong_1 : decode cX4_isWrong 1 = .ok (.iload_n 1, 1) := by decide +kernel
theorem dX4_isWrong_2 : decode cX4_isWrong 2 = .ok (.putfield 37, 3) := by decide +kernel
theorem dX4_isWrong_5 : decode cX4_isWrong 5 = .ok (.iload_n 1, 1) := by decide +kernel
theorem dX4_isWrong_6 : decode cX4_isWrong 6 = .ok (.ifCond .eq 7, 3) := by decide +kernel
theorem dX4_isWrong_9 : decode cX4_isWrong 9 = .ok (.iconst 1, 1) := by decide +kernel
theorem dX4_isWrong_10 : decode cX4_isWrong 10 = .ok (.goto 4, 3) := by decide +kernel
theorem dX4_isWrong_13 : decode cX4_isWrong 13 = .ok (.iconst 0, 1) := by decide +kernel
theorem dX4_isWrong_14 : decode cX4_isWrong 14 = .ok (.ireturn, 1) := by decide +kernel
theorem dX4_lesser_0 : decode cX4_lesser 0 = .ok (.iload_n 1, 1) := by decide +kernel
theorem dX4_lesser_1 : decode cX4_lesser 1 = .ok (.iload_n 2, 1) := by decide +kernel
theorem dX4_lesser_2 : decode cX4_lesser 2 = .ok (.if_icmp .ge 7, 3) := by decide +kernel
theorem dX4_lesser_5 : decode cX4_lesser 5 = .ok (.iload_n 1, 1) := by decide +kernel
theorem dX4_lesser_6 : decode cX4_lesser 6 = .ok (.goto 4, 3) := by decide +kernel
theorem dX4_lesser_9 : decode cX4_lesser 9 = .ok (.iload_n 2, 1) := by decide +kernel
theorem dX4_lesser_10 : decode cX4_lesser 10 = .ok (.ireturn, 1) := by decide +kernel
theorem dX4_low_0 : decode cX4_low 0 = .ok (.iload_n 1, 1) := by decide +kernel
theorem dX4_low_1 : decode cX4_low 1 = .ok (.sipush 255, 3) := by decide +kernel
theorem dX4_low_4 : decode cX4_low 4 = .ok (.iand, 1) := by decide +kernel
theorem dX4_low_5 : decode cX4_low 5 = .ok (.istore_n 2, 1) := by decide +kernel
theorem dX4_low_6 : decode cX4_low 6 = .ok (.iload_n 2, 1) := by decide +kernel
theorem dX4_low_7 : decode cX4_low 7 = .ok (.sipush 128, 3) := by decide +kernel
theorem dX4_low_10 : decode cX4_low 10 = .ok (.if_icmp .ge 7, 3) := by decide +kernel
theorem dX4_low_13 : decode cX4_low 13 = .ok (.iload_n 2, 1) := by decide +kernel
theorem dX4_low_14 : decode cX4_low 14 = .ok (.goto 8, 3) := by decide +kernel
theorem dX4_low_17 : decode cX4_low 17 = .ok (.iload_n 2, 1) := by decide +kernel
theorem dX4_low_18 : decode cX4_low 18 = .ok (.sipush 256, 3) := by decide +kernel
theorem dX4_low_21 : decode cX4_low 21 = .ok (.isub, 1) := by decide +kernel
theorem dX4_low_22 : decode cX4_low 22 = .ok (.ireturn, 1) := by decide +kernel
theorem dX4_isRow_0 : decode cX4_isRow 0 = .ok (.iconst 0, 1) := by decide +kernel
theorem dX4_isRow_1 : decode cX4_isRow 1 = .ok (.iload_n 1, 1) := by decide +kernel
theorem dX4_isRow_2 : decode cX4_isRow 2 = .ok (.if_icmp .gt 12, 3) := by decide +kernel
theorem dX4_isRow_5 : decode cX4_isRow 5 = .ok (.iload_n 1, 1) := by decide +kernel
theorem dX4_isRow_6 : decode cX4_isRow 6 = .ok (.iconst 3, 1) := by decide +kernel
theorem dX4_isRow_7 : decode cX4_isRow 7 = .ok (.if_icmp .gt 7, 3) := by decide +kernel
theorem dX4_isRow_10 : decode cX4_isRow 10 = .ok (.iconst 1, 1) := by decide +kernel
theorem dX4_isRow_11 : decode cX4_isRow 11 = .ok (.goto 4, 3) := by decide +kernel
theorem dX4_isRow_14 : decode cX4_isRow 14 = .ok (.iconst 0, 1) := by decide +kernel
theorem dX4_isRow_15 : decode cX4_isRow 15 = .ok (.ireturn, 1) := by decide +kernel
theorem dX4_isOther_0 : decode cX4_isOther 0 = .ok (.iconst 0, 1) := by decide +kernel
theorem dX4_isOther_1 : decode cX4_isOther 1 = .ok (.iload_n 1, 1) := by decide +kernel
theorem dX4_isOther_2 : decode cX4_isOther 2 = .ok (.if_icmp .gt 12, 3) := by decide +kernel
theorem dX4_isOther_5 : decode cX4_isOther 5 = .ok (.iload_n 1, 1) := by decide +kernel
theorem dX4_isOther_6 : decode cX4_isOther 6 = .ok (.iconst 2, 1) := by decide +kernel
theorem dX4_isOther_7 : decode cX4_isOther 7 = .ok (.if_icmp .gt 7, 3) := by decide +kernel
theorem dX4_isOther_10 : decode cX4_isOther 10 = .ok (.iconst 1, 1) := by decide +kernel
theorem dX4_isOther_11 : decode cX4_isOther 11 = .ok (.goto 4, 3) := by decide +kernel
theorem dX4_isOther_14 : decode cX4_isOther 14 = .ok (.iconst 0, 1) := by decide +kernel
theorem dX4_isOther_15 : decode cX4_isOther 15 = .ok (.ireturn, 1) := by decide +kernel
theorem dX4_long0_0 : decode cX4_long0 0 = .ok (.aload_n 0, 1) := by decide +kernel
theorem dX4_long0_1 : decode cX4_long0 1 = .ok (.getfield 13, 3) := by decide +kernel
theorem dX4_long0_4 : decode cX4_long0 4 = .ok (.aload_n 0, 1) := by decide +kernel
theorem dX4_long0_5 : decode cX4_long0 5 = .ok (.getfield 16, 3) := by decide +kernel
theorem dX4_long0_8 : decode cX4_long0 8 = .ok (.iload_n 1, 1) := by decide +kernel
theorem dX4_long0_9 : decode cX4_long0 9 = .ok (.iaload, 1) := by decide +kernel
theorem dX4_long0_10 : decode cX4_long0 10 = .ok (.iaload, 1) := by decide +kernel
theorem dX4_long0_11 : decode cX4_long0 11 = .ok (.ireturn, 1) := by decide +kernel
theorem dX4_isPart_0 : decode cX4_isPart 0 = .ok (.aload_n 0, 1) := by decide +kernel
theorem dX4_isPart_1 : decode cX4_isPart 1 = .ok (.iload_n 1, 1) := by decide +kernel
theorem dX4_isPart_2 : decode cX4_isPart 2 = .ok (.invokevirtual 41, 3) := by decide +kernel
theorem dX4_isPart_5 : decode cX4_isPart 5 = .ok (.ifCond .eq 26, 3) := by decide +kernel
theorem dX4_isPart_8 : decode cX4_isPart 8 = .ok (.iload_n 2, 1) := by decide +kernel
theorem dX4_isPart_9 : decode cX4_isPart 9 = .ok (.ifCond .lt 22, 3) := by decide +kernel
theorem dX4_isPart_12 : decode cX4_isPart 12 = .ok (.iload_n 3, 1) := by decide +kernel
theorem dX4_isPart_13 : decode cX4_isPart 13 = .ok (.ifCond .lt 18, 3) := by decide +kernel
theorem dX4_isPart_16 : decode cX4_isPart 16 = .ok (.iload_n 2, 1) := by decide +kernel
theorem dX4_isPart_17 : decode cX4_isPart 17 = .ok (.aload_n 0, 1) := by decide +kernel
theorem dX4_isPart_18 : decode cX4_isPart 18 = .ok (.iload_n 1, 1) := by decide +kernel
theorem dX4_isPart_19 : decode cX4_isPart 19 = .ok (.invokevirtual 45, 3) := by decide +kernel
theorem dX4_isPart_22 : decode cX4_isPart 22 = .ok (.iload_n 3, 1) := by decide +kernel
theorem dX4_isPart_23 : decode cX4_isPart 23 = .ok (.isub, 1) := by decide +kernel
theorem dX4_isPart_24 : decode cX4_isPart 24 = .ok (.if_icmp .gt 7, 3) := by decide +kernel
theorem dX4_isPart_27 : decode cX4_isPart 27 = .ok (.iconst 1, 1) := by decide +kernel
theorem dX4_isPart_28 : decode cX4_isPart 28 = .ok (.goto 4, 3) := by decide +kernel
theorem dX4_isPart_31 : decode cX4_isPart 31 = .ok (.iconst 0, 1) := by decide +kernel
theorem dX4_isPart_32 : decode cX4_isPart 32 = .ok (.ireturn, 1) := by decide +kernel
theorem dX4_free_0 : decode cX4_free 0 = .ok (.iconst 0, 1) := by decide +kernel
theorem dX4_free_1 : decode cX4_free 1 = .ok (.istore_n 1, 1) := by decide +kernel
theorem dX4_free_2 : decode cX4_free 2 = .ok (.iload_n 1, 1) := by decide +kernel
theorem dX4_free_3 : decode cX4_free 3 = .ok (.bipush 8, 2) := by decide +kernel
theorem dX4_free_5 : decode cX4_free 5 = .ok (.if_icmp .ge 79, 3) := by decide +kernel
theorem dX4_free_8 : decode cX4_free 8 = .ok (.iconst 1, 1) := by decide +kernel
theorem dX4_free_9 : decode cX4_free 9 = .ok (.istore_n 2, 1) := by decide +kernel
theorem dX4_free_10 : decode cX4_free 10 = .ok (.iconst 0, 1) := by decide +kernel
theorem dX4_free_11 : decode cX4_free 11 = .ok (.istore_n 3, 1) := by decide +kernel
theorem dX4_free_12 : decode cX4_free 12 = .ok (.iload_n 3, 1) := by decide +kernel
theorem dX4_free_13 : decode cX4_free 13 = .ok (.iconst 4, 1) := by decide +kernel
theorem dX4_free_14 : decode cX4_free 14 = .ok (.if_icmp .ge 27, 3) := by decide +kernel
theorem dX4_free_17 : decode cX4_free 17 = .ok (.iload_n 2, 1) := by decide +kernel
theorem dX4_free_18 : decode cX4_free 18 = .ok (.aload_n 0, 1) := by decide +kernel
theorem dX4_free_19 : decode cX4_free 19 = .ok (.getfield 16, 3) := by decide +kernel
theorem dX4_free_22 : decode cX4_free 22 = .ok (.iload_n 3, 1) := by decide +kernel
theorem dX4_free_23 : decode cX4_free 23 = .ok (.iaload, 1) := by decide +kernel
theorem dX4_free_24 : decode cX4_free 24 = .ok (.iload_n 1, 1) := by decide +kernel
theorem dX4_free_25 : decode cX4_free 25 = .ok (.if_icmp .eq 7, 3) := by decide +kernel
theorem dX4_free_28 : decode cX4_free 28 = .ok (.iconst 1, 1) := by decide +kernel
theorem dX4_free_29 : decode cX4_free 29 = .ok (.goto 4, 3) := by decide +kernel
theorem dX4_free_32 : decode cX4_free 32 = .ok (.iconst 0, 1) := by decide +kernel
theorem dX4_free_33 : decode cX4_free 33 = .ok (.iand, 1) := by decide +kernel
theorem dX4_free_34 : decode cX4_free 34 = .ok (.istore_n 2, 1) := by decide +kernel
theorem dX4_free_35 : decode cX4_free 35 = .ok (.iinc 3 1, 3) := by decide +kernel
theorem dX4_free_38 : decode cX4_free 38 = .ok (.goto (-26), 3) := by decide +kernel
theorem dX4_free_41 : decode cX4_free 41 = .ok (.iconst 0, 1) := by decide +kernel
theorem dX4_free_42 : decode cX4_free 42 = .ok (.istore_n 3, 1) := by decide +kernel
theorem dX4_free_43 : decode cX4_free 43 = .ok (.iload_n 3, 1) := by decide +kernel
theorem dX4_free_44 : decode cX4_free 44 = .ok (.iconst 3, 1) := by decide +kernel
theorem dX4_free_45 : decode cX4_free 45 = .ok (.if_icmp .ge 27, 3) := by decide +kernel
theorem dX4_free_48 : decode cX4_free 48 = .ok (.iload_n 2, 1) := by decide +kernel
theorem dX4_free_49 : decode cX4_free 49 = .ok (.aload_n 0, 1) := by decide +kernel
theorem dX4_free_50 : decode cX4_free 50 = .ok (.getfield 19, 3) := by decide +kernel
theorem dX4_free_53 : decode cX4_free 53 = .ok (.iload_n 3, 1) := by decide +kernel
theorem dX4_free_54 : decode cX4_free 54 = .ok (.iaload, 1) := by decide +kernel
theorem dX4_free_55 : decode cX4_free 55 = .ok (.iload_n 1, 1) := by decide +kernel
theorem dX4_free_56 : decode cX4_free 56 = .ok (.if_icmp .eq 7, 3) := by decide +kernel
theorem dX4_free_59 : decode cX4_free 59 = .ok (.iconst 1, 1) := by decide +kernel
theorem dX4_free_60 : decode cX4_free 60 = .ok (.goto 4, 3) := by decide +kernel
theorem dX4_free_63 : decode cX4_free 63 = .ok (.iconst 0, 1) := by decide +kernel
theorem dX4_free_64 : decode cX4_free 64 = .ok (.iand, 1) := by decide +kernel
theorem dX4_free_65 : decode cX4_free 65 = .ok (.istore_n 2, 1) := by decide +kernel
theorem dX4_free_66 : decode cX4_free 66 = .ok (.iinc 3 1, 3) := by decide +kernel
theorem dX4_free_69 : decode cX4_free 69 = .ok (.goto (-26), 3) := by decide +kernel
theorem dX4_free_72 : decode cX4_free 72 = .ok (.iload_n 2, 1) := by decide +kernel
theorem dX4_free_73 : decode cX4_free 73 = .ok (.ifCond .eq 5, 3) := by decide +kernel
theorem dX4_free_76 : decode cX4_free 76 = .ok (.iload_n 1, 1) := by decide +kernel
theorem dX4_free_77 : decode cX4_free 77 = .ok (.ireturn, 1) := by decide +kernel
theorem dX4_free_78 : decode cX4_free 78 = .ok (.iinc 1 1, 3) := by decide +kernel
theorem dX4_free_81 : decode cX4_free 81 = .ok (.goto (-79), 3) := by decide +kernel
theorem dX4_free_84 : decode cX4_free 84 = .ok (.iconst (-1), 1) := by decide +kernel
theorem dX4_free_85 : decode cX4_free 85 = .ok (.ireturn, 1) := by decide +kernel
theorem dX4_becomes_0 : decode cX4_becomes 0 = .ok (.aload_n 0, 1) := by decide +kernel
theorem dX4_becomes_1 : decode cX4_becomes 1 = .ok (.invokevirtual 49, 3) := by decide +kernel
theorem dX4_becomes_4 : decode cX4_becomes 4 = .ok (.istore_n 3, 1) := by decide +kernel
theorem dX4_becomes_5 : decode cX4_becomes 5 = .ok (.iconst 0, 1) := by decide +kernel
theorem dX4_becomes_6 : decode cX4_becomes 6 = .ok (.istore 4, 2) := by decide +kernel
theorem dX4_becomes_8 : decode cX4_becomes 8 = .ok (.iload 4, 2) := by decide +kernel
theorem dX4_becomes_10 : decode cX4_becomes 10 = .ok (.iload_n 2, 1) := by decide +kernel
theorem dX4_becomes_11 : decode cX4_becomes 11 = .ok (.if_icmp .ge 29, 3) := by decide +kernel
theorem dX4_becomes_14 : decode cX4_becomes 14 = .ok (.aload_n 0, 1) := by decide +kernel
theorem dX4_becomes_15 : decode cX4_becomes 15 = .ok (.getfield 7, 3) := by decide +kernel
theorem dX4_becomes_18 : decode cX4_becomes 18 = .ok (.sipush 256, 3) := by decide +kernel
theorem dX4_becomes_21 : decode cX4_becomes 21 = .ok (.iload_n 3, 1) := by decide +kernel
theorem dX4_becomes_22 : decode cX4_becomes 22 = .ok (.imul, 1) := by decide +kernel
theorem dX4_becomes_23 : decode cX4_becomes 23 = .ok (.iload 4, 2) := by decide +kernel
theorem dX4_becomes_25 : decode cX4_becomes 25 = .ok (.iadd, 1) := by decide +kernel
theorem dX4_becomes_26 : decode cX4_becomes 26 = .ok (.aload_n 0, 1) := by decide +kernel
theorem dX4_becomes_27 : decode cX4_becomes 27 = .ok (.getfield 34, 3) := by decide +kernel
theorem dX4_becomes_30 : decode cX4_becomes 30 = .ok (.iload 4, 2) := by decide +kernel
theorem dX4_becomes_32 : decode cX4_becomes 32 = .ok (.iaload, 1) := by decide +kernel
theorem dX4_becomes_33 : decode cX4_becomes 33 = .ok (.iastore, 1) := by decide +kernel
theorem dX4_becomes_34 : decode cX4_becomes 34 = .ok (.iinc 4 1, 3) := by decide +kernel
theorem dX4_becomes_37 : decode cX4_becomes 37 = .ok (.goto (-29), 3) := by decide +kernel
theorem dX4_becomes_40 : decode cX4_becomes 40 = .ok (.aload_n 0, 1) := by decide +kernel
theorem dX4_becomes_41 : decode cX4_becomes 41 = .ok (.getfield 13, 3) := by decide +kernel
theorem dX4_becomes_44 : decode cX4_becomes 44 = .ok (.iload_n 3, 1) := by decide +kernel
theorem dX4_becomes_45 : decode cX4_becomes 45 = .ok (.iload_n 2, 1) := by decide +kernel
theorem dX4_becomes_46 : decode cX4_becomes 46 = .ok (.iastore, 1) := by decide +kernel
theorem dX4_becomes_47 : decode cX4_becomes 47 = .ok (.aload_n 0, 1) := by decide +kernel
theorem dX4_becomes_48 : decode cX4_becomes 48 = .ok (.getfield 16, 3) := by decide +kernel
theorem dX4_becomes_51 : decode cX4_becomes 51 = .ok (.iload_n 1, 1) := by decide +kernel
theorem dX4_becomes_52 : decode cX4_becomes 52 = .ok (.iload_n 3, 1) := by decide +kernel
theorem dX4_becomes_53 : decode cX4_becomes 53 = .ok (.iastore, 1) := by decide +kernel
theorem dX4_becomes_54 : decode cX4_becomes 54 = .ok (.return_, 1) := by decide +kernel
theorem dX4_make_0 : decode cX4_make 0 = .ok (.aload_n 0, 1) := by decide +kernel
theorem dX4_make_1 : decode cX4_make 1 = .ok (.aload_n 0, 1) := by decide +kernel
theorem dX4_make_2 : decode cX4_make 2 = .ok (.iload_n 1, 1) := by decide +kernel
theorem dX4_make_3 : decode cX4_make 3 = .ok (.invokevirtual 41, 3) := by decide +kernel
theorem dX4_make_6 : decode cX4_make 6 = .ok (.ifCond .ne 7, 3) := by decide +kernel
theorem dX4_make_9 : decode cX4_make 9 = .ok (.iconst 1, 1) := by decide +kernel
theorem dX4_make_10 : decode cX4_make 10 = .ok (.goto 19, 3) := by decide +kernel
theorem dX4_make_13 : decode cX4_make 13 = .ok (.iload_n 2, 1) := by decide +kernel
theorem dX4_make_14 : decode cX4_make 14 = .ok (.ifCond .lt 10, 3) := by decide +kernel
theorem dX4_make_17 : decode cX4_make 17 = .ok (.iload_n 2, 1) := by decide +kernel
theorem dX4_make_18 : decode cX4_make 18 = .ok (.sipush 256, 3) := by decide +kernel
theorem dX4_make_21 : decode cX4_make 21 = .ok (.if_icmp .le 7, 3) := by decide +kernel
theorem dX4_make_24 : decode cX4_make 24 = .ok (.iconst 2, 1) := by decide +kernel
theorem dX4_make_25 : decode cX4_make 25 = .ok (.goto 4, 3) := by decide +kernel
theorem dX4_make_28 : decode cX4_make 28 = .ok (.iconst 0, 1) := by decide +kernel
theorem dX4_make_29 : decode cX4_make 29 = .ok (.invokevirtual 53, 3) := by decide +kernel
theorem dX4_make_32 : decode cX4_make 32 = .ok (.ifCond .eq 5, 3) := by decide +kernel
theorem dX4_make_35 : decode cX4_make 35 = .ok (.iconst 0, 1) := by decide +kernel
theorem dX4_make_36 : decode cX4_make 36 = .ok (.ireturn, 1) := by decide +kernel
theorem dX4_make_37 : decode cX4_make 37 = .ok (.aload_n 0, 1) := by decide +kernel
theorem dX4_make_38 : decode cX4_make 38 = .ok (.iload_n 1, 1) := by decide +kernel
theorem dX4_make_39 : decode cX4_make 39 = .ok (.invokevirtual 45, 3) := by decide +kernel
theorem dX4_make_42 : decode cX4_make 42 = .ok (.istore_n 3, 1) := by decide +kernel
theorem dX4_make_43 : decode cX4_make 43 = .ok (.iconst 0, 1) := by decide +kernel
theorem dX4_make_44 : decode cX4_make 44 = .ok (.istore 4, 2) := by decide +kernel
theorem dX4_make_46 : decode cX4_make 46 = .ok (.iload 4, 2) := by decide +kernel
theorem dX4_make_48 : decode cX4_make 48 = .ok (.iload_n 2, 1) := by decide +kernel
theorem dX4_make_49 : decode cX4_make 49 = .ok (.if_icmp .ge 17, 3) := by decide +kernel
theorem dX4_make_52 : decode cX4_make 52 = .ok (.aload_n 0, 1) := by decide +kernel
theorem dX4_make_53 : decode cX4_make 53 = .ok (.getfield 34, 3) := by decide +kernel
theorem dX4_make_56 : decode cX4_make 56 = .ok (.iload 4, 2) := by decide +kernel
theorem dX4_make_58 : decode cX4_make 58 = .ok (.iconst 0, 1) := by decide +kernel
theorem dX4_make_59 : decode cX4_make 59 = .ok (.iastore, 1) := by decide +kernel
theorem dX4_make_60 : decode cX4_make 60 = .ok (.iinc 4 1, 3) := by decide +kernel
theorem dX4_make_63 : decode cX4_make 63 = .ok (.goto (-17), 3) := by decide +kernel
theorem dX4_make_66 : decode cX4_make 66 = .ok (.aload_n 0, 1) := by decide +kernel
theorem dX4_make_67 : decode cX4_make 67 = .ok (.iload_n 1, 1) := by decide +kernel
theorem dX4_make_68 : decode cX4_make 68 = .ok (.iload_n 2, 1) := by decide +kernel
theorem dX4_make_69 : decode cX4_make 69 = .ok (.invokevirtual 56, 3) := by decide +kernel
theorem dX4_make_72 : decode cX4_make 72 = .ok (.iload_n 3, 1) := by decide +kernel
theorem dX4_make_73 : decode cX4_make 73 = .ok (.ireturn, 1) := by decide +kernel
theorem dX4_lend_0 : decode cX4_lend 0 = .ok (.aload_n 0, 1) := by decide +kernel
theorem dX4_lend_1 : decode cX4_lend 1 = .ok (.aload_n 0, 1) := by decide +kernel
theorem dX4_lend_2 : decode cX4_lend 2 = .ok (.iload_n 1, 1) := by decide +kernel
theorem dX4_lend_3 : decode cX4_lend 3 = .ok (.invokevirtual 41, 3) := by decide +kernel
theorem dX4_lend_6 : decode cX4_lend 6 = .ok (.ifCond .eq 15, 3) := by decide +kernel
theorem dX4_lend_9 : decode cX4_lend 9 = .ok (.aload_n 0, 1) := by decide +kernel
theorem dX4_lend_10 : decode cX4_lend 10 = .ok (.iload_n 2, 1) := by decide +kernel
theorem dX4_lend_11 : decode cX4_lend 11 = .ok (.invokevirtual 41, 3) := by decide +kernel
theorem dX4_lend_14 : decode cX4_lend 14 = .ok (.ifCond .eq 7, 3) := by decide +kernel
theorem dX4_lend_17 : decode cX4_lend 17 = .ok (.iconst 0, 1) := by decide +kernel
theorem dX4_lend_18 : decode cX4_lend 18 = .ok (.goto 4, 3) := by decide +kernel
theorem dX4_lend_21 : decode cX4_lend 21 = .ok (.iconst 1, 1) := by decide +kernel
theorem dX4_lend_22 : decode cX4_lend 22 = .ok (.invokevirtual 53, 3) := by decide +kernel
theorem dX4_lend_25 : decode cX4_lend 25 = .ok (.ifCond .eq 5, 3) := by decide +kernel
theorem dX4_lend_28 : decode cX4_lend 28 = .ok (.iconst 0, 1) := by decide +kernel
theorem dX4_lend_29 : decode cX4_lend 29 = .ok (.ireturn, 1) := by decide +kernel
theorem dX4_lend_30 : decode cX4_lend 30 = .ok (.aload_n 0, 1) := by decide +kernel
theorem dX4_lend_31 : decode cX4_lend 31 = .ok (.iload_n 2, 1) := by decide +kernel
theorem dX4_lend_32 : decode cX4_lend 32 = .ok (.invokevirtual 45, 3) := by decide +kernel
theorem dX4_lend_35 : decode cX4_lend 35 = .ok (.istore_n 3, 1) := by decide +kernel
theorem dX4_lend_36 : decode cX4_lend 36 = .ok (.aload_n 0, 1) := by decide +kernel
theorem dX4_lend_37 : decode cX4_lend 37 = .ok (.getfield 16, 3) := by decide +kernel
theorem dX4_lend_40 : decode cX4_lend 40 = .ok (.iload_n 2, 1) := by decide +kernel
theorem dX4_lend_41 : decode cX4_lend 41 = .ok (.aload_n 0, 1) := by decide +kernel
theorem dX4_lend_42 : decode cX4_lend 42 = .ok (.getfield 16, 3) := by decide +kernel
theorem dX4_lend_45 : decode cX4_lend 45 = .ok (.iload_n 1, 1) := by decide +kernel
theorem dX4_lend_46 : decode cX4_lend 46 = .ok (.iaload, 1) := by decide +kernel
theorem dX4_lend_47 : decode cX4_lend 47 = .ok (.iastore, 1) := by decide +kernel
theorem dX4_lend_48 : decode cX4_lend 48 = .ok (.iload_n 3, 1) := by decide +kernel
theorem dX4_lend_49 : decode cX4_lend 49 = .ok (.ireturn, 1) := by decide +kernel
theorem dX4_length_0 : decode cX4_length 0 = .ok (.aload_n 0, 1) := by decide +kernel
theorem dX4_length_1 : decode cX4_length 1 = .ok (.aload_n 0, 1) := by decide +kernel
theorem dX4_length_2 : decode cX4_length 2 = .ok (.iload_n 1, 1) := by decide +kernel
theorem dX4_length_3 : decode cX4_length 3 = .ok (.invokevirtual 41, 3) := by decide +kernel
theorem dX4_length_6 : decode cX4_length 6 = .ok (.ifCond .eq 7, 3) := by decide +kernel
theorem dX4_length_9 : decode cX4_length 9 = .ok (.iconst 0, 1) := by decide +kernel
theorem dX4_length_10 : decode cX4_length 10 = .ok (.goto 4, 3) := by decide +kernel
theorem dX4_length_13 : decode cX4_length 13 = .ok (.iconst 1, 1) := by decide +kernel
theorem dX4_length_14 : decode cX4_length 14 = .ok (.invokevirtual 53, 3) := by decide +kernel
theorem dX4_length_17 : decode cX4_length 17 = .ok (.ifCond .eq 7, 3) := by decide +kernel
theorem dX4_length_20 : decode cX4_length 20 = .ok (.iconst 0, 1) := by decide +kernel
theorem dX4_length_21 : decode cX4_length 21 = .ok (.goto 8, 3) := by decide +kernel
theorem dX4_length_24 : decode cX4_length 24 = .ok (.aload_n 0, 1) := by decide +kernel
theorem dX4_length_25 : decode cX4_length 25 = .ok (.iload_n 1, 1) := by decide +kernel
theorem dX4_length_26 : decode cX4_length 26 = .ok (.invokevirtual 45, 3) := by decide +kernel
theorem dX4_length_29 : decode cX4_length 29 = .ok (.ireturn, 1) := by decide +kernel
theorem dX4_get_0 : decode cX4_get 0 = .ok (.aload_n 0, 1) := by decide +kernel
theorem dX4_get_1 : decode cX4_get 1 = .ok (.aload_n 0, 1) := by decide +kernel
theorem dX4_get_2 : decode cX4_get 2 = .ok (.iload_n 1, 1) := by decide +kernel
theorem dX4_get_3 : decode cX4_get 3 = .ok (.iload_n 2, 1) := by decide +kernel
theorem dX4_get_4 : decode cX4_get 4 = .ok (.iconst 1, 1) := by decide +kernel
theorem dX4_get_5 : decode cX4_get 5 = .ok (.invokevirtual 60, 3) := by decide +kernel
theorem dX4_get_8 : decode cX4_get 8 = .ok (.ifCond .eq 7, 3) := by decide +kernel
theorem dX4_get_11 : decode cX4_get 11 = .ok (.iconst 0, 1) := by decide +kernel
theorem dX4_get_12 : decode cX4_get 12 = .ok (.goto 4, 3) := by decide +kernel
theorem dX4_get_15 : decode cX4_get 15 = .ok (.iconst 1, 1) := by decide +kernel
theorem dX4_get_16 : decode cX4_get 16 = .ok (.invokevirtual 53, 3) := by decide +kernel
theorem dX4_get_19 : decode cX4_get 19 = .ok (.ifCond .eq 7, 3) := by decide +kernel
theorem dX4_get_22 : decode cX4_get 22 = .ok (.iconst 0, 1) := by decide +kernel
theorem dX4_get_23 : decode cX4_get 23 = .ok (.goto 20, 3) := by decide +kernel
theorem dX4_get_26 : decode cX4_get 26 = .ok (.aload_n 0, 1) := by decide +kernel
theorem dX4_get_27 : decode cX4_get 27 = .ok (.getfield 7, 3) := by decide +kernel
theorem dX4_get_30 : decode cX4_get 30 = .ok (.sipush 256, 3) := by decide +kernel
theorem dX4_get_33 : decode cX4_get 33 = .ok (.aload_n 0, 1) := by decide +kernel
theorem dX4_get_34 : decode cX4_get 34 = .ok (.getfield 16, 3) := by decide +kernel
theorem dX4_get_37 : decode cX4_get 37 = .ok (.iload_n 1, 1) := by decide +kernel
theorem dX4_get_38 : decode cX4_get 38 = .ok (.iaload, 1) := by decide +kernel
theorem dX4_get_39 : decode cX4_get 39 = .ok (.imul, 1) := by decide +kernel
theorem dX4_get_40 : decode cX4_get 40 = .ok (.iload_n 2, 1) := by decide +kernel
theorem dX4_get_41 : decode cX4_get 41 = .ok (.iadd, 1) := by decide +kernel
theorem dX4_get_42 : decode cX4_get 42 = .ok (.iaload, 1) := by decide +kernel
theorem dX4_get_43 : decode cX4_get 43 = .ok (.ireturn, 1) := by decide +kernel
theorem dX4_put_0 : decode cX4_put 0 = .ok (.aload_n 0, 1) := by decide +kernel
theorem dX4_put_1 : decode cX4_put 1 = .ok (.aload_n 0, 1) := by decide +kernel
theorem dX4_put_2 : decode cX4_put 2 = .ok (.iload_n 1, 1) := by decide +kernel
theorem dX4_put_3 : decode cX4_put 3 = .ok (.iload_n 2, 1) := by decide +kernel
theorem dX4_put_4 : decode cX4_put 4 = .ok (.iconst 1, 1) := by decide +kernel
theorem dX4_put_5 : decode cX4_put 5 = .ok (.invokevirtual 60, 3) := by decide +kernel
theorem dX4_put_8 : decode cX4_put 8 = .ok (.ifCond .eq 7, 3) := by decide +kernel
theorem dX4_put_11 : decode cX4_put 11 = .ok (.iconst 0, 1) := by decide +kernel
theorem dX4_put_12 : decode cX4_put 12 = .ok (.goto 4, 3) := by decide +kernel
theorem dX4_put_15 : decode cX4_put 15 = .ok (.iconst 1, 1) := by decide +kernel
theorem dX4_put_16 : decode cX4_put 16 = .ok (.invokevirtual 53, 3) := by decide +kernel
theorem dX4_put_19 : decode cX4_put 19 = .ok (.ifCond .eq 5, 3) := by decide +kernel
theorem dX4_put_22 : decode cX4_put 22 = .ok (.iconst 0, 1) := by decide +kernel
theorem dX4_put_23 : decode cX4_put 23 = .ok (.ireturn, 1) := by decide +kernel
theorem dX4_put_24 : decode cX4_put 24 = .ok (.sipush 256, 3) := by decide +kernel
theorem dX4_put_27 : decode cX4_put 27 = .ok (.aload_n 0, 1) := by decide +kernel
theorem dX4_put_28 : decode cX4_put 28 = .ok (.getfield 16, 3) := by decide +kernel
theorem dX4_put_31 : decode cX4_put 31 = .ok (.iload_n 1, 1) := by decide +kernel
theorem dX4_put_32 : decode cX4_put 32 = .ok (.iaload, 1) := by decide +kernel
theorem dX4_put_33 : decode cX4_put 33 = .ok (.imul, 1) := by decide +kernel
theorem dX4_put_34 : decode cX4_put 34 = .ok (.iload_n 2, 1) := by decide +kernel
theorem dX4_put_35 : decode cX4_put 35 = .ok (.iadd, 1) := by decide +kernel
theorem dX4_put_36 : decode cX4_put 36 = .ok (.istore 4, 2) := by decide +kernel
theorem dX4_put_38 : decode cX4_put 38 = .ok (.aload_n 0, 1) := by decide +kernel
theorem dX4_put_39 : decode cX4_put 39 = .ok (.getfield 7, 3) := by decide +kernel
theorem dX4_put_42 : decode cX4_put 42 = .ok (.iload 4, 2) := by decide +kernel
theorem dX4_put_44 : decode cX4_put 44 = .ok (.iaload, 1) := by decide +kernel
theorem dX4_put_45 : decode cX4_put 45 = .ok (.istore 5, 2) := by decide +kernel
theorem dX4_put_47 : decode cX4_put 47 = .ok (.aload_n 0, 1) := by decide +kernel
theorem dX4_put_48 : decode cX4_put 48 = .ok (.getfield 7, 3) := by decide +kernel
theorem dX4_put_51 : decode cX4_put 51 = .ok (.iload 4, 2) := by decide +kernel
theorem dX4_put_53 : decode cX4_put 53 = .ok (.aload_n 0, 1) := by decide +kernel
theorem dX4_put_54 : decode cX4_put 54 = .ok (.iload_n 3, 1) := by decide +kernel
theorem dX4_put_55 : decode cX4_put 55 = .ok (.invokevirtual 64, 3) := by decide +kernel
theorem dX4_put_58 : decode cX4_put 58 = .ok (.iastore, 1) := by decide +kernel
theorem dX4_put_59 : decode cX4_put 59 = .ok (.iload 5, 2) := by decide +kernel
theorem dX4_put_61 : decode cX4_put 61 = .ok (.ireturn, 1) := by decide +kernel
theorem dX4_fill_0 : decode cX4_fill 0 = .ok (.aload_n 0, 1) := by decide +kernel
theorem dX4_fill_1 : decode cX4_fill 1 = .ok (.aload_n 0, 1) := by decide +kernel
theorem dX4_fill_2 : decode cX4_fill 2 = .ok (.iload_n 1, 1) := by decide +kernel
theorem dX4_fill_3 : decode cX4_fill 3 = .ok (.iload_n 2, 1) := by decide +kernel
theorem dX4_fill_4 : decode cX4_fill 4 = .ok (.iload_n 3, 1) := by decide +kernel
theorem dX4_fill_5 : decode cX4_fill 5 = .ok (.invokevirtual 60, 3) := by decide +kernel
theorem dX4_fill_8 : decode cX4_fill 8 = .ok (.ifCond .eq 7, 3) := by decide +kernel
theorem dX4_fill_11 : decode cX4_fill 11 = .ok (.iconst 0, 1) := by decide +kernel
theorem dX4_fill_12 : decode cX4_fill 12 = .ok (.goto 4, 3) := by decide +kernel
theorem dX4_fill_15 : decode cX4_fill 15 = .ok (.iconst 1, 1) := by decide +kernel
theorem dX4_fill_16 : decode cX4_fill 16 = .ok (.invokevirtual 53, 3) := by decide +kernel
theorem dX4_fill_19 : decode cX4_fill 19 = .ok (.ifCond .eq 5, 3) := by decide +kernel
theorem dX4_fill_22 : decode cX4_fill 22 = .ok (.iconst 0, 1) := by decide +kernel
theorem dX4_fill_23 : decode cX4_fill 23 = .ok (.ireturn, 1) := by decide +kernel
theorem dX4_fill_24 : decode cX4_fill 24 = .ok (.iconst 0, 1) := by decide +kernel
theorem dX4_fill_25 : decode cX4_fill 25 = .ok (.istore 6, 2) := by decide +kernel
theorem dX4_fill_27 : decode cX4_fill 27 = .ok (.iconst 0, 1) := by decide +kernel
theorem dX4_fill_28 : decode cX4_fill 28 = .ok (.istore 7, 2) := by decide +kernel
theorem dX4_fill_30 : decode cX4_fill 30 = .ok (.iload 7, 2) := by decide +kernel
theorem dX4_fill_32 : decode cX4_fill 32 = .ok (.iload_n 3, 1) := by decide +kernel
theorem dX4_fill_33 : decode cX4_fill 33 = .ok (.if_icmp .ge 57, 3) := by decide +kernel
theorem dX4_fill_36 : decode cX4_fill 36 = .ok (.sipush 256, 3) := by decide +kernel
theorem dX4_fill_39 : decode cX4_fill 39 = .ok (.aload_n 0, 1) := by decide +kernel
theorem dX4_fill_40 : decode cX4_fill 40 = .ok (.getfield 16, 3) := by decide +kernel
theorem dX4_fill_43 : decode cX4_fill 43 = .ok (.iload_n 1, 1) := by decide +kernel
theorem dX4_fill_44 : decode cX4_fill 44 = .ok (.iaload, 1) := by decide +kernel
theorem dX4_fill_45 : decode cX4_fill 45 = .ok (.imul, 1) := by decide +kernel
theorem dX4_fill_46 : decode cX4_fill 46 = .ok (.iload_n 2, 1) := by decide +kernel
theorem dX4_fill_47 : decode cX4_fill 47 = .ok (.iadd, 1) := by decide +kernel
theorem dX4_fill_48 : decode cX4_fill 48 = .ok (.iload 7, 2) := by decide +kernel
theorem dX4_fill_50 : decode cX4_fill 50 = .ok (.iadd, 1) := by decide +kernel
theorem dX4_fill_51 : decode cX4_fill 51 = .ok (.istore 8, 2) := by decide +kernel
theorem dX4_fill_53 : decode cX4_fill 53 = .ok (.iload 6, 2) := by decide +kernel
theorem dX4_fill_55 : decode cX4_fill 55 = .ok (.aload_n 0, 1) := by decide +kernel
theorem dX4_fill_56 : decode cX4_fill 56 = .ok (.getfield 7, 3) := by decide +kernel
theorem dX4_fill_59 : decode cX4_fill 59 = .ok (.iload 8, 2) := by decide +kernel
theorem dX4_fill_61 : decode cX4_fill 61 = .ok (.iaload, 1) := by decide +kernel
theorem dX4_fill_62 : decode cX4_fill 62 = .ok (.iadd, 1) := by decide +kernel
theorem dX4_fill_63 : decode cX4_fill 63 = .ok (.istore 6, 2) := by decide +kernel
theorem dX4_fill_65 : decode cX4_fill 65 = .ok (.aload_n 0, 1) := by decide +kernel
theorem dX4_fill_66 : decode cX4_fill 66 = .ok (.getfield 7, 3) := by decide +kernel
theorem dX4_fill_69 : decode cX4_fill 69 = .ok (.iload 8, 2) := by decide +kernel
theorem dX4_fill_71 : decode cX4_fill 71 = .ok (.aload_n 0, 1) := by decide +kernel
theorem dX4_fill_72 : decode cX4_fill 72 = .ok (.iload 4, 2) := by decide +kernel
theorem dX4_fill_74 : decode cX4_fill 74 = .ok (.iload 7, 2) := by decide +kernel
theorem dX4_fill_76 : decode cX4_fill 76 = .ok (.iload 5, 2) := by decide +kernel
theorem dX4_fill_78 : decode cX4_fill 78 = .ok (.imul, 1) := by decide +kernel
theorem dX4_fill_79 : decode cX4_fill 79 = .ok (.iadd, 1) := by decide +kernel
theorem dX4_fill_80 : decode cX4_fill 80 = .ok (.invokevirtual 64, 3) := by decide +kernel
theorem dX4_fill_83 : decode cX4_fill 83 = .ok (.iastore, 1) := by decide +kernel
theorem dX4_fill_84 : decode cX4_fill 84 = .ok (.iinc 7 1, 3) := by decide +kernel
theorem dX4_fill_87 : decode cX4_fill 87 = .ok (.goto (-57), 3) := by decide +kernel
theorem dX4_fill_90 : decode cX4_fill 90 = .ok (.iload 6, 2) := by decide +kernel
theorem dX4_fill_92 : decode cX4_fill 92 = .ok (.ireturn, 1) := by decide +kernel
theorem dX4_isLike_0 : decode cX4_isLike 0 = .ok (.aload_n 0, 1) := by decide +kernel
theorem dX4_isLike_1 : decode cX4_isLike 1 = .ok (.aload_n 0, 1) := by decide +kernel
theorem dX4_isLike_2 : decode cX4_isLike 2 = .ok (.iload_n 1, 1) := by decide +kernel
theorem dX4_isLike_3 : decode cX4_isLike 3 = .ok (.invokevirtual 41, 3) := by decide +kernel
theorem dX4_isLike_6 : decode cX4_isLike 6 = .ok (.ifCond .eq 15, 3) := by decide +kernel
theorem dX4_isLike_9 : decode cX4_isLike 9 = .ok (.aload_n 0, 1) := by decide +kernel
theorem dX4_isLike_10 : decode cX4_isLike 10 = .ok (.iload_n 2, 1) := by decide +kernel
theorem dX4_isLike_11 : decode cX4_isLike 11 = .ok (.invokevirtual 41, 3) := by decide +kernel
theorem dX4_isLike_14 : decode cX4_isLike 14 = .ok (.ifCond .eq 7, 3) := by decide +kernel
theorem dX4_isLike_17 : decode cX4_isLike 17 = .ok (.iconst 0, 1) := by decide +kernel
theorem dX4_isLike_18 : decode cX4_isLike 18 = .ok (.goto 4, 3) := by decide +kernel
theorem dX4_isLike_21 : decode cX4_isLike 21 = .ok (.iconst 1, 1) := by decide +kernel
theorem dX4_isLike_22 : decode cX4_isLike 22 = .ok (.invokevirtual 53, 3) := by decide +kernel
theorem dX4_isLike_25 : decode cX4_isLike 25 = .ok (.ifCond .eq 5, 3) := by decide +kernel
theorem dX4_isLike_28 : decode cX4_isLike 28 = .ok (.iconst 0, 1) := by decide +kernel
theorem dX4_isLike_29 : decode cX4_isLike 29 = .ok (.ireturn, 1) := by decide +kernel
theorem dX4_isLike_30 : decode cX4_isLike 30 = .ok (.aload_n 0, 1) := by decide +kernel
theorem dX4_isLike_31 : decode cX4_isLike 31 = .ok (.iload_n 1, 1) := by decide +kernel
theorem dX4_isLike_32 : decode cX4_isLike 32 = .ok (.invokevirtual 45, 3) := by decide +kernel
theorem dX4_isLike_35 : decode cX4_isLike 35 = .ok (.aload_n 0, 1) := by decide +kernel
theorem dX4_isLike_36 : decode cX4_isLike 36 = .ok (.iload_n 2, 1) := by decide +kernel
theorem dX4_isLike_37 : decode cX4_isLike 37 = .ok (.invokevirtual 45, 3) := by decide +kernel
theorem dX4_isLike_40 : decode cX4_isLike 40 = .ok (.if_icmp .ne 7, 3) := by decide +kernel
theorem dX4_isLike_43 : decode cX4_isLike 43 = .ok (.iconst 1, 1) := by decide +kernel
theorem dX4_isLike_44 : decode cX4_isLike 44 = .ok (.goto 4, 3) := by decide +kernel
theorem dX4_isLike_47 : decode cX4_isLike 47 = .ok (.iconst 0, 1) := by decide +kernel
theorem dX4_isLike_48 : decode cX4_isLike 48 = .ok (.istore_n 3, 1) := by decide +kernel
theorem dX4_isLike_49 : decode cX4_isLike 49 = .ok (.iconst 0, 1) := by decide +kernel
theorem dX4_isLike_50 : decode cX4_isLike 50 = .ok (.istore 4, 2) := by decide +kernel
theorem dX4_isLike_52 : decode cX4_isLike 52 = .ok (.iload_n 3, 1) := by decide +kernel
theorem dX4_isLike_53 : decode cX4_isLike 53 = .ok (.ifCond .eq 64, 3) := by decide +kernel
theorem dX4_isLike_56 : decode cX4_isLike 56 = .ok (.iload 4, 2) := by decide +kernel
theorem dX4_isLike_58 : decode cX4_isLike 58 = .ok (.aload_n 0, 1) := by decide +kernel
theorem dX4_isLike_59 : decode cX4_isLike 59 = .ok (.iload_n 1, 1) := by decide +kernel
theorem dX4_isLike_60 : decode cX4_isLike 60 = .ok (.invokevirtual 45, 3) := by decide +kernel
theorem dX4_isLike_63 : decode cX4_isLike 63 = .ok (.if_icmp .ge 54, 3) := by decide +kernel
theorem dX4_isLike_66 : decode cX4_isLike 66 = .ok (.aload_n 0, 1) := by decide +kernel
theorem dX4_isLike_67 : decode cX4_isLike 67 = .ok (.getfield 7, 3) := by decide +kernel
theorem dX4_isLike_70 : decode cX4_isLike 70 = .ok (.sipush 256, 3) := by decide +kernel
theorem dX4_isLike_73 : decode cX4_isLike 73 = .ok (.aload_n 0, 1) := by decide +kernel
theorem dX4_isLike_74 : decode cX4_isLike 74 = .ok (.getfield 16, 3) := by decide +kernel
theorem dX4_isLike_77 : decode cX4_isLike 77 = .ok (.iload_n 1, 1) := by decide +kernel
theorem dX4_isLike_78 : decode cX4_isLike 78 = .ok (.iaload, 1) := by decide +kernel
theorem dX4_isLike_79 : decode cX4_isLike 79 = .ok (.imul, 1) := by decide +kernel
theorem dX4_isLike_80 : decode cX4_isLike 80 = .ok (.iload 4, 2) := by decide +kernel
theorem dX4_isLike_82 : decode cX4_isLike 82 = .ok (.iadd, 1) := by decide +kernel
theorem dX4_isLike_83 : decode cX4_isLike 83 = .ok (.iaload, 1) := by decide +kernel
theorem dX4_isLike_84 : decode cX4_isLike 84 = .ok (.aload_n 0, 1) := by decide +kernel
theorem dX4_isLike_85 : decode cX4_isLike 85 = .ok (.getfield 7, 3) := by decide +kernel
theorem dX4_isLike_88 : decode cX4_isLike 88 = .ok (.sipush 256, 3) := by decide +kernel
theorem dX4_isLike_91 : decode cX4_isLike 91 = .ok (.aload_n 0, 1) := by decide +kernel
theorem dX4_isLike_92 : decode cX4_isLike 92 = .ok (.getfield 16, 3) := by decide +kernel
theorem dX4_isLike_95 : decode cX4_isLike 95 = .ok (.iload_n 2, 1) := by decide +kernel
theorem dX4_isLike_96 : decode cX4_isLike 96 = .ok (.iaload, 1) := by decide +kernel
theorem dX4_isLike_97 : decode cX4_isLike 97 = .ok (.imul, 1) := by decide +kernel
theorem dX4_isLike_98 : decode cX4_isLike 98 = .ok (.iload 4, 2) := by decide +kernel
theorem dX4_isLike_100 : decode cX4_isLike 100 = .ok (.iadd, 1) := by decide +kernel
theorem dX4_isLike_101 : decode cX4_isLike 101 = .ok (.iaload, 1) := by decide +kernel
theorem dX4_isLike_102 : decode cX4_isLike 102 = .ok (.if_icmp .ne 7, 3) := by decide +kernel
theorem dX4_isLike_105 : decode cX4_isLike 105 = .ok (.iconst 1, 1) := by decide +kernel
theorem dX4_isLike_106 : decode cX4_isLike 106 = .ok (.goto 4, 3) := by decide +kernel
theorem dX4_isLike_109 : decode cX4_isLike 109 = .ok (.iconst 0, 1) := by decide +kernel
theorem dX4_isLike_110 : decode cX4_isLike 110 = .ok (.istore_n 3, 1) := by decide +kernel
theorem dX4_isLike_111 : decode cX4_isLike 111 = .ok (.iinc 4 1, 3) := by decide +kernel
theorem dX4_isLike_114 : decode cX4_isLike 114 = .ok (.goto (-62), 3) := by decide +kernel
theorem dX4_isLike_117 : decode cX4_isLike 117 = .ok (.iload_n 3, 1) := by decide +kernel
theorem dX4_isLike_118 : decode cX4_isLike 118 = .ok (.ireturn, 1) := by decide +kernel
theorem dX4_isFull_0 : decode cX4_isFull 0 = .ok (.aload_n 0, 1) := by decide +kernel
theorem dX4_isFull_1 : decode cX4_isFull 1 = .ok (.getfield 31, 3) := by decide +kernel
theorem dX4_isFull_4 : decode cX4_isFull 4 = .ok (.iload_n 1, 1) := by decide +kernel
theorem dX4_isFull_5 : decode cX4_isFull 5 = .ok (.iaload, 1) := by decide +kernel
theorem dX4_isFull_6 : decode cX4_isFull 6 = .ok (.iload_n 2, 1) := by decide +kernel
theorem dX4_isFull_7 : decode cX4_isFull 7 = .ok (.iadd, 1) := by decide +kernel
theorem dX4_isFull_8 : decode cX4_isFull 8 = .ok (.sipush 256, 3) := by decide +kernel
theorem dX4_isFull_11 : decode cX4_isFull 11 = .ok (.if_icmp .le 7, 3) := by decide +kernel
theorem dX4_isFull_14 : decode cX4_isFull 14 = .ok (.iconst 1, 1) := by decide +kernel
theorem dX4_isFull_15 : decode cX4_isFull 15 = .ok (.goto 4, 3) := by decide +kernel
theorem dX4_isFull_18 : decode cX4_isFull 18 = .ok (.iconst 0, 1) := by decide +kernel
theorem dX4_isFull_19 : decode cX4_isFull 19 = .ok (.ireturn, 1) := by decide +kernel
theorem dX4_adds_0 : decode cX4_adds 0 = .ok (.aload_n 0, 1) := by decide +kernel
theorem dX4_adds_1 : decode cX4_adds 1 = .ok (.getfield 28, 3) := by decide +kernel
theorem dX4_adds_4 : decode cX4_adds 4 = .ok (.sipush 256, 3) := by decide +kernel
theorem dX4_adds_7 : decode cX4_adds 7 = .ok (.iload_n 1, 1) := by decide +kernel
theorem dX4_adds_8 : decode cX4_adds 8 = .ok (.imul, 1) := by decide +kernel
theorem dX4_adds_9 : decode cX4_adds 9 = .ok (.aload_n 0, 1) := by decide +kernel
theorem dX4_adds_10 : decode cX4_adds 10 = .ok (.getfield 31, 3) := by decide +kernel
theorem dX4_adds_13 : decode cX4_adds 13 = .ok (.iload_n 1, 1) := by decide +kernel
theorem dX4_adds_14 : decode cX4_adds 14 = .ok (.iaload, 1) := by decide +kernel
theorem dX4_adds_15 : decode cX4_adds 15 = .ok (.iadd, 1) := by decide +kernel
theorem dX4_adds_16 : decode cX4_adds 16 = .ok (.aload_n 0, 1) := by decide +kernel
theorem dX4_adds_17 : decode cX4_adds 17 = .ok (.iload_n 2, 1) := by decide +kernel
theorem dX4_adds_18 : decode cX4_adds 18 = .ok (.invokevirtual 64, 3) := by decide +kernel
theorem dX4_adds_21 : decode cX4_adds 21 = .ok (.iastore, 1) := by decide +kernel
theorem dX4_adds_22 : decode cX4_adds 22 = .ok (.aload_n 0, 1) := by decide +kernel
theorem dX4_adds_23 : decode cX4_adds 23 = .ok (.getfield 31, 3) := by decide +kernel
theorem dX4_adds_26 : decode cX4_adds 26 = .ok (.iload_n 1, 1) := by decide +kernel
theorem dX4_adds_27 : decode cX4_adds 27 = .ok (.dup2, 1) := by decide +kernel
theorem dX4_adds_28 : decode cX4_adds 28 = .ok (.iaload, 1) := by decide +kernel
theorem dX4_adds_29 : decode cX4_adds 29 = .ok (.iconst 1, 1) := by decide +kernel
theorem dX4_adds_30 : decode cX4_adds 30 = .ok (.iadd, 1) := by decide +kernel
theorem dX4_adds_31 : decode cX4_adds 31 = .ok (.iastore, 1) := by decide +kernel
theorem dX4_adds_32 : decode cX4_adds 32 = .ok (.return_, 1) := by decide +kernel
theorem dX4_write_0 : decode cX4_write 0 = .ok (.aload_n 0, 1) := by decide +kernel
theorem dX4_write_1 : decode cX4_write 1 = .ok (.aload_n 0, 1) := by decide +kernel
theorem dX4_write_2 : decode cX4_write 2 = .ok (.iload_n 1, 1) := by decide +kernel
theorem dX4_write_3 : decode cX4_write 3 = .ok (.invokevirtual 67, 3) := by decide +kernel
theorem dX4_write_6 : decode cX4_write 6 = .ok (.ifCond .ne 7, 3) := by decide +kernel
theorem dX4_write_9 : decode cX4_write 9 = .ok (.iconst 1, 1) := by decide +kernel
theorem dX4_write_10 : decode cX4_write 10 = .ok (.goto 17, 3) := by decide +kernel
theorem dX4_write_13 : decode cX4_write 13 = .ok (.aload_n 0, 1) := by decide +kernel
theorem dX4_write_14 : decode cX4_write 14 = .ok (.iload_n 1, 1) := by decide +kernel
theorem dX4_write_15 : decode cX4_write 15 = .ok (.iconst 1, 1) := by decide +kernel
theorem dX4_write_16 : decode cX4_write 16 = .ok (.invokevirtual 70, 3) := by decide +kernel
theorem dX4_write_19 : decode cX4_write 19 = .ok (.ifCond .eq 7, 3) := by decide +kernel
theorem dX4_write_22 : decode cX4_write 22 = .ok (.iconst 2, 1) := by decide +kernel
theorem dX4_write_23 : decode cX4_write 23 = .ok (.goto 4, 3) := by decide +kernel
theorem dX4_write_26 : decode cX4_write 26 = .ok (.iconst 0, 1) := by decide +kernel
theorem dX4_write_27 : decode cX4_write 27 = .ok (.invokevirtual 53, 3) := by decide +kernel
theorem dX4_write_30 : decode cX4_write 30 = .ok (.ifCond .eq 5, 3) := by decide +kernel
theorem dX4_write_33 : decode cX4_write 33 = .ok (.iconst 0, 1) := by decide +kernel
theorem dX4_write_34 : decode cX4_write 34 = .ok (.ireturn, 1) := by decide +kernel
theorem dX4_write_35 : decode cX4_write 35 = .ok (.aload_n 0, 1) := by decide +kernel
theorem dX4_write_36 : decode cX4_write 36 = .ok (.iload_n 1, 1) := by decide +kernel
theorem dX4_write_37 : decode cX4_write 37 = .ok (.iload_n 2, 1) := by decide +kernel
theorem dX4_write_38 : decode cX4_write 38 = .ok (.invokevirtual 74, 3) := by decide +kernel
theorem dX4_write_41 : decode cX4_write 41 = .ok (.aload_n 0, 1) := by decide +kernel
theorem dX4_write_42 : decode cX4_write 42 = .ok (.getfield 31, 3) := by decide +kernel
theorem dX4_write_45 : decode cX4_write 45 = .ok (.iload_n 1, 1) := by decide +kernel
theorem dX4_write_46 : decode cX4_write 46 = .ok (.iaload, 1) := by decide +kernel
theorem dX4_write_47 : decode cX4_write 47 = .ok (.ireturn, 1) := by decide +kernel
theorem dX4_writePart_0 : decode cX4_writePart 0 = .ok (.aload_n 0, 1) := by decide +kernel
theorem dX4_writePart_1 : decode cX4_writePart 1 = .ok (.aload_n 0, 1) := by decide +kernel
theorem dX4_writePart_2 : decode cX4_writePart 2 = .ok (.iload_n 1, 1) := by decide +kernel
theorem dX4_writePart_3 : decode cX4_writePart 3 = .ok (.invokevirtual 67, 3) := by decide +kernel
theorem dX4_writePart_6 : decode cX4_writePart 6 = .ok (.ifCond .eq 14, 3) := by decide +kernel
theorem dX4_writePart_9 : decode cX4_writePart 9 = .ok (.aload_n 0, 1) := by decide +kernel
theorem dX4_writePart_10 : decode cX4_writePart 10 = .ok (.iload_n 2, 1) := by decide +kernel
theorem dX4_writePart_11 : decode cX4_writePart 11 = .ok (.iload_n 3, 1) := by decide +kernel
theorem dX4_writePart_12 : decode cX4_writePart 12 = .ok (.iload 4, 2) := by decide +kernel
theorem dX4_writePart_14 : decode cX4_writePart 14 = .ok (.invokevirtual 60, 3) := by decide +kernel
theorem dX4_writePart_17 : decode cX4_writePart 17 = .ok (.ifCond .ne 7, 3) := by decide +kernel
theorem dX4_writePart_20 : decode cX4_writePart 20 = .ok (.iconst 1, 1) := by decide +kernel
theorem dX4_writePart_21 : decode cX4_writePart 21 = .ok (.goto 18, 3) := by decide +kernel
theorem dX4_writePart_24 : decode cX4_writePart 24 = .ok (.aload_n 0, 1) := by decide +kernel
theorem dX4_writePart_25 : decode cX4_writePart 25 = .ok (.iload_n 1, 1) := by decide +kernel
theorem dX4_writePart_26 : decode cX4_writePart 26 = .ok (.iload 4, 2) := by decide +kernel
theorem dX4_writePart_28 : decode cX4_writePart 28 = .ok (.invokevirtual 70, 3) := by decide +kernel
theorem dX4_writePart_31 : decode cX4_writePart 31 = .ok (.ifCond .eq 7, 3) := by decide +kernel
theorem dX4_writePart_34 : decode cX4_writePart 34 = .ok (.iconst 2, 1) := by decide +kernel
theorem dX4_writePart_35 : decode cX4_writePart 35 = .ok (.goto 4, 3) := by decide +kernel
theorem dX4_writePart_38 : decode cX4_writePart 38 = .ok (.iconst 0, 1) := by decide +kernel
theorem dX4_writePart_39 : decode cX4_writePart 39 = .ok (.invokevirtual 53, 3) := by decide +kernel
theorem dX4_writePart_42 : decode cX4_writePart 42 = .ok (.ifCond .eq 5, 3) := by decide +kernel
theorem dX4_writePart_45 : decode cX4_writePart 45 = .ok (.iconst 0, 1) := by decide +kernel
theorem dX4_writePart_46 : decode cX4_writePart 46 = .ok (.ireturn, 1) := by decide +kernel
theorem dX4_writePart_47 : decode cX4_writePart 47 = .ok (.iconst 0, 1) := by decide +kernel
theorem dX4_writePart_48 : decode cX4_writePart 48 = .ok (.istore 5, 2) := by decide +kernel
theorem dX4_writePart_50 : decode cX4_writePart 50 = .ok (.iload 5, 2) := by decide +kernel
theorem dX4_writePart_52 : decode cX4_writePart 52 = .ok (.iload 4, 2) := by decide +kernel
theorem dX4_writePart_54 : decode cX4_writePart 54 = .ok (.if_icmp .ge 34, 3) := by decide +kernel
theorem dX4_writePart_57 : decode cX4_writePart 57 = .ok (.aload_n 0, 1) := by decide +kernel
theorem dX4_writePart_58 : decode cX4_writePart 58 = .ok (.iload_n 1, 1) := by decide +kernel
theorem dX4_writePart_59 : decode cX4_writePart 59 = .ok (.aload_n 0, 1) := by decide +kernel
theorem dX4_writePart_60 : decode cX4_writePart 60 = .ok (.getfield 7, 3) := by decide +kernel
theorem dX4_writePart_63 : decode cX4_writePart 63 = .ok (.sipush 256, 3) := by decide +kernel
theorem dX4_writePart_66 : decode cX4_writePart 66 = .ok (.aload_n 0, 1) := by decide +kernel
theorem dX4_writePart_67 : decode cX4_writePart 67 = .ok (.getfield 16, 3) := by decide +kernel
theorem dX4_writePart_70 : decode cX4_writePart 70 = .ok (.iload_n 2, 1) := by decide +kernel
theorem dX4_writePart_71 : decode cX4_writePart 71 = .ok (.iaload, 1) := by decide +kernel
theorem dX4_writePart_72 : decode cX4_writePart 72 = .ok (.imul, 1) := by decide +kernel
theorem dX4_writePart_73 : decode cX4_writePart 73 = .ok (.iload_n 3, 1) := by decide +kernel
theorem dX4_writePart_74 : decode cX4_writePart 74 = .ok (.iadd, 1) := by decide +kernel
theorem dX4_writePart_75 : decode cX4_writePart 75 = .ok (.iload 5, 2) := by decide +kernel
theorem dX4_writePart_77 : decode cX4_writePart 77 = .ok (.iadd, 1) := by decide +kernel
theorem dX4_writePart_78 : decode cX4_writePart 78 = .ok (.iaload, 1) := by decide +kernel
theorem dX4_writePart_79 : decode cX4_writePart 79 = .ok (.invokevirtual 74, 3) := by decide +kernel
theorem dX4_writePart_82 : decode cX4_writePart 82 = .ok (.iinc 5 1, 3) := by decide +kernel
theorem dX4_writePart_85 : decode cX4_writePart 85 = .ok (.goto (-35), 3) := by decide +kernel
theorem dX4_writePart_88 : decode cX4_writePart 88 = .ok (.aload_n 0, 1) := by decide +kernel
theorem dX4_writePart_89 : decode cX4_writePart 89 = .ok (.getfield 31, 3) := by decide +kernel
theorem dX4_writePart_92 : decode cX4_writePart 92 = .ok (.iload_n 1, 1) := by decide +kernel
theorem dX4_writePart_93 : decode cX4_writePart 93 = .ok (.iaload, 1) := by decide +kernel
theorem dX4_writePart_94 : decode cX4_writePart 94 = .ok (.ireturn, 1) := by decide +kernel
theorem dX4_writeRow_0 : decode cX4_writeRow 0 = .ok (.aload_n 0, 1) := by decide +kernel
theorem dX4_writeRow_1 : decode cX4_writeRow 1 = .ok (.iload_n 1, 1) := by decide +kernel
theorem dX4_writeRow_2 : decode cX4_writeRow 2 = .ok (.iload_n 2, 1) := by decide +kernel
theorem dX4_writeRow_3 : decode cX4_writeRow 3 = .ok (.iconst 0, 1) := by decide +kernel
theorem dX4_writeRow_4 : decode cX4_writeRow 4 = .ok (.aload_n 0, 1) := by decide +kernel
theorem dX4_writeRow_5 : decode cX4_writeRow 5 = .ok (.iload_n 2, 1) := by decide +kernel
theorem dX4_writeRow_6 : decode cX4_writeRow 6 = .ok (.invokevirtual 41, 3) := by decide +kernel
theorem dX4_writeRow_9 : decode cX4_writeRow 9 = .ok (.ifCond .eq 11, 3) := by decide +kernel
theorem dX4_writeRow_12 : decode cX4_writeRow 12 = .ok (.aload_n 0, 1) := by decide +kernel
theorem dX4_writeRow_13 : decode cX4_writeRow 13 = .ok (.iload_n 2, 1) := by decide +kernel
theorem dX4_writeRow_14 : decode cX4_writeRow 14 = .ok (.invokevirtual 45, 3) := by decide +kernel
theorem dX4_writeRow_17 : decode cX4_writeRow 17 = .ok (.goto 4, 3) := by decide +kernel
theorem dX4_writeRow_20 : decode cX4_writeRow 20 = .ok (.iconst 0, 1) := by decide +kernel
theorem dX4_writeRow_21 : decode cX4_writeRow 21 = .ok (.invokevirtual 77, 3) := by decide +kernel
theorem dX4_writeRow_24 : decode cX4_writeRow 24 = .ok (.ireturn, 1) := by decide +kernel
theorem dX4_writeNumber_0 : decode cX4_writeNumber 0 = .ok (.aload_n 0, 1) := by decide +kernel
theorem dX4_writeNumber_1 : decode cX4_writeNumber 1 = .ok (.aload_n 0, 1) := by decide +kernel
theorem dX4_writeNumber_2 : decode cX4_writeNumber 2 = .ok (.iload_n 1, 1) := by decide +kernel
theorem dX4_writeNumber_3 : decode cX4_writeNumber 3 = .ok (.invokevirtual 67, 3) := by decide +kernel
theorem dX4_writeNumber_6 : decode cX4_writeNumber 6 = .ok (.ifCond .ne 7, 3) := by decide +kernel
theorem dX4_writeNumber_9 : decode cX4_writeNumber 9 = .ok (.iconst 1, 1) := by decide +kernel
theorem dX4_writeNumber_10 : decode cX4_writeNumber 10 = .ok (.goto 17, 3) := by decide +kernel
theorem dX4_writeNumber_13 : decode cX4_writeNumber 13 = .ok (.aload_n 0, 1) := by decide +kernel
theorem dX4_writeNumber_14 : decode cX4_writeNumber 14 = .ok (.iload_n 1, 1) := by decide +kernel
theorem dX4_writeNumber_15 : decode cX4_writeNumber 15 = .ok (.iconst 4, 1) := by decide +kernel
theorem dX4_writeNumber_16 : decode cX4_writeNumber 16 = .ok (.invokevirtual 70, 3) := by decide +kernel
theorem dX4_writeNumber_19 : decode cX4_writeNumber 19 = .ok (.ifCond .eq 7, 3) := by decide +kernel
theorem dX4_writeNumber_22 : decode cX4_writeNumber 22 = .ok (.iconst 2, 1) := by decide +kernel
theorem dX4_writeNumber_23 : decode cX4_writeNumber 23 = .ok (.goto 4, 3) := by decide +kernel
theorem dX4_writeNumber_26 : decode cX4_writeNumber 26 = .ok (.iconst 0, 1) := by decide +kernel
theorem dX4_writeNumber_27 : decode cX4_writeNumber 27 = .ok (.invokevirtual 53, 3) := by decide +kernel
theorem dX4_writeNumber_30 : decode cX4_writeNumber 30 = .ok (.ifCond .eq 5, 3) := by decide +kernel
theorem dX4_writeNumber_33 : decode cX4_writeNumber 33 = .ok (.iconst 0, 1) := by decide +kernel
theorem dX4_writeNumber_34 : decode cX4_writeNumber 34 = .ok (.ireturn, 1) := by decide +kernel
theorem dX4_writeNumber_35 : decode cX4_writeNumber 35 = .ok (.bipush 24, 2) := by decide +kernel
theorem dX4_writeNumber_37 : decode cX4_writeNumber 37 = .ok (.istore_n 3, 1) := by decide +kernel
theorem dX4_writeNumber_38 : decode cX4_writeNumber 38 = .ok (.iload_n 3, 1) := by decide +kernel
theorem dX4_writeNumber_39 : decode cX4_writeNumber 39 = .ok (.ifCond .lt 17, 3) := by decide +kernel
theorem dX4_writeNumber_42 : decode cX4_writeNumber 42 = .ok (.aload_n 0, 1) := by decide +kernel
theorem dX4_writeNumber_43 : decode cX4_writeNumber 43 = .ok (.iload_n 1, 1) := by decide +kernel
theorem dX4_writeNumber_44 : decode cX4_writeNumber 44 = .ok (.iload_n 2, 1) := by decide +kernel
theorem dX4_writeNumber_45 : decode cX4_writeNumber 45 = .ok (.iload_n 3, 1) := by decide +kernel
theorem dX4_writeNumber_46 : decode cX4_writeNumber 46 = .ok (.ishr, 1) := by decide +kernel
theorem dX4_writeNumber_47 : decode cX4_writeNumber 47 = .ok (.invokevirtual 74, 3) := by decide +kernel
theorem dX4_writeNumber_50 : decode cX4_writeNumber 50 = .ok (.iinc 3 (-8), 3) := by decide +kernel
theorem dX4_writeNumber_53 : decode cX4_writeNumber 53 = .ok (.goto (-15), 3) := by decide +kernel
theorem dX4_writeNumber_56 : decode cX4_writeNumber 56 = .ok (.aload_n 0, 1) := by decide +kernel
theorem dX4_writeNumber_57 : decode cX4_writeNumber 57 = .ok (.getfield 31, 3) := by decide +kernel
theorem dX4_writeNumber_60 : decode cX4_writeNumber 60 = .ok (.iload_n 1, 1) := by decide +kernel
theorem dX4_writeNumber_61 : decode cX4_writeNumber 61 = .ok (.iaload, 1) := by decide +kernel
theorem dX4_writeNumber_62 : decode cX4_writeNumber 62 = .ok (.ireturn, 1) := by decide +kernel
theorem dX4_size_0 : decode cX4_size 0 = .ok (.aload_n 0, 1) := by decide +kernel
theorem dX4_size_1 : decode cX4_size 1 = .ok (.aload_n 0, 1) := by decide +kernel
theorem dX4_size_2 : decode cX4_size 2 = .ok (.iload_n 1, 1) := by decide +kernel
theorem dX4_size_3 : decode cX4_size 3 = .ok (.invokevirtual 67, 3) := by decide +kernel
theorem dX4_size_6 : decode cX4_size 6 = .ok (.ifCond .eq 7, 3) := by decide +kernel
theorem dX4_size_9 : decode cX4_size 9 = .ok (.iconst 0, 1) := by decide +kernel
theorem dX4_size_10 : decode cX4_size 10 = .ok (.goto 4, 3) := by decide +kernel
theorem dX4_size_13 : decode cX4_size 13 = .ok (.iconst 1, 1) := by decide +kernel
theorem dX4_size_14 : decode cX4_size 14 = .ok (.invokevirtual 53, 3) := by decide +kernel
theorem dX4_size_17 : decode cX4_size 17 = .ok (.ifCond .eq 7, 3) := by decide +kernel
theorem dX4_size_20 : decode cX4_size 20 = .ok (.iconst 0, 1) := by decide +kernel
theorem dX4_size_21 : decode cX4_size 21 = .ok (.goto 9, 3) := by decide +kernel
theorem dX4_size_24 : decode cX4_size 24 = .ok (.aload_n 0, 1) := by decide +kernel
theorem dX4_size_25 : decode cX4_size 25 = .ok (.getfield 31, 3) := by decide +kernel
theorem dX4_size_28 : decode cX4_size 28 = .ok (.iload_n 1, 1) := by decide +kernel
theorem dX4_size_29 : decode cX4_size 29 = .ok (.iaload, 1) := by decide +kernel
theorem dX4_size_30 : decode cX4_size 30 = .ok (.ireturn, 1) := by decide +kernel
theorem dX4_empty_0 : decode cX4_empty 0 = .ok (.aload_n 0, 1) := by decide +kernel
theorem dX4_empty_1 : decode cX4_empty 1 = .ok (.aload_n 0, 1) := by decide +kernel
theorem dX4_empty_2 : decode cX4_empty 2 = .ok (.iload_n 1, 1) := by decide +kernel
theorem dX4_empty_3 : decode cX4_empty 3 = .ok (.invokevirtual 67, 3) := by decide +kernel
theorem dX4_empty_6 : decode cX4_empty 6 = .ok (.ifCond .eq 7, 3) := by decide +kernel
theorem dX4_empty_9 : decode cX4_empty 9 = .ok (.iconst 0, 1) := by decide +kernel
theorem dX4_empty_10 : decode cX4_empty 10 = .ok (.goto 4, 3) := by decide +kernel
theorem dX4_empty_13 : decode cX4_empty 13 = .ok (.iconst 1, 1) := by decide +kernel
theorem dX4_empty_14 : decode cX4_empty 14 = .ok (.invokevirtual 53, 3) := by decide +kernel
theorem dX4_empty_17 : decode cX4_empty 17 = .ok (.ifCond .eq 5, 3) := by decide +kernel
theorem dX4_empty_20 : decode cX4_empty 20 = .ok (.iconst 0, 1) := by decide +kernel
theorem dX4_empty_21 : decode cX4_empty 21 = .ok (.ireturn, 1) := by decide +kernel
theorem dX4_empty_22 : decode cX4_empty 22 = .ok (.aload_n 0, 1) := by decide +kernel
theorem dX4_empty_23 : decode cX4_empty 23 = .ok (.getfield 31, 3) := by decide +kernel
theorem dX4_empty_26 : decode cX4_empty 26 = .ok (.iload_n 1, 1) := by decide +kernel
theorem dX4_empty_27 : decode cX4_empty 27 = .ok (.iaload, 1) := by decide +kernel
theorem dX4_empty_28 : decode cX4_empty 28 = .ok (.istore_n 2, 1) := by decide +kernel
theorem dX4_empty_29 : decode cX4_empty 29 = .ok (.aload_n 0, 1) := by decide +kernel
theorem dX4_empty_30 : decode cX4_empty 30 = .ok (.getfield 31, 3) := by decide +kernel
theorem dX4_empty_33 : decode cX4_empty 33 = .ok (.iload_n 1, 1) := by decide +kernel
theorem dX4_empty_34 : decode cX4_empty 34 = .ok (.iconst 0, 1) := by decide +kernel
theorem dX4_empty_35 : decode cX4_empty 35 = .ok (.iastore, 1) := by decide +kernel
theorem dX4_empty_36 : decode cX4_empty 36 = .ok (.iload_n 2, 1) := by decide +kernel
theorem dX4_empty_37 : decode cX4_empty 37 = .ok (.ireturn, 1) := by decide +kernel
theorem dX4_take_0 : decode cX4_take 0 = .ok (.aload_n 0, 1) := by decide +kernel
theorem dX4_take_1 : decode cX4_take 1 = .ok (.aload_n 0, 1) := by decide +kernel
theorem dX4_take_2 : decode cX4_take 2 = .ok (.iload_n 1, 1) := by decide +kernel
theorem dX4_take_3 : decode cX4_take 3 = .ok (.invokevirtual 67, 3) := by decide +kernel
theorem dX4_take_6 : decode cX4_take 6 = .ok (.ifCond .eq 15, 3) := by decide +kernel
theorem dX4_take_9 : decode cX4_take 9 = .ok (.aload_n 0, 1) := by decide +kernel
theorem dX4_take_10 : decode cX4_take 10 = .ok (.iload_n 2, 1) := by decide +kernel
theorem dX4_take_11 : decode cX4_take 11 = .ok (.invokevirtual 41, 3) := by decide +kernel
theorem dX4_take_14 : decode cX4_take 14 = .ok (.ifCond .eq 7, 3) := by decide +kernel
theorem dX4_take_17 : decode cX4_take 17 = .ok (.iconst 0, 1) := by decide +kernel
theorem dX4_take_18 : decode cX4_take 18 = .ok (.goto 4, 3) := by decide +kernel
theorem dX4_take_21 : decode cX4_take 21 = .ok (.iconst 1, 1) := by decide +kernel
theorem dX4_take_22 : decode cX4_take 22 = .ok (.invokevirtual 53, 3) := by decide +kernel
theorem dX4_take_25 : decode cX4_take 25 = .ok (.ifCond .eq 5, 3) := by decide +kernel
theorem dX4_take_28 : decode cX4_take 28 = .ok (.iconst 0, 1) := by decide +kernel
theorem dX4_take_29 : decode cX4_take 29 = .ok (.ireturn, 1) := by decide +kernel
theorem dX4_take_30 : decode cX4_take 30 = .ok (.iconst 0, 1) := by decide +kernel
theorem dX4_take_31 : decode cX4_take 31 = .ok (.istore_n 3, 1) := by decide +kernel
theorem dX4_take_32 : decode cX4_take 32 = .ok (.iload_n 3, 1) := by decide +kernel
theorem dX4_take_33 : decode cX4_take 33 = .ok (.aload_n 0, 1) := by decide +kernel
theorem dX4_take_34 : decode cX4_take 34 = .ok (.getfield 31, 3) := by decide +kernel
theorem dX4_take_37 : decode cX4_take 37 = .ok (.iload_n 1, 1) := by decide +kernel
theorem dX4_take_38 : decode cX4_take 38 = .ok (.iaload, 1) := by decide +kernel
theorem dX4_take_39 : decode cX4_take 39 = .ok (.if_icmp .ge 27, 3) := by decide +kernel
theorem dX4_take_42 : decode cX4_take 42 = .ok (.aload_n 0, 1) := by decide +kernel
theorem dX4_take_43 : decode cX4_take 43 = .ok (.getfield 34, 3) := by decide +kernel
theorem dX4_take_46 : decode cX4_take 46 = .ok (.iload_n 3, 1) := by decide +kernel
theorem dX4_take_47 : decode cX4_take 47 = .ok (.aload_n 0, 1) := by decide +kernel
theorem dX4_take_48 : decode cX4_take 48 = .ok (.getfield 28, 3) := by decide +kernel
theorem dX4_take_51 : decode cX4_take 51 = .ok (.sipush 256, 3) := by decide +kernel
theorem dX4_take_54 : decode cX4_take 54 = .ok (.iload_n 1, 1) := by decide +kernel
theorem dX4_take_55 : decode cX4_take 55 = .ok (.imul, 1) := by decide +kernel
theorem dX4_take_56 : decode cX4_take 56 = .ok (.iload_n 3, 1) := by decide +kernel
theorem dX4_take_57 : decode cX4_take 57 = .ok (.iadd, 1) := by decide +kernel
theorem dX4_take_58 : decode cX4_take 58 = .ok (.iaload, 1) := by decide +kernel
theorem dX4_take_59 : decode cX4_take 59 = .ok (.iastore, 1) := by decide +kernel
theorem dX4_take_60 : decode cX4_take 60 = .ok (.iinc 3 1, 3) := by decide +kernel
theorem dX4_take_63 : decode cX4_take 63 = .ok (.goto (-31), 3) := by decide +kernel
theorem dX4_take_66 : decode cX4_take 66 = .ok (.aload_n 0, 1) := by decide +kernel
theorem dX4_take_67 : decode cX4_take 67 = .ok (.iload_n 2, 1) := by decide +kernel
theorem dX4_take_68 : decode cX4_take 68 = .ok (.aload_n 0, 1) := by decide +kernel
theorem dX4_take_69 : decode cX4_take 69 = .ok (.getfield 31, 3) := by decide +kernel
theorem dX4_take_72 : decode cX4_take 72 = .ok (.iload_n 1, 1) := by decide +kernel
theorem dX4_take_73 : decode cX4_take 73 = .ok (.iaload, 1) := by decide +kernel
theorem dX4_take_74 : decode cX4_take 74 = .ok (.invokevirtual 56, 3) := by decide +kernel
theorem dX4_take_77 : decode cX4_take 77 = .ok (.aload_n 0, 1) := by decide +kernel
theorem dX4_take_78 : decode cX4_take 78 = .ok (.getfield 31, 3) := by decide +kernel
theorem dX4_take_81 : decode cX4_take 81 = .ok (.iload_n 1, 1) := by decide +kernel
theorem dX4_take_82 : decode cX4_take 82 = .ok (.iaload, 1) := by decide +kernel
theorem dX4_take_83 : decode cX4_take 83 = .ok (.ireturn, 1) := by decide +kernel
theorem dX4_leftOf_0 : decode cX4_leftOf 0 = .ok (.aload_n 0, 1) := by decide +kernel
theorem dX4_leftOf_1 : decode cX4_leftOf 1 = .ok (.getfield 13, 3) := by decide +kernel
theorem dX4_leftOf_4 : decode cX4_leftOf 4 = .ok (.aload_n 0, 1) := by decide +kernel
theorem dX4_leftOf_5 : decode cX4_leftOf 5 = .ok (.getfield 19, 3) := by decide +kernel
theorem dX4_leftOf_8 : decode cX4_leftOf 8 = .ok (.iload_n 1, 1) := by decide +kernel
theorem dX4_leftOf_9 : decode cX4_leftOf 9 = .ok (.iaload, 1) := by decide +kernel
theorem dX4_leftOf_10 : decode cX4_leftOf 10 = .ok (.iaload, 1) := by decide +kernel
theorem dX4_leftOf_11 : decode cX4_leftOf 11 = .ok (.aload_n 0, 1) := by decide +kernel
theorem dX4_leftOf_12 : decode cX4_leftOf 12 = .ok (.getfield 22, 3) := by decide +kernel
theorem dX4_leftOf_15 : decode cX4_leftOf 15 = .ok (.iload_n 1, 1) := by decide +kernel
theorem dX4_leftOf_16 : decode cX4_leftOf 16 = .ok (.iaload, 1) := by decide +kernel
theorem dX4_leftOf_17 : decode cX4_leftOf 17 = .ok (.isub, 1) := by decide +kernel
theorem dX4_leftOf_18 : decode cX4_leftOf 18 = .ok (.ireturn, 1) := by decide +kernel
theorem dX4_next_0 : decode cX4_next 0 = .ok (.aload_n 0, 1) := by decide +kernel
theorem dX4_next_1 : decode cX4_next 1 = .ok (.getfield 7, 3) := by decide +kernel
theorem dX4_next_4 : decode cX4_next 4 = .ok (.sipush 256, 3) := by decide +kernel
theorem dX4_next_7 : decode cX4_next 7 = .ok (.aload_n 0, 1) := by decide +kernel
theorem dX4_next_8 : decode cX4_next 8 = .ok (.getfield 19, 3) := by decide +kernel
theorem dX4_next_11 : decode cX4_next 11 = .ok (.iload_n 1, 1) := by decide +kernel
theorem dX4_next_12 : decode cX4_next 12 = .ok (.iaload, 1) := by decide +kernel
theorem dX4_next_13 : decode cX4_next 13 = .ok (.imul, 1) := by decide +kernel
theorem dX4_next_14 : decode cX4_next 14 = .ok (.aload_n 0, 1) := by decide +kernel
theorem dX4_next_15 : decode cX4_next 15 = .ok (.getfield 22, 3) := by decide +kernel
theorem dX4_next_18 : decode cX4_next 18 = .ok (.iload_n 1, 1) := by decide +kernel
theorem dX4_next_19 : decode cX4_next 19 = .ok (.iaload, 1) := by decide +kernel
theorem dX4_next_20 : decode cX4_next 20 = .ok (.iadd, 1) := by decide +kernel
theorem dX4_next_21 : decode cX4_next 21 = .ok (.iaload, 1) := by decide +kernel
theorem dX4_next_22 : decode cX4_next 22 = .ok (.ireturn, 1) := by decide +kernel
theorem dX4_open_0 : decode cX4_open 0 = .ok (.aload_n 0, 1) := by decide +kernel
theorem dX4_open_1 : decode cX4_open 1 = .ok (.aload_n 0, 1) := by decide +kernel
theorem dX4_open_2 : decode cX4_open 2 = .ok (.iload_n 1, 1) := by decide +kernel
theorem dX4_open_3 : decode cX4_open 3 = .ok (.invokevirtual 67, 3) := by decide +kernel
theorem dX4_open_6 : decode cX4_open 6 = .ok (.ifCond .eq 15, 3) := by decide +kernel
theorem dX4_open_9 : decode cX4_open 9 = .ok (.aload_n 0, 1) := by decide +kernel
theorem dX4_open_10 : decode cX4_open 10 = .ok (.iload_n 2, 1) := by decide +kernel
theorem dX4_open_11 : decode cX4_open 11 = .ok (.invokevirtual 41, 3) := by decide +kernel
theorem dX4_open_14 : decode cX4_open 14 = .ok (.ifCond .eq 7, 3) := by decide +kernel
theorem dX4_open_17 : decode cX4_open 17 = .ok (.iconst 0, 1) := by decide +kernel
theorem dX4_open_18 : decode cX4_open 18 = .ok (.goto 4, 3) := by decide +kernel
theorem dX4_open_21 : decode cX4_open 21 = .ok (.iconst 1, 1) := by decide +kernel
theorem dX4_open_22 : decode cX4_open 22 = .ok (.invokevirtual 53, 3) := by decide +kernel
theorem dX4_open_25 : decode cX4_open 25 = .ok (.ifCond .eq 5, 3) := by decide +kernel
theorem dX4_open_28 : decode cX4_open 28 = .ok (.iconst 0, 1) := by decide +kernel
theorem dX4_open_29 : decode cX4_open 29 = .ok (.ireturn, 1) := by decide +kernel
theorem dX4_open_30 : decode cX4_open 30 = .ok (.aload_n 0, 1) := by decide +kernel
theorem dX4_open_31 : decode cX4_open 31 = .ok (.getfield 19, 3) := by decide +kernel
theorem dX4_open_34 : decode cX4_open 34 = .ok (.iload_n 1, 1) := by decide +kernel
theorem dX4_open_35 : decode cX4_open 35 = .ok (.aload_n 0, 1) := by decide +kernel
theorem dX4_open_36 : decode cX4_open 36 = .ok (.getfield 16, 3) := by decide +kernel
theorem dX4_open_39 : decode cX4_open 39 = .ok (.iload_n 2, 1) := by decide +kernel
theorem dX4_open_40 : decode cX4_open 40 = .ok (.iaload, 1) := by decide +kernel
theorem dX4_open_41 : decode cX4_open 41 = .ok (.iastore, 1) := by decide +kernel
theorem dX4_open_42 : decode cX4_open 42 = .ok (.aload_n 0, 1) := by decide +kernel
theorem dX4_open_43 : decode cX4_open 43 = .ok (.getfield 22, 3) := by decide +kernel
theorem dX4_open_46 : decode cX4_open 46 = .ok (.iload_n 1, 1) := by decide +kernel
theorem dX4_open_47 : decode cX4_open 47 = .ok (.iconst 0, 1) := by decide +kernel
theorem dX4_open_48 : decode cX4_open 48 = .ok (.iastore, 1) := by decide +kernel
theorem dX4_open_49 : decode cX4_open 49 = .ok (.aload_n 0, 1) := by decide +kernel
theorem dX4_open_50 : decode cX4_open 50 = .ok (.getfield 25, 3) := by decide +kernel
theorem dX4_open_53 : decode cX4_open 53 = .ok (.iload_n 1, 1) := by decide +kernel
theorem dX4_open_54 : decode cX4_open 54 = .ok (.iconst 0, 1) := by decide +kernel
theorem dX4_open_55 : decode cX4_open 55 = .ok (.iastore, 1) := by decide +kernel
theorem dX4_open_56 : decode cX4_open 56 = .ok (.aload_n 0, 1) := by decide +kernel
theorem dX4_open_57 : decode cX4_open 57 = .ok (.iload_n 1, 1) := by decide +kernel
theorem dX4_open_58 : decode cX4_open 58 = .ok (.invokevirtual 81, 3) := by decide +kernel
theorem dX4_open_61 : decode cX4_open 61 = .ok (.ireturn, 1) := by decide +kernel
theorem dX4_isOpen_0 : decode cX4_isOpen 0 = .ok (.aload_n 0, 1) := by decide +kernel
theorem dX4_isOpen_1 : decode cX4_isOpen 1 = .ok (.aload_n 0, 1) := by decide +kernel
theorem dX4_isOpen_2 : decode cX4_isOpen 2 = .ok (.iload_n 1, 1) := by decide +kernel
theorem dX4_isOpen_3 : decode cX4_isOpen 3 = .ok (.invokevirtual 67, 3) := by decide +kernel
theorem dX4_isOpen_6 : decode cX4_isOpen 6 = .ok (.ifCond .eq 7, 3) := by decide +kernel
theorem dX4_isOpen_9 : decode cX4_isOpen 9 = .ok (.iconst 0, 1) := by decide +kernel
theorem dX4_isOpen_10 : decode cX4_isOpen 10 = .ok (.goto 4, 3) := by decide +kernel
theorem dX4_isOpen_13 : decode cX4_isOpen 13 = .ok (.iconst 1, 1) := by decide +kernel
theorem dX4_isOpen_14 : decode cX4_isOpen 14 = .ok (.invokevirtual 53, 3) := by decide +kernel
theorem dX4_isOpen_17 : decode cX4_isOpen 17 = .ok (.ifCond .ne 16, 3) := by decide +kernel
theorem dX4_isOpen_20 : decode cX4_isOpen 20 = .ok (.aload_n 0, 1) := by decide +kernel
theorem dX4_isOpen_21 : decode cX4_isOpen 21 = .ok (.getfield 19, 3) := by decide +kernel
theorem dX4_isOpen_24 : decode cX4_isOpen 24 = .ok (.iload_n 1, 1) := by decide +kernel
theorem dX4_isOpen_25 : decode cX4_isOpen 25 = .ok (.iaload, 1) := by decide +kernel
theorem dX4_isOpen_26 : decode cX4_isOpen 26 = .ok (.ifCond .lt 7, 3) := by decide +kernel
theorem dX4_isOpen_29 : decode cX4_isOpen 29 = .ok (.iconst 1, 1) := by decide +kernel
theorem dX4_isOpen_30 : decode cX4_isOpen 30 = .ok (.goto 4, 3) := by decide +kernel
theorem dX4_isOpen_33 : decode cX4_isOpen 33 = .ok (.iconst 0, 1) := by decide +kernel
theorem dX4_isOpen_34 : decode cX4_isOpen 34 = .ok (.ireturn, 1) := by decide +kernel
theorem dX4_isShut_0 : decode cX4_isShut 0 = .ok (.aload_n 0, 1) := by decide +kernel
theorem dX4_isShut_1 : decode cX4_isShut 1 = .ok (.aload_n 0, 1) := by decide +kernel
theorem dX4_isShut_2 : decode cX4_isShut 2 = .ok (.iload_n 1, 1) := by decide +kernel
theorem dX4_isShut_3 : decode cX4_isShut 3 = .ok (.invokevirtual 67, 3) := by decide +kernel
theorem dX4_isShut_6 : decode cX4_isShut 6 = .ok (.ifCond .ne 7, 3) := by decide +kernel
theorem dX4_isShut_9 : decode cX4_isShut 9 = .ok (.iconst 1, 1) := by decide +kernel
theorem dX4_isShut_10 : decode cX4_isShut 10 = .ok (.goto 17, 3) := by decide +kernel
theorem dX4_isShut_13 : decode cX4_isShut 13 = .ok (.aload_n 0, 1) := by decide +kernel
theorem dX4_isShut_14 : decode cX4_isShut 14 = .ok (.getfield 19, 3) := by decide +kernel
theorem dX4_isShut_17 : decode cX4_isShut 17 = .ok (.iload_n 1, 1) := by decide +kernel
theorem dX4_isShut_18 : decode cX4_isShut 18 = .ok (.iaload, 1) := by decide +kernel
theorem dX4_isShut_19 : decode cX4_isShut 19 = .ok (.ifCond .ge 7, 3) := by decide +kernel
theorem dX4_isShut_22 : decode cX4_isShut 22 = .ok (.iconst 2, 1) := by decide +kernel
theorem dX4_isShut_23 : decode cX4_isShut 23 = .ok (.goto 4, 3) := by decide +kernel
theorem dX4_isShut_26 : decode cX4_isShut 26 = .ok (.iconst 0, 1) := by decide +kernel
theorem dX4_isShut_27 : decode cX4_isShut 27 = .ok (.invokevirtual 53, 3) := by decide +kernel
theorem dX4_isShut_30 : decode cX4_isShut 30 = .ok (.ireturn, 1) := by decide +kernel
theorem dX4_read_0 : decode cX4_read 0 = .ok (.aload_n 0, 1) := by decide +kernel
theorem dX4_read_1 : decode cX4_read 1 = .ok (.iload_n 1, 1) := by decide +kernel
theorem dX4_read_2 : decode cX4_read 2 = .ok (.invokevirtual 84, 3) := by decide +kernel
theorem dX4_read_5 : decode cX4_read 5 = .ok (.ifCond .eq 5, 3) := by decide +kernel
theorem dX4_read_8 : decode cX4_read 8 = .ok (.iconst 0, 1) := by decide +kernel
theorem dX4_read_9 : decode cX4_read 9 = .ok (.ireturn, 1) := by decide +kernel
theorem dX4_read_10 : decode cX4_read 10 = .ok (.aload_n 0, 1) := by decide +kernel
theorem dX4_read_11 : decode cX4_read 11 = .ok (.iload_n 1, 1) := by decide +kernel
theorem dX4_read_12 : decode cX4_read 12 = .ok (.invokevirtual 81, 3) := by decide +kernel
theorem dX4_read_15 : decode cX4_read 15 = .ok (.ifCond .ne 5, 3) := by decide +kernel
theorem dX4_read_18 : decode cX4_read 18 = .ok (.iconst (-1), 1) := by decide +kernel
theorem dX4_read_19 : decode cX4_read 19 = .ok (.ireturn, 1) := by decide +kernel
theorem dX4_read_20 : decode cX4_read 20 = .ok (.aload_n 0, 1) := by decide +kernel
theorem dX4_read_21 : decode cX4_read 21 = .ok (.getfield 22, 3) := by decide +kernel
theorem dX4_read_24 : decode cX4_read 24 = .ok (.iload_n 1, 1) := by decide +kernel
theorem dX4_read_25 : decode cX4_read 25 = .ok (.dup2, 1) := by decide +kernel
theorem dX4_read_26 : decode cX4_read 26 = .ok (.iaload, 1) := by decide +kernel
theorem dX4_read_27 : decode cX4_read 27 = .ok (.iconst 1, 1) := by decide +kernel
theorem dX4_read_28 : decode cX4_read 28 = .ok (.iadd, 1) := by decide +kernel
theorem dX4_read_29 : decode cX4_read 29 = .ok (.iastore, 1) := by decide +kernel
theorem dX4_read_30 : decode cX4_read 30 = .ok (.aload_n 0, 1) := by decide +kernel
theorem dX4_read_31 : decode cX4_read 31 = .ok (.getfield 7, 3) := by decide +kernel
theorem dX4_read_34 : decode cX4_read 34 = .ok (.sipush 256, 3) := by decide +kernel
theorem dX4_read_37 : decode cX4_read 37 = .ok (.aload_n 0, 1) := by decide +kernel
theorem dX4_read_38 : decode cX4_read 38 = .ok (.getfield 19, 3) := by decide +kernel
theorem dX4_read_41 : decode cX4_read 41 = .ok (.iload_n 1, 1) := by decide +kernel
theorem dX4_read_42 : decode cX4_read 42 = .ok (.iaload, 1) := by decide +kernel
theorem dX4_read_43 : decode cX4_read 43 = .ok (.imul, 1) := by decide +kernel
theorem dX4_read_44 : decode cX4_read 44 = .ok (.aload_n 0, 1) := by decide +kernel
theorem dX4_read_45 : decode cX4_read 45 = .ok (.getfield 22, 3) := by decide +kernel
theorem dX4_read_48 : decode cX4_read 48 = .ok (.iload_n 1, 1) := by decide +kernel
theorem dX4_read_49 : decode cX4_read 49 = .ok (.iaload, 1) := by decide +kernel
theorem dX4_read_50 : decode cX4_read 50 = .ok (.iadd, 1) := by decide +kernel
theorem dX4_read_51 : decode cX4_read 51 = .ok (.iconst 1, 1) := by decide +kernel
theorem dX4_read_52 : decode cX4_read 52 = .ok (.isub, 1) := by decide +kernel
theorem dX4_read_53 : decode cX4_read 53 = .ok (.iaload, 1) := by decide +kernel
theorem dX4_read_54 : decode cX4_read 54 = .ok (.sipush 255, 3) := by decide +kernel
theorem dX4_read_57 : decode cX4_read 57 = .ok (.iand, 1) := by decide +kernel
theorem dX4_read_58 : decode cX4_read 58 = .ok (.ireturn, 1) := by decide +kernel
theorem dX4_keeps_0 : decode cX4_keeps 0 = .ok (.aload_n 0, 1) := by decide +kernel
theorem dX4_keeps_1 : decode cX4_keeps 1 = .ok (.iload_n 2, 1) := by decide +kernel
theorem dX4_keeps_2 : decode cX4_keeps 2 = .ok (.aload_n 0, 1) := by decide +kernel
theorem dX4_keeps_3 : decode cX4_keeps 3 = .ok (.iload_n 1, 1) := by decide +kernel
theorem dX4_keeps_4 : decode cX4_keeps 4 = .ok (.invokevirtual 81, 3) := by decide +kernel
theorem dX4_keeps_7 : decode cX4_keeps 7 = .ok (.invokevirtual 87, 3) := by decide +kernel
theorem dX4_keeps_10 : decode cX4_keeps 10 = .ok (.istore_n 3, 1) := by decide +kernel
theorem dX4_keeps_11 : decode cX4_keeps 11 = .ok (.iconst 0, 1) := by decide +kernel
theorem dX4_keeps_12 : decode cX4_keeps 12 = .ok (.istore 4, 2) := by decide +kernel
theorem dX4_keeps_14 : decode cX4_keeps 14 = .ok (.iload 4, 2) := by decide +kernel
theorem dX4_keeps_16 : decode cX4_keeps 16 = .ok (.iload_n 3, 1) := by decide +kernel
theorem dX4_keeps_17 : decode cX4_keeps 17 = .ok (.if_icmp .ge 31, 3) := by decide +kernel
theorem dX4_keeps_20 : decode cX4_keeps 20 = .ok (.aload_n 0, 1) := by decide +kernel
theorem dX4_keeps_21 : decode cX4_keeps 21 = .ok (.getfield 34, 3) := by decide +kernel
theorem dX4_keeps_24 : decode cX4_keeps 24 = .ok (.iload 4, 2) := by decide +kernel
theorem dX4_keeps_26 : decode cX4_keeps 26 = .ok (.aload_n 0, 1) := by decide +kernel
theorem dX4_keeps_27 : decode cX4_keeps 27 = .ok (.iload_n 1, 1) := by decide +kernel
theorem dX4_keeps_28 : decode cX4_keeps 28 = .ok (.invokevirtual 91, 3) := by decide +kernel
theorem dX4_keeps_31 : decode cX4_keeps 31 = .ok (.iastore, 1) := by decide +kernel
theorem dX4_keeps_32 : decode cX4_keeps 32 = .ok (.aload_n 0, 1) := by decide +kernel
theorem dX4_keeps_33 : decode cX4_keeps 33 = .ok (.getfield 22, 3) := by decide +kernel
theorem dX4_keeps_36 : decode cX4_keeps 36 = .ok (.iload_n 1, 1) := by decide +kernel
theorem dX4_keeps_37 : decode cX4_keeps 37 = .ok (.dup2, 1) := by decide +kernel
theorem dX4_keeps_38 : decode cX4_keeps 38 = .ok (.iaload, 1) := by decide +kernel
theorem dX4_keeps_39 : decode cX4_keeps 39 = .ok (.iconst 1, 1) := by decide +kernel
theorem dX4_keeps_40 : decode cX4_keeps 40 = .ok (.iadd, 1) := by decide +kernel
theorem dX4_keeps_41 : decode cX4_keeps 41 = .ok (.iastore, 1) := by decide +kernel
theorem dX4_keeps_42 : decode cX4_keeps 42 = .ok (.iinc 4 1, 3) := by decide +kernel
theorem dX4_keeps_45 : decode cX4_keeps 45 = .ok (.goto (-31), 3) := by decide +kernel
theorem dX4_keeps_48 : decode cX4_keeps 48 = .ok (.iload_n 3, 1) := by decide +kernel
theorem dX4_keeps_49 : decode cX4_keeps 49 = .ok (.ireturn, 1) := by decide +kernel
theorem dX4_lays_0 : decode cX4_lays 0 = .ok (.aload_n 0, 1) := by decide +kernel
theorem dX4_lays_1 : decode cX4_lays 1 = .ok (.iload_n 1, 1) := by decide +kernel
theorem dX4_lays_2 : decode cX4_lays 2 = .ok (.iload 4, 2) := by decide +kernel
theorem dX4_lays_4 : decode cX4_lays 4 = .ok (.invokevirtual 94, 3) := by decide +kernel
theorem dX4_lays_7 : decode cX4_lays 7 = .ok (.istore 5, 2) := by decide +kernel
theorem dX4_lays_9 : decode cX4_lays 9 = .ok (.iconst 0, 1) := by decide +kernel
theorem dX4_lays_10 : decode cX4_lays 10 = .ok (.istore 6, 2) := by decide +kernel
theorem dX4_lays_12 : decode cX4_lays 12 = .ok (.iload 6, 2) := by decide +kernel
theorem dX4_lays_14 : decode cX4_lays 14 = .ok (.iload 5, 2) := by decide +kernel
theorem dX4_lays_16 : decode cX4_lays 16 = .ok (.if_icmp .ge 36, 3) := by decide +kernel
theorem dX4_lays_19 : decode cX4_lays 19 = .ok (.aload_n 0, 1) := by decide +kernel
theorem dX4_lays_20 : decode cX4_lays 20 = .ok (.getfield 7, 3) := by decide +kernel
theorem dX4_lays_23 : decode cX4_lays 23 = .ok (.sipush 256, 3) := by decide +kernel
theorem dX4_lays_26 : decode cX4_lays 26 = .ok (.aload_n 0, 1) := by decide +kernel
theorem dX4_lays_27 : decode cX4_lays 27 = .ok (.getfield 16, 3) := by decide +kernel
theorem dX4_lays_30 : decode cX4_lays 30 = .ok (.iload_n 2, 1) := by decide +kernel
theorem dX4_lays_31 : decode cX4_lays 31 = .ok (.iaload, 1) := by decide +kernel
theorem dX4_lays_32 : decode cX4_lays 32 = .ok (.imul, 1) := by decide +kernel
theorem dX4_lays_33 : decode cX4_lays 33 = .ok (.iload_n 3, 1) := by decide +kernel
theorem dX4_lays_34 : decode cX4_lays 34 = .ok (.iadd, 1) := by decide +kernel
theorem dX4_lays_35 : decode cX4_lays 35 = .ok (.iload 6, 2) := by decide +kernel
theorem dX4_lays_37 : decode cX4_lays 37 = .ok (.iadd, 1) := by decide +kernel
theorem dX4_lays_38 : decode cX4_lays 38 = .ok (.aload_n 0, 1) := by decide +kernel
theorem dX4_lays_39 : decode cX4_lays 39 = .ok (.getfield 34, 3) := by decide +kernel
theorem dX4_lays_42 : decode cX4_lays 42 = .ok (.iload 6, 2) := by decide +kernel
theorem dX4_lays_44 : decode cX4_lays 44 = .ok (.iaload, 1) := by decide +kernel
theorem dX4_lays_45 : decode cX4_lays 45 = .ok (.iastore, 1) := by decide +kernel
theorem dX4_lays_46 : decode cX4_lays 46 = .ok (.iinc 6 1, 3) := by decide +kernel
theorem dX4_lays_49 : decode cX4_lays 49 = .ok (.goto (-37), 3) := by decide +kernel
theorem dX4_lays_52 : decode cX4_lays 52 = .ok (.iload 5, 2) := by decide +kernel
theorem dX4_lays_54 : decode cX4_lays 54 = .ok (.ireturn, 1) := by decide +kernel
theorem dX4_readPart_0 : decode cX4_readPart 0 = .ok (.aload_n 0, 1) := by decide +kernel
theorem dX4_readPart_1 : decode cX4_readPart 1 = .ok (.aload_n 0, 1) := by decide +kernel
theorem dX4_readPart_2 : decode cX4_readPart 2 = .ok (.iload_n 1, 1) := by decide +kernel
theorem dX4_readPart_3 : decode cX4_readPart 3 = .ok (.invokevirtual 67, 3) := by decide +kernel
theorem dX4_readPart_6 : decode cX4_readPart 6 = .ok (.ifCond .eq 14, 3) := by decide +kernel
theorem dX4_readPart_9 : decode cX4_readPart 9 = .ok (.aload_n 0, 1) := by decide +kernel
theorem dX4_readPart_10 : decode cX4_readPart 10 = .ok (.iload_n 2, 1) := by decide +kernel
theorem dX4_readPart_11 : decode cX4_readPart 11 = .ok (.iload_n 3, 1) := by decide +kernel
theorem dX4_readPart_12 : decode cX4_readPart 12 = .ok (.iload 4, 2) := by decide +kernel
theorem dX4_readPart_14 : decode cX4_readPart 14 = .ok (.invokevirtual 60, 3) := by decide +kernel
theorem dX4_readPart_17 : decode cX4_readPart 17 = .ok (.ifCond .ne 7, 3) := by decide +kernel
theorem dX4_readPart_20 : decode cX4_readPart 20 = .ok (.iconst 1, 1) := by decide +kernel
theorem dX4_readPart_21 : decode cX4_readPart 21 = .ok (.goto 17, 3) := by decide +kernel
theorem dX4_readPart_24 : decode cX4_readPart 24 = .ok (.aload_n 0, 1) := by decide +kernel
theorem dX4_readPart_25 : decode cX4_readPart 25 = .ok (.getfield 19, 3) := by decide +kernel
theorem dX4_readPart_28 : decode cX4_readPart 28 = .ok (.iload_n 1, 1) := by decide +kernel
theorem dX4_readPart_29 : decode cX4_readPart 29 = .ok (.iaload, 1) := by decide +kernel
theorem dX4_readPart_30 : decode cX4_readPart 30 = .ok (.ifCond .ge 7, 3) := by decide +kernel
theorem dX4_readPart_33 : decode cX4_readPart 33 = .ok (.iconst 2, 1) := by decide +kernel
theorem dX4_readPart_34 : decode cX4_readPart 34 = .ok (.goto 4, 3) := by decide +kernel
theorem dX4_readPart_37 : decode cX4_readPart 37 = .ok (.iconst 0, 1) := by decide +kernel
theorem dX4_readPart_38 : decode cX4_readPart 38 = .ok (.invokevirtual 53, 3) := by decide +kernel
theorem dX4_readPart_41 : decode cX4_readPart 41 = .ok (.ifCond .eq 5, 3) := by decide +kernel
theorem dX4_readPart_44 : decode cX4_readPart 44 = .ok (.iconst 0, 1) := by decide +kernel
theorem dX4_readPart_45 : decode cX4_readPart 45 = .ok (.ireturn, 1) := by decide +kernel
theorem dX4_readPart_46 : decode cX4_readPart 46 = .ok (.aload_n 0, 1) := by decide +kernel
theorem dX4_readPart_47 : decode cX4_readPart 47 = .ok (.iload_n 1, 1) := by decide +kernel
theorem dX4_readPart_48 : decode cX4_readPart 48 = .ok (.invokevirtual 81, 3) := by decide +kernel
theorem dX4_readPart_51 : decode cX4_readPart 51 = .ok (.ifCond .ne 7, 3) := by decide +kernel
theorem dX4_readPart_54 : decode cX4_readPart 54 = .ok (.iconst (-1), 1) := by decide +kernel
theorem dX4_readPart_55 : decode cX4_readPart 55 = .ok (.goto 12, 3) := by decide +kernel
theorem dX4_readPart_58 : decode cX4_readPart 58 = .ok (.aload_n 0, 1) := by decide +kernel
theorem dX4_readPart_59 : decode cX4_readPart 59 = .ok (.iload_n 1, 1) := by decide +kernel
theorem dX4_readPart_60 : decode cX4_readPart 60 = .ok (.iload_n 2, 1) := by decide +kernel
theorem dX4_readPart_61 : decode cX4_readPart 61 = .ok (.iload_n 3, 1) := by decide +kernel
theorem dX4_readPart_62 : decode cX4_readPart 62 = .ok (.iload 4, 2) := by decide +kernel
theorem dX4_readPart_64 : decode cX4_readPart 64 = .ok (.invokevirtual 97, 3) := by decide +kernel
theorem dX4_readPart_67 : decode cX4_readPart 67 = .ok (.ireturn, 1) := by decide +kernel
theorem dX4_readFull_0 : decode cX4_readFull 0 = .ok (.aload_n 0, 1) := by decide +kernel
theorem dX4_readFull_1 : decode cX4_readFull 1 = .ok (.aload_n 0, 1) := by decide +kernel
theorem dX4_readFull_2 : decode cX4_readFull 2 = .ok (.iload_n 1, 1) := by decide +kernel
theorem dX4_readFull_3 : decode cX4_readFull 3 = .ok (.invokevirtual 67, 3) := by decide +kernel
theorem dX4_readFull_6 : decode cX4_readFull 6 = .ok (.ifCond .eq 14, 3) := by decide +kernel
theorem dX4_readFull_9 : decode cX4_readFull 9 = .ok (.aload_n 0, 1) := by decide +kernel
theorem dX4_readFull_10 : decode cX4_readFull 10 = .ok (.iload_n 2, 1) := by decide +kernel
theorem dX4_readFull_11 : decode cX4_readFull 11 = .ok (.iload_n 3, 1) := by decide +kernel
theorem dX4_readFull_12 : decode cX4_readFull 12 = .ok (.iload 4, 2) := by decide +kernel
theorem dX4_readFull_14 : decode cX4_readFull 14 = .ok (.invokevirtual 60, 3) := by decide +kernel
theorem dX4_readFull_17 : decode cX4_readFull 17 = .ok (.ifCond .ne 7, 3) := by decide +kernel
theorem dX4_readFull_20 : decode cX4_readFull 20 = .ok (.iconst 1, 1) := by decide +kernel
theorem dX4_readFull_21 : decode cX4_readFull 21 = .ok (.goto 36, 3) := by decide +kernel
theorem dX4_readFull_24 : decode cX4_readFull 24 = .ok (.aload_n 0, 1) := by decide +kernel
theorem dX4_readFull_25 : decode cX4_readFull 25 = .ok (.getfield 19, 3) := by decide +kernel
theorem dX4_readFull_28 : decode cX4_readFull 28 = .ok (.iload_n 1, 1) := by decide +kernel
theorem dX4_readFull_29 : decode cX4_readFull 29 = .ok (.iaload, 1) := by decide +kernel
theorem dX4_readFull_30 : decode cX4_readFull 30 = .ok (.ifCond .ge 7, 3) := by decide +kernel
theorem dX4_readFull_33 : decode cX4_readFull 33 = .ok (.iconst 2, 1) := by decide +kernel
theorem dX4_readFull_34 : decode cX4_readFull 34 = .ok (.goto 23, 3) := by decide +kernel
theorem dX4_readFull_37 : decode cX4_readFull 37 = .ok (.aload_n 0, 1) := by decide +kernel
theorem dX4_readFull_38 : decode cX4_readFull 38 = .ok (.getfield 19, 3) := by decide +kernel
theorem dX4_readFull_41 : decode cX4_readFull 41 = .ok (.iload_n 1, 1) := by decide +kernel
theorem dX4_readFull_42 : decode cX4_readFull 42 = .ok (.iaload, 1) := by decide +kernel
theorem dX4_readFull_43 : decode cX4_readFull 43 = .ok (.aload_n 0, 1) := by decide +kernel
theorem dX4_readFull_44 : decode cX4_readFull 44 = .ok (.getfield 16, 3) := by decide +kernel
theorem dX4_readFull_47 : decode cX4_readFull 47 = .ok (.iload_n 2, 1) := by decide +kernel
theorem dX4_readFull_48 : decode cX4_readFull 48 = .ok (.iaload, 1) := by decide +kernel
theorem dX4_readFull_49 : decode cX4_readFull 49 = .ok (.if_icmp .ne 7, 3) := by decide +kernel
theorem dX4_readFull_52 : decode cX4_readFull 52 = .ok (.iconst 3, 1) := by decide +kernel
theorem dX4_readFull_53 : decode cX4_readFull 53 = .ok (.goto 4, 3) := by decide +kernel
theorem dX4_readFull_56 : decode cX4_readFull 56 = .ok (.iconst 0, 1) := by decide +kernel
theorem dX4_readFull_57 : decode cX4_readFull 57 = .ok (.invokevirtual 53, 3) := by decide +kernel
theorem dX4_readFull_60 : decode cX4_readFull 60 = .ok (.ifCond .eq 5, 3) := by decide +kernel
theorem dX4_readFull_63 : decode cX4_readFull 63 = .ok (.iconst 0, 1) := by decide +kernel
theorem dX4_readFull_64 : decode cX4_readFull 64 = .ok (.ireturn, 1) := by decide +kernel
theorem dX4_readFull_65 : decode cX4_readFull 65 = .ok (.aload_n 0, 1) := by decide +kernel
theorem dX4_readFull_66 : decode cX4_readFull 66 = .ok (.iload_n 1, 1) := by decide +kernel
theorem dX4_readFull_67 : decode cX4_readFull 67 = .ok (.iload_n 2, 1) := by decide +kernel
theorem dX4_readFull_68 : decode cX4_readFull 68 = .ok (.iload_n 3, 1) := by decide +kernel
theorem dX4_readFull_69 : decode cX4_readFull 69 = .ok (.iload 4, 2) := by decide +kernel
theorem dX4_readFull_71 : decode cX4_readFull 71 = .ok (.invokevirtual 97, 3) := by decide +kernel
theorem dX4_readFull_74 : decode cX4_readFull 74 = .ok (.ireturn, 1) := by decide +kernel
theorem dX4_readSome_0 : decode cX4_readSome 0 = .ok (.aload_n 0, 1) := by decide +kernel
theorem dX4_readSome_1 : decode cX4_readSome 1 = .ok (.aload_n 0, 1) := by decide +kernel
theorem dX4_readSome_2 : decode cX4_readSome 2 = .ok (.iload_n 1, 1) := by decide +kernel
theorem dX4_readSome_3 : decode cX4_readSome 3 = .ok (.invokevirtual 67, 3) := by decide +kernel
theorem dX4_readSome_6 : decode cX4_readSome 6 = .ok (.ifCond .eq 11, 3) := by decide +kernel
theorem dX4_readSome_9 : decode cX4_readSome 9 = .ok (.aload_n 0, 1) := by decide +kernel
theorem dX4_readSome_10 : decode cX4_readSome 10 = .ok (.iload_n 2, 1) := by decide +kernel
theorem dX4_readSome_11 : decode cX4_readSome 11 = .ok (.invokevirtual 41, 3) := by decide +kernel
theorem dX4_readSome_14 : decode cX4_readSome 14 = .ok (.ifCond .ne 7, 3) := by decide +kernel
theorem dX4_readSome_17 : decode cX4_readSome 17 = .ok (.iconst 1, 1) := by decide +kernel
theorem dX4_readSome_18 : decode cX4_readSome 18 = .ok (.goto 25, 3) := by decide +kernel
theorem dX4_readSome_21 : decode cX4_readSome 21 = .ok (.iload_n 3, 1) := by decide +kernel
theorem dX4_readSome_22 : decode cX4_readSome 22 = .ok (.ifCond .ge 7, 3) := by decide +kernel
theorem dX4_readSome_25 : decode cX4_readSome 25 = .ok (.iconst 2, 1) := by decide +kernel
theorem dX4_readSome_26 : decode cX4_readSome 26 = .ok (.goto 17, 3) := by decide +kernel
theorem dX4_readSome_29 : decode cX4_readSome 29 = .ok (.aload_n 0, 1) := by decide +kernel
theorem dX4_readSome_30 : decode cX4_readSome 30 = .ok (.getfield 19, 3) := by decide +kernel
theorem dX4_readSome_33 : decode cX4_readSome 33 = .ok (.iload_n 1, 1) := by decide +kernel
theorem dX4_readSome_34 : decode cX4_readSome 34 = .ok (.iaload, 1) := by decide +kernel
theorem dX4_readSome_35 : decode cX4_readSome 35 = .ok (.ifCond .ge 7, 3) := by decide +kernel
theorem dX4_readSome_38 : decode cX4_readSome 38 = .ok (.iconst 3, 1) := by decide +kernel
theorem dX4_readSome_39 : decode cX4_readSome 39 = .ok (.goto 4, 3) := by decide +kernel
theorem dX4_readSome_42 : decode cX4_readSome 42 = .ok (.iconst 0, 1) := by decide +kernel
theorem dX4_readSome_43 : decode cX4_readSome 43 = .ok (.invokevirtual 53, 3) := by decide +kernel
theorem dX4_readSome_46 : decode cX4_readSome 46 = .ok (.ifCond .eq 5, 3) := by decide +kernel
theorem dX4_readSome_49 : decode cX4_readSome 49 = .ok (.iconst 0, 1) := by decide +kernel
theorem dX4_readSome_50 : decode cX4_readSome 50 = .ok (.ireturn, 1) := by decide +kernel
theorem dX4_readSome_51 : decode cX4_readSome 51 = .ok (.aload_n 0, 1) := by decide +kernel
theorem dX4_readSome_52 : decode cX4_readSome 52 = .ok (.iload_n 1, 1) := by decide +kernel
theorem dX4_readSome_53 : decode cX4_readSome 53 = .ok (.iload_n 3, 1) := by decide +kernel
theorem dX4_readSome_54 : decode cX4_readSome 54 = .ok (.invokevirtual 94, 3) := by decide +kernel
theorem dX4_readSome_57 : decode cX4_readSome 57 = .ok (.istore 4, 2) := by decide +kernel
theorem dX4_readSome_59 : decode cX4_readSome 59 = .ok (.aload_n 0, 1) := by decide +kernel
theorem dX4_readSome_60 : decode cX4_readSome 60 = .ok (.iload_n 2, 1) := by decide +kernel
theorem dX4_readSome_61 : decode cX4_readSome 61 = .ok (.iload 4, 2) := by decide +kernel
theorem dX4_readSome_63 : decode cX4_readSome 63 = .ok (.invokevirtual 56, 3) := by decide +kernel
theorem dX4_readSome_66 : decode cX4_readSome 66 = .ok (.iload 4, 2) := by decide +kernel
theorem dX4_readSome_68 : decode cX4_readSome 68 = .ok (.ireturn, 1) := by decide +kernel
theorem dX4_readNumber_0 : decode cX4_readNumber 0 = .ok (.aload_n 0, 1) := by decide +kernel
theorem dX4_readNumber_1 : decode cX4_readNumber 1 = .ok (.aload_n 0, 1) := by decide +kernel
theorem dX4_readNumber_2 : decode cX4_readNumber 2 = .ok (.iload_n 1, 1) := by decide +kernel
theorem dX4_readNumber_3 : decode cX4_readNumber 3 = .ok (.invokevirtual 67, 3) := by decide +kernel
theorem dX4_readNumber_6 : decode cX4_readNumber 6 = .ok (.ifCond .ne 7, 3) := by decide +kernel
theorem dX4_readNumber_9 : decode cX4_readNumber 9 = .ok (.iconst 1, 1) := by decide +kernel
theorem dX4_readNumber_10 : decode cX4_readNumber 10 = .ok (.goto 30, 3) := by decide +kernel
theorem dX4_readNumber_13 : decode cX4_readNumber 13 = .ok (.aload_n 0, 1) := by decide +kernel
theorem dX4_readNumber_14 : decode cX4_readNumber 14 = .ok (.getfield 19, 3) := by decide +kernel
theorem dX4_readNumber_17 : decode cX4_readNumber 17 = .ok (.iload_n 1, 1) := by decide +kernel
theorem dX4_readNumber_18 : decode cX4_readNumber 18 = .ok (.iaload, 1) := by decide +kernel
theorem dX4_readNumber_19 : decode cX4_readNumber 19 = .ok (.ifCond .ge 7, 3) := by decide +kernel
theorem dX4_readNumber_22 : decode cX4_readNumber 22 = .ok (.iconst 2, 1) := by decide +kernel
theorem dX4_readNumber_23 : decode cX4_readNumber 23 = .ok (.goto 17, 3) := by decide +kernel
theorem dX4_readNumber_26 : decode cX4_readNumber 26 = .ok (.aload_n 0, 1) := by decide +kernel
theorem dX4_readNumber_27 : decode cX4_readNumber 27 = .ok (.iload_n 1, 1) := by decide +kernel
theorem dX4_readNumber_28 : decode cX4_readNumber 28 = .ok (.invokevirtual 81, 3) := by decide +kernel
theorem dX4_readNumber_31 : decode cX4_readNumber 31 = .ok (.iconst 4, 1) := by decide +kernel
theorem dX4_readNumber_32 : decode cX4_readNumber 32 = .ok (.if_icmp .ge 7, 3) := by decide +kernel
theorem dX4_readNumber_35 : decode cX4_readNumber 35 = .ok (.iconst 3, 1) := by decide +kernel
theorem dX4_readNumber_36 : decode cX4_readNumber 36 = .ok (.goto 4, 3) := by decide +kernel
theorem dX4_readNumber_39 : decode cX4_readNumber 39 = .ok (.iconst 0, 1) := by decide +kernel
theorem dX4_readNumber_40 : decode cX4_readNumber 40 = .ok (.invokevirtual 53, 3) := by decide +kernel
theorem dX4_readNumber_43 : decode cX4_readNumber 43 = .ok (.ifCond .eq 5, 3) := by decide +kernel
theorem dX4_readNumber_46 : decode cX4_readNumber 46 = .ok (.iconst 0, 1) := by decide +kernel
theorem dX4_readNumber_47 : decode cX4_readNumber 47 = .ok (.ireturn, 1) := by decide +kernel
theorem dX4_readNumber_48 : decode cX4_readNumber 48 = .ok (.aload_n 0, 1) := by decide +kernel
theorem dX4_readNumber_49 : decode cX4_readNumber 49 = .ok (.iload_n 1, 1) := by decide +kernel
theorem dX4_readNumber_50 : decode cX4_readNumber 50 = .ok (.iconst 4, 1) := by decide +kernel
theorem dX4_readNumber_51 : decode cX4_readNumber 51 = .ok (.invokevirtual 94, 3) := by decide +kernel
theorem dX4_readNumber_54 : decode cX4_readNumber 54 = .ok (.pop, 1) := by decide +kernel
theorem dX4_readNumber_55 : decode cX4_readNumber 55 = .ok (.iconst 0, 1) := by decide +kernel
theorem dX4_readNumber_56 : decode cX4_readNumber 56 = .ok (.istore_n 2, 1) := by decide +kernel
theorem dX4_readNumber_57 : decode cX4_readNumber 57 = .ok (.iconst 0, 1) := by decide +kernel
theorem dX4_readNumber_58 : decode cX4_readNumber 58 = .ok (.istore_n 3, 1) := by decide +kernel
theorem dX4_readNumber_59 : decode cX4_readNumber 59 = .ok (.iload_n 3, 1) := by decide +kernel
theorem dX4_readNumber_60 : decode cX4_readNumber 60 = .ok (.iconst 4, 1) := by decide +kernel
theorem dX4_readNumber_61 : decode cX4_readNumber 61 = .ok (.if_icmp .ge 25, 3) := by decide +kernel
theorem dX4_readNumber_64 : decode cX4_readNumber 64 = .ok (.iload_n 2, 1) := by decide +kernel
theorem dX4_readNumber_65 : decode cX4_readNumber 65 = .ok (.bipush 8, 2) := by decide +kernel
theorem dX4_readNumber_67 : decode cX4_readNumber 67 = .ok (.ishl, 1) := by decide +kernel
theorem dX4_readNumber_68 : decode cX4_readNumber 68 = .ok (.aload_n 0, 1) := by decide +kernel
theorem dX4_readNumber_69 : decode cX4_readNumber 69 = .ok (.getfield 34, 3) := by decide +kernel
theorem dX4_readNumber_72 : decode cX4_readNumber 72 = .ok (.iload_n 3, 1) := by decide +kernel
theorem dX4_readNumber_73 : decode cX4_readNumber 73 = .ok (.iaload, 1) := by decide +kernel
theorem dX4_readNumber_74 : decode cX4_readNumber 74 = .ok (.sipush 255, 3) := by decide +kernel
theorem dX4_readNumber_77 : decode cX4_readNumber 77 = .ok (.iand, 1) := by decide +kernel
theorem dX4_readNumber_78 : decode cX4_readNumber 78 = .ok (.ior, 1) := by decide +kernel
theorem dX4_readNumber_79 : decode cX4_readNumber 79 = .ok (.istore_n 2, 1) := by decide +kernel
theorem dX4_readNumber_80 : decode cX4_readNumber 80 = .ok (.iinc 3 1, 3) := by decide +kernel
theorem dX4_readNumber_83 : decode cX4_readNumber 83 = .ok (.goto (-24), 3) := by decide +kernel
theorem dX4_readNumber_86 : decode cX4_readNumber 86 = .ok (.iload_n 2, 1) := by decide +kernel
theorem dX4_readNumber_87 : decode cX4_readNumber 87 = .ok (.ireturn, 1) := by decide +kernel
theorem dX4_readLine_0 : decode cX4_readLine 0 = .ok (.aload_n 0, 1) := by decide +kernel
theorem dX4_readLine_1 : decode cX4_readLine 1 = .ok (.aload_n 0, 1) := by decide +kernel
theorem dX4_readLine_2 : decode cX4_readLine 2 = .ok (.iload_n 1, 1) := by decide +kernel
theorem dX4_readLine_3 : decode cX4_readLine 3 = .ok (.invokevirtual 67, 3) := by decide +kernel
theorem dX4_readLine_6 : decode cX4_readLine 6 = .ok (.ifCond .eq 11, 3) := by decide +kernel
theorem dX4_readLine_9 : decode cX4_readLine 9 = .ok (.aload_n 0, 1) := by decide +kernel
theorem dX4_readLine_10 : decode cX4_readLine 10 = .ok (.iload_n 2, 1) := by decide +kernel
theorem dX4_readLine_11 : decode cX4_readLine 11 = .ok (.invokevirtual 41, 3) := by decide +kernel
theorem dX4_readLine_14 : decode cX4_readLine 14 = .ok (.ifCond .ne 7, 3) := by decide +kernel
theorem dX4_readLine_17 : decode cX4_readLine 17 = .ok (.iconst 1, 1) := by decide +kernel
theorem dX4_readLine_18 : decode cX4_readLine 18 = .ok (.goto 17, 3) := by decide +kernel
theorem dX4_readLine_21 : decode cX4_readLine 21 = .ok (.aload_n 0, 1) := by decide +kernel
theorem dX4_readLine_22 : decode cX4_readLine 22 = .ok (.getfield 19, 3) := by decide +kernel
theorem dX4_readLine_25 : decode cX4_readLine 25 = .ok (.iload_n 1, 1) := by decide +kernel
theorem dX4_readLine_26 : decode cX4_readLine 26 = .ok (.iaload, 1) := by decide +kernel
theorem dX4_readLine_27 : decode cX4_readLine 27 = .ok (.ifCond .ge 7, 3) := by decide +kernel
theorem dX4_readLine_30 : decode cX4_readLine 30 = .ok (.iconst 2, 1) := by decide +kernel
theorem dX4_readLine_31 : decode cX4_readLine 31 = .ok (.goto 4, 3) := by decide +kernel
theorem dX4_readLine_34 : decode cX4_readLine 34 = .ok (.iconst 0, 1) := by decide +kernel
theorem dX4_readLine_35 : decode cX4_readLine 35 = .ok (.invokevirtual 53, 3) := by decide +kernel
theorem dX4_readLine_38 : decode cX4_readLine 38 = .ok (.ifCond .eq 5, 3) := by decide +kernel
theorem dX4_readLine_41 : decode cX4_readLine 41 = .ok (.iconst 0, 1) := by decide +kernel
theorem dX4_readLine_42 : decode cX4_readLine 42 = .ok (.ireturn, 1) := by decide +kernel
theorem dX4_readLine_43 : decode cX4_readLine 43 = .ok (.aload_n 0, 1) := by decide +kernel
theorem dX4_readLine_44 : decode cX4_readLine 44 = .ok (.iload_n 1, 1) := by decide +kernel
theorem dX4_readLine_45 : decode cX4_readLine 45 = .ok (.invokevirtual 81, 3) := by decide +kernel
theorem dX4_readLine_48 : decode cX4_readLine 48 = .ok (.ifCond .ne 5, 3) := by decide +kernel
theorem dX4_readLine_51 : decode cX4_readLine 51 = .ok (.iconst (-1), 1) := by decide +kernel
theorem dX4_readLine_52 : decode cX4_readLine 52 = .ok (.ireturn, 1) := by decide +kernel
theorem dX4_readLine_53 : decode cX4_readLine 53 = .ok (.iconst 0, 1) := by decide +kernel
theorem dX4_readLine_54 : decode cX4_readLine 54 = .ok (.istore_n 3, 1) := by decide +kernel
theorem dX4_readLine_55 : decode cX4_readLine 55 = .ok (.iload_n 3, 1) := by decide +kernel
theorem dX4_readLine_56 : decode cX4_readLine 56 = .ok (.aload_n 0, 1) := by decide +kernel
theorem dX4_readLine_57 : decode cX4_readLine 57 = .ok (.iload_n 1, 1) := by decide +kernel
theorem dX4_readLine_58 : decode cX4_readLine 58 = .ok (.invokevirtual 81, 3) := by decide +kernel
theorem dX4_readLine_61 : decode cX4_readLine 61 = .ok (.if_icmp .ge 38, 3) := by decide +kernel
theorem dX4_readLine_64 : decode cX4_readLine 64 = .ok (.aload_n 0, 1) := by decide +kernel
theorem dX4_readLine_65 : decode cX4_readLine 65 = .ok (.getfield 7, 3) := by decide +kernel
theorem dX4_readLine_68 : decode cX4_readLine 68 = .ok (.sipush 256, 3) := by decide +kernel
theorem dX4_readLine_71 : decode cX4_readLine 71 = .ok (.aload_n 0, 1) := by decide +kernel
theorem dX4_readLine_72 : decode cX4_readLine 72 = .ok (.getfield 19, 3) := by decide +kernel
theorem dX4_readLine_75 : decode cX4_readLine 75 = .ok (.iload_n 1, 1) := by decide +kernel
theorem dX4_readLine_76 : decode cX4_readLine 76 = .ok (.iaload, 1) := by decide +kernel
theorem dX4_readLine_77 : decode cX4_readLine 77 = .ok (.imul, 1) := by decide +kernel
theorem dX4_readLine_78 : decode cX4_readLine 78 = .ok (.aload_n 0, 1) := by decide +kernel
theorem dX4_readLine_79 : decode cX4_readLine 79 = .ok (.getfield 22, 3) := by decide +kernel
theorem dX4_readLine_82 : decode cX4_readLine 82 = .ok (.iload_n 1, 1) := by decide +kernel
theorem dX4_readLine_83 : decode cX4_readLine 83 = .ok (.iaload, 1) := by decide +kernel
theorem dX4_readLine_84 : decode cX4_readLine 84 = .ok (.iadd, 1) := by decide +kernel
theorem dX4_readLine_85 : decode cX4_readLine 85 = .ok (.iload_n 3, 1) := by decide +kernel
theorem dX4_readLine_86 : decode cX4_readLine 86 = .ok (.iadd, 1) := by decide +kernel
theorem dX4_readLine_87 : decode cX4_readLine 87 = .ok (.iaload, 1) := by decide +kernel
theorem dX4_readLine_88 : decode cX4_readLine 88 = .ok (.bipush 10, 2) := by decide +kernel
theorem dX4_readLine_90 : decode cX4_readLine 90 = .ok (.if_icmp .eq 9, 3) := by decide +kernel
theorem dX4_readLine_93 : decode cX4_readLine 93 = .ok (.iinc 3 1, 3) := by decide +kernel
theorem dX4_readLine_96 : decode cX4_readLine 96 = .ok (.goto (-41), 3) := by decide +kernel
theorem dX4_readLine_99 : decode cX4_readLine 99 = .ok (.aload_n 0, 1) := by decide +kernel
theorem dX4_readLine_100 : decode cX4_readLine 100 = .ok (.iload_n 1, 1) := by decide +kernel
theorem dX4_readLine_101 : decode cX4_readLine 101 = .ok (.iload_n 3, 1) := by decide +kernel
theorem dX4_readLine_102 : decode cX4_readLine 102 = .ok (.invokevirtual 94, 3) := by decide +kernel
theorem dX4_readLine_105 : decode cX4_readLine 105 = .ok (.pop, 1) := by decide +kernel
theorem dX4_readLine_106 : decode cX4_readLine 106 = .ok (.aload_n 0, 1) := by decide +kernel
theorem dX4_readLine_107 : decode cX4_readLine 107 = .ok (.iload_n 1, 1) := by decide +kernel
theorem dX4_readLine_108 : decode cX4_readLine 108 = .ok (.invokevirtual 81, 3) := by decide +kernel
theorem dX4_readLine_111 : decode cX4_readLine 111 = .ok (.ifCond .le 13, 3) := by decide +kernel
theorem dX4_readLine_114 : decode cX4_readLine 114 = .ok (.aload_n 0, 1) := by decide +kernel
theorem dX4_readLine_115 : decode cX4_readLine 115 = .ok (.getfield 22, 3) := by decide +kernel
theorem dX4_readLine_118 : decode cX4_readLine 118 = .ok (.iload_n 1, 1) := by decide +kernel
theorem dX4_readLine_119 : decode cX4_readLine 119 = .ok (.dup2, 1) := by decide +kernel
theorem dX4_readLine_120 : decode cX4_readLine 120 = .ok (.iaload, 1) := by decide +kernel
theorem dX4_readLine_121 : decode cX4_readLine 121 = .ok (.iconst 1, 1) := by decide +kernel
theorem dX4_readLine_122 : decode cX4_readLine 122 = .ok (.iadd, 1) := by decide +kernel
theorem dX4_readLine_123 : decode cX4_readLine 123 = .ok (.iastore, 1) := by decide +kernel
theorem dX4_readLine_124 : decode cX4_readLine 124 = .ok (.aload_n 0, 1) := by decide +kernel
theorem dX4_readLine_125 : decode cX4_readLine 125 = .ok (.iload_n 2, 1) := by decide +kernel
theorem dX4_readLine_126 : decode cX4_readLine 126 = .ok (.iload_n 3, 1) := by decide +kernel
theorem dX4_readLine_127 : decode cX4_readLine 127 = .ok (.invokevirtual 56, 3) := by decide +kernel
theorem dX4_readLine_130 : decode cX4_readLine 130 = .ok (.iload_n 3, 1) := by decide +kernel
theorem dX4_readLine_131 : decode cX4_readLine 131 = .ok (.ireturn, 1) := by decide +kernel
theorem dX4_find_0 : decode cX4_find 0 = .ok (.aload_n 0, 1) := by decide +kernel
theorem dX4_find_1 : decode cX4_find 1 = .ok (.iload_n 1, 1) := by decide +kernel
theorem dX4_find_2 : decode cX4_find 2 = .ok (.invokevirtual 84, 3) := by decide +kernel
theorem dX4_find_5 : decode cX4_find 5 = .ok (.ifCond .eq 5, 3) := by decide +kernel
theorem dX4_find_8 : decode cX4_find 8 = .ok (.iconst 0, 1) := by decide +kernel
theorem dX4_find_9 : decode cX4_find 9 = .ok (.ireturn, 1) := by decide +kernel
theorem dX4_find_10 : decode cX4_find 10 = .ok (.iconst 0, 1) := by decide +kernel
theorem dX4_find_11 : decode cX4_find 11 = .ok (.istore_n 3, 1) := by decide +kernel
theorem dX4_find_12 : decode cX4_find 12 = .ok (.iconst 0, 1) := by decide +kernel
theorem dX4_find_13 : decode cX4_find 13 = .ok (.istore 4, 2) := by decide +kernel
theorem dX4_find_15 : decode cX4_find 15 = .ok (.iload 4, 2) := by decide +kernel
theorem dX4_find_17 : decode cX4_find 17 = .ok (.ifCond .ne 47, 3) := by decide +kernel
theorem dX4_find_20 : decode cX4_find 20 = .ok (.aload_n 0, 1) := by decide +kernel
theorem dX4_find_21 : decode cX4_find 21 = .ok (.iload_n 1, 1) := by decide +kernel
theorem dX4_find_22 : decode cX4_find 22 = .ok (.invokevirtual 81, 3) := by decide +kernel
theorem dX4_find_25 : decode cX4_find 25 = .ok (.ifCond .le 39, 3) := by decide +kernel
theorem dX4_find_28 : decode cX4_find 28 = .ok (.aload_n 0, 1) := by decide +kernel
theorem dX4_find_29 : decode cX4_find 29 = .ok (.iload_n 1, 1) := by decide +kernel
theorem dX4_find_30 : decode cX4_find 30 = .ok (.invokevirtual 91, 3) := by decide +kernel
theorem dX4_find_33 : decode cX4_find 33 = .ok (.sipush 255, 3) := by decide +kernel
theorem dX4_find_36 : decode cX4_find 36 = .ok (.iand, 1) := by decide +kernel
theorem dX4_find_37 : decode cX4_find 37 = .ok (.iload_n 2, 1) := by decide +kernel
theorem dX4_find_38 : decode cX4_find 38 = .ok (.if_icmp .ne 7, 3) := by decide +kernel
theorem dX4_find_41 : decode cX4_find 41 = .ok (.iconst 1, 1) := by decide +kernel
theorem dX4_find_42 : decode cX4_find 42 = .ok (.goto 4, 3) := by decide +kernel
theorem dX4_find_45 : decode cX4_find 45 = .ok (.iconst 0, 1) := by decide +kernel
theorem dX4_find_46 : decode cX4_find 46 = .ok (.istore 4, 2) := by decide +kernel
theorem dX4_find_48 : decode cX4_find 48 = .ok (.aload_n 0, 1) := by decide +kernel
theorem dX4_find_49 : decode cX4_find 49 = .ok (.getfield 22, 3) := by decide +kernel
theorem dX4_find_52 : decode cX4_find 52 = .ok (.iload_n 1, 1) := by decide +kernel
theorem dX4_find_53 : decode cX4_find 53 = .ok (.dup2, 1) := by decide +kernel
theorem dX4_find_54 : decode cX4_find 54 = .ok (.iaload, 1) := by decide +kernel
theorem dX4_find_55 : decode cX4_find 55 = .ok (.iconst 1, 1) := by decide +kernel
theorem dX4_find_56 : decode cX4_find 56 = .ok (.iadd, 1) := by decide +kernel
theorem dX4_find_57 : decode cX4_find 57 = .ok (.iastore, 1) := by decide +kernel
theorem dX4_find_58 : decode cX4_find 58 = .ok (.iinc 3 1, 3) := by decide +kernel
theorem dX4_find_61 : decode cX4_find 61 = .ok (.goto (-46), 3) := by decide +kernel
theorem dX4_find_64 : decode cX4_find 64 = .ok (.iload 4, 2) := by decide +kernel
theorem dX4_find_66 : decode cX4_find 66 = .ok (.ifCond .eq 7, 3) := by decide +kernel
theorem dX4_find_69 : decode cX4_find 69 = .ok (.iload_n 3, 1) := by decide +kernel
theorem dX4_find_70 : decode cX4_find 70 = .ok (.goto 6, 3) := by decide +kernel
theorem dX4_find_73 : decode cX4_find 73 = .ok (.iconst (-1), 1) := by decide +kernel
theorem dX4_find_74 : decode cX4_find 74 = .ok (.iload_n 3, 1) := by decide +kernel
theorem dX4_find_75 : decode cX4_find 75 = .ok (.isub, 1) := by decide +kernel
theorem dX4_find_76 : decode cX4_find 76 = .ok (.ireturn, 1) := by decide +kernel
theorem dX4_skip_0 : decode cX4_skip 0 = .ok (.aload_n 0, 1) := by decide +kernel
theorem dX4_skip_1 : decode cX4_skip 1 = .ok (.aload_n 0, 1) := by decide +kernel
theorem dX4_skip_2 : decode cX4_skip 2 = .ok (.iload_n 1, 1) := by decide +kernel
theorem dX4_skip_3 : decode cX4_skip 3 = .ok (.invokevirtual 67, 3) := by decide +kernel
theorem dX4_skip_6 : decode cX4_skip 6 = .ok (.ifCond .ne 7, 3) := by decide +kernel
theorem dX4_skip_9 : decode cX4_skip 9 = .ok (.iconst 1, 1) := by decide +kernel
theorem dX4_skip_10 : decode cX4_skip 10 = .ok (.goto 27, 3) := by decide +kernel
theorem dX4_skip_13 : decode cX4_skip 13 = .ok (.lload_n 2, 1) := by decide +kernel
theorem dX4_skip_14 : decode cX4_skip 14 = .ok (.lconst 0, 1) := by decide +kernel
theorem dX4_skip_15 : decode cX4_skip 15 = .ok (.lcmp, 1) := by decide +kernel
theorem dX4_skip_16 : decode cX4_skip 16 = .ok (.ifCond .ge 7, 3) := by decide +kernel
theorem dX4_skip_19 : decode cX4_skip 19 = .ok (.iconst 2, 1) := by decide +kernel
theorem dX4_skip_20 : decode cX4_skip 20 = .ok (.goto 17, 3) := by decide +kernel
theorem dX4_skip_23 : decode cX4_skip 23 = .ok (.aload_n 0, 1) := by decide +kernel
theorem dX4_skip_24 : decode cX4_skip 24 = .ok (.getfield 19, 3) := by decide +kernel
theorem dX4_skip_27 : decode cX4_skip 27 = .ok (.iload_n 1, 1) := by decide +kernel
theorem dX4_skip_28 : decode cX4_skip 28 = .ok (.iaload, 1) := by decide +kernel
theorem dX4_skip_29 : decode cX4_skip 29 = .ok (.ifCond .ge 7, 3) := by decide +kernel
theorem dX4_skip_32 : decode cX4_skip 32 = .ok (.iconst 3, 1) := by decide +kernel
theorem dX4_skip_33 : decode cX4_skip 33 = .ok (.goto 4, 3) := by decide +kernel
theorem dX4_skip_36 : decode cX4_skip 36 = .ok (.iconst 0, 1) := by decide +kernel
theorem dX4_skip_37 : decode cX4_skip 37 = .ok (.invokevirtual 53, 3) := by decide +kernel
theorem dX4_skip_40 : decode cX4_skip 40 = .ok (.ifCond .eq 5, 3) := by decide +kernel
theorem dX4_skip_43 : decode cX4_skip 43 = .ok (.lconst 0, 1) := by decide +kernel
theorem dX4_skip_44 : decode cX4_skip 44 = .ok (.lreturn, 1) := by decide +kernel
theorem dX4_skip_45 : decode cX4_skip 45 = .ok (.lload_n 2, 1) := by decide +kernel
theorem dX4_skip_46 : decode cX4_skip 46 = .ok (.aload_n 0, 1) := by decide +kernel
theorem dX4_skip_47 : decode cX4_skip 47 = .ok (.iload_n 1, 1) := by decide +kernel
theorem dX4_skip_48 : decode cX4_skip 48 = .ok (.invokevirtual 81, 3) := by decide +kernel
theorem dX4_skip_51 : decode cX4_skip 51 = .ok (.i2l, 1) := by decide +kernel
theorem dX4_skip_52 : decode cX4_skip 52 = .ok (.lcmp, 1) := by decide +kernel
theorem dX4_skip_53 : decode cX4_skip 53 = .ok (.ifCond .ge 8, 3) := by decide +kernel
theorem dX4_skip_56 : decode cX4_skip 56 = .ok (.lload_n 2, 1) := by decide +kernel
theorem dX4_skip_57 : decode cX4_skip 57 = .ok (.l2i, 1) := by decide +kernel
theorem dX4_skip_58 : decode cX4_skip 58 = .ok (.goto 8, 3) := by decide +kernel
theorem dX4_skip_61 : decode cX4_skip 61 = .ok (.aload_n 0, 1) := by decide +kernel
theorem dX4_skip_62 : decode cX4_skip 62 = .ok (.iload_n 1, 1) := by decide +kernel
theorem dX4_skip_63 : decode cX4_skip 63 = .ok (.invokevirtual 81, 3) := by decide +kernel
theorem dX4_skip_66 : decode cX4_skip 66 = .ok (.istore 4, 2) := by decide +kernel
theorem dX4_skip_68 : decode cX4_skip 68 = .ok (.aload_n 0, 1) := by decide +kernel
theorem dX4_skip_69 : decode cX4_skip 69 = .ok (.getfield 22, 3) := by decide +kernel
theorem dX4_skip_72 : decode cX4_skip 72 = .ok (.iload_n 1, 1) := by decide +kernel
theorem dX4_skip_73 : decode cX4_skip 73 = .ok (.dup2, 1) := by decide +kernel
theorem dX4_skip_74 : decode cX4_skip 74 = .ok (.iaload, 1) := by decide +kernel
theorem dX4_skip_75 : decode cX4_skip 75 = .ok (.iload 4, 2) := by decide +kernel
theorem dX4_skip_77 : decode cX4_skip 77 = .ok (.iadd, 1) := by decide +kernel
theorem dX4_skip_78 : decode cX4_skip 78 = .ok (.iastore, 1) := by decide +kernel
theorem dX4_skip_79 : decode cX4_skip 79 = .ok (.iload 4, 2) := by decide +kernel
theorem dX4_skip_81 : decode cX4_skip 81 = .ok (.i2l, 1) := by decide +kernel
theorem dX4_skip_82 : decode cX4_skip 82 = .ok (.lreturn, 1) := by decide +kernel
theorem dX4_left_0 : decode cX4_left 0 = .ok (.aload_n 0, 1) := by decide +kernel
theorem dX4_left_1 : decode cX4_left 1 = .ok (.iload_n 1, 1) := by decide +kernel
theorem dX4_left_2 : decode cX4_left 2 = .ok (.invokevirtual 84, 3) := by decide +kernel
theorem dX4_left_5 : decode cX4_left 5 = .ok (.ifCond .eq 7, 3) := by decide +kernel
theorem dX4_left_8 : decode cX4_left 8 = .ok (.iconst 0, 1) := by decide +kernel
theorem dX4_left_9 : decode cX4_left 9 = .ok (.goto 8, 3) := by decide +kernel
theorem dX4_left_12 : decode cX4_left 12 = .ok (.aload_n 0, 1) := by decide +kernel
theorem dX4_left_13 : decode cX4_left 13 = .ok (.iload_n 1, 1) := by decide +kernel
theorem dX4_left_14 : decode cX4_left 14 = .ok (.invokevirtual 81, 3) := by decide +kernel
theorem dX4_left_17 : decode cX4_left 17 = .ok (.ireturn, 1) := by decide +kernel
theorem dX4_mark_0 : decode cX4_mark 0 = .ok (.aload_n 0, 1) := by decide +kernel
theorem dX4_mark_1 : decode cX4_mark 1 = .ok (.iload_n 1, 1) := by decide +kernel
theorem dX4_mark_2 : decode cX4_mark 2 = .ok (.invokevirtual 84, 3) := by decide +kernel
theorem dX4_mark_5 : decode cX4_mark 5 = .ok (.ifCond .eq 5, 3) := by decide +kernel
theorem dX4_mark_8 : decode cX4_mark 8 = .ok (.iconst 0, 1) := by decide +kernel
theorem dX4_mark_9 : decode cX4_mark 9 = .ok (.ireturn, 1) := by decide +kernel
theorem dX4_mark_10 : decode cX4_mark 10 = .ok (.aload_n 0, 1) := by decide +kernel
theorem dX4_mark_11 : decode cX4_mark 11 = .ok (.getfield 25, 3) := by decide +kernel
theorem dX4_mark_14 : decode cX4_mark 14 = .ok (.iload_n 1, 1) := by decide +kernel
theorem dX4_mark_15 : decode cX4_mark 15 = .ok (.aload_n 0, 1) := by decide +kernel
theorem dX4_mark_16 : decode cX4_mark 16 = .ok (.getfield 22, 3) := by decide +kernel
theorem dX4_mark_19 : decode cX4_mark 19 = .ok (.iload_n 1, 1) := by decide +kernel
theorem dX4_mark_20 : decode cX4_mark 20 = .ok (.iaload, 1) := by decide +kernel
theorem dX4_mark_21 : decode cX4_mark 21 = .ok (.iastore, 1) := by decide +kernel
theorem dX4_mark_22 : decode cX4_mark 22 = .ok (.aload_n 0, 1) := by decide +kernel
theorem dX4_mark_23 : decode cX4_mark 23 = .ok (.iload_n 1, 1) := by decide +kernel
theorem dX4_mark_24 : decode cX4_mark 24 = .ok (.invokevirtual 81, 3) := by decide +kernel
theorem dX4_mark_27 : decode cX4_mark 27 = .ok (.ireturn, 1) := by decide +kernel
theorem dX4_back_0 : decode cX4_back 0 = .ok (.aload_n 0, 1) := by decide +kernel
theorem dX4_back_1 : decode cX4_back 1 = .ok (.iload_n 1, 1) := by decide +kernel
theorem dX4_back_2 : decode cX4_back 2 = .ok (.invokevirtual 84, 3) := by decide +kernel
theorem dX4_back_5 : decode cX4_back 5 = .ok (.ifCond .eq 5, 3) := by decide +kernel
theorem dX4_back_8 : decode cX4_back 8 = .ok (.iconst 0, 1) := by decide +kernel
theorem dX4_back_9 : decode cX4_back 9 = .ok (.ireturn, 1) := by decide +kernel
theorem dX4_back_10 : decode cX4_back 10 = .ok (.aload_n 0, 1) := by decide +kernel
theorem dX4_back_11 : decode cX4_back 11 = .ok (.getfield 22, 3) := by decide +kernel
theorem dX4_back_14 : decode cX4_back 14 = .ok (.iload_n 1, 1) := by decide +kernel
theorem dX4_back_15 : decode cX4_back 15 = .ok (.aload_n 0, 1) := by decide +kernel
theorem dX4_back_16 : decode cX4_back 16 = .ok (.getfield 25, 3) := by decide +kernel
theorem dX4_back_19 : decode cX4_back 19 = .ok (.iload_n 1, 1) := by decide +kernel
theorem dX4_back_20 : decode cX4_back 20 = .ok (.iaload, 1) := by decide +kernel
theorem dX4_back_21 : decode cX4_back 21 = .ok (.iastore, 1) := by decide +kernel
theorem dX4_back_22 : decode cX4_back 22 = .ok (.aload_n 0, 1) := by decide +kernel
theorem dX4_back_23 : decode cX4_back 23 = .ok (.iload_n 1, 1) := by decide +kernel
theorem dX4_back_24 : decode cX4_back 24 = .ok (.invokevirtual 81, 3) := by decide +kernel
theorem dX4_back_27 : decode cX4_back 27 = .ok (.ireturn, 1) := by decide +kernel
theorem dX4_pour_0 : decode cX4_pour 0 = .ok (.aload_n 0, 1) := by decide +kernel
theorem dX4_pour_1 : decode cX4_pour 1 = .ok (.aload_n 0, 1) := by decide +kernel
theorem dX4_pour_2 : decode cX4_pour 2 = .ok (.iload_n 1, 1) := by decide +kernel
theorem dX4_pour_3 : decode cX4_pour 3 = .ok (.invokevirtual 67, 3) := by decide +kernel
theorem dX4_pour_6 : decode cX4_pour 6 = .ok (.ifCond .eq 11, 3) := by decide +kernel
theorem dX4_pour_9 : decode cX4_pour 9 = .ok (.aload_n 0, 1) := by decide +kernel
theorem dX4_pour_10 : decode cX4_pour 10 = .ok (.iload_n 2, 1) := by decide +kernel
theorem dX4_pour_11 : decode cX4_pour 11 = .ok (.invokevirtual 67, 3) := by decide +kernel
theorem dX4_pour_14 : decode cX4_pour 14 = .ok (.ifCond .ne 7, 3) := by decide +kernel
theorem dX4_pour_17 : decode cX4_pour 17 = .ok (.iconst 1, 1) := by decide +kernel
theorem dX4_pour_18 : decode cX4_pour 18 = .ok (.goto 34, 3) := by decide +kernel
theorem dX4_pour_21 : decode cX4_pour 21 = .ok (.aload_n 0, 1) := by decide +kernel
theorem dX4_pour_22 : decode cX4_pour 22 = .ok (.getfield 19, 3) := by decide +kernel
theorem dX4_pour_25 : decode cX4_pour 25 = .ok (.iload_n 1, 1) := by decide +kernel
theorem dX4_pour_26 : decode cX4_pour 26 = .ok (.iaload, 1) := by decide +kernel
theorem dX4_pour_27 : decode cX4_pour 27 = .ok (.ifCond .ge 7, 3) := by decide +kernel
theorem dX4_pour_30 : decode cX4_pour 30 = .ok (.iconst 2, 1) := by decide +kernel
theorem dX4_pour_31 : decode cX4_pour 31 = .ok (.goto 21, 3) := by decide +kernel
theorem dX4_pour_34 : decode cX4_pour 34 = .ok (.aload_n 0, 1) := by decide +kernel
theorem dX4_pour_35 : decode cX4_pour 35 = .ok (.iload_n 2, 1) := by decide +kernel
theorem dX4_pour_36 : decode cX4_pour 36 = .ok (.aload_n 0, 1) := by decide +kernel
theorem dX4_pour_37 : decode cX4_pour 37 = .ok (.iload_n 1, 1) := by decide +kernel
theorem dX4_pour_38 : decode cX4_pour 38 = .ok (.invokevirtual 81, 3) := by decide +kernel
theorem dX4_pour_41 : decode cX4_pour 41 = .ok (.invokevirtual 70, 3) := by decide +kernel
theorem dX4_pour_44 : decode cX4_pour 44 = .ok (.ifCond .eq 7, 3) := by decide +kernel
theorem dX4_pour_47 : decode cX4_pour 47 = .ok (.iconst 3, 1) := by decide +kernel
theorem dX4_pour_48 : decode cX4_pour 48 = .ok (.goto 4, 3) := by decide +kernel
theorem dX4_pour_51 : decode cX4_pour 51 = .ok (.iconst 0, 1) := by decide +kernel
theorem dX4_pour_52 : decode cX4_pour 52 = .ok (.invokevirtual 53, 3) := by decide +kernel
theorem dX4_pour_55 : decode cX4_pour 55 = .ok (.ifCond .eq 5, 3) := by decide +kernel
theorem dX4_pour_58 : decode cX4_pour 58 = .ok (.iconst 0, 1) := by decide +kernel
theorem dX4_pour_59 : decode cX4_pour 59 = .ok (.ireturn, 1) := by decide +kernel
theorem dX4_pour_60 : decode cX4_pour 60 = .ok (.aload_n 0, 1) := by decide +kernel
theorem dX4_pour_61 : decode cX4_pour 61 = .ok (.iload_n 1, 1) := by decide +kernel
theorem dX4_pour_62 : decode cX4_pour 62 = .ok (.sipush 256, 3) := by decide +kernel
theorem dX4_pour_65 : decode cX4_pour 65 = .ok (.invokevirtual 94, 3) := by decide +kernel
theorem dX4_pour_68 : decode cX4_pour 68 = .ok (.istore_n 3, 1) := by decide +kernel
theorem dX4_pour_69 : decode cX4_pour 69 = .ok (.iconst 0, 1) := by decide +kernel
theorem dX4_pour_70 : decode cX4_pour 70 = .ok (.istore 4, 2) := by decide +kernel
theorem dX4_pour_72 : decode cX4_pour 72 = .ok (.iload 4, 2) := by decide +kernel
theorem dX4_pour_74 : decode cX4_pour 74 = .ok (.iload_n 3, 1) := by decide +kernel
theorem dX4_pour_75 : decode cX4_pour 75 = .ok (.if_icmp .ge 21, 3) := by decide +kernel
theorem dX4_pour_78 : decode cX4_pour 78 = .ok (.aload_n 0, 1) := by decide +kernel
theorem dX4_pour_79 : decode cX4_pour 79 = .ok (.iload_n 2, 1) := by decide +kernel
theorem dX4_pour_80 : decode cX4_pour 80 = .ok (.aload_n 0, 1) := by decide +kernel
theorem dX4_pour_81 : decode cX4_pour 81 = .ok (.getfield 34, 3) := by decide +kernel
theorem dX4_pour_84 : decode cX4_pour 84 = .ok (.iload 4, 2) := by decide +kernel
theorem dX4_pour_86 : decode cX4_pour 86 = .ok (.iaload, 1) := by decide +kernel
theorem dX4_pour_87 : decode cX4_pour 87 = .ok (.invokevirtual 74, 3) := by decide +kernel
theorem dX4_pour_90 : decode cX4_pour 90 = .ok (.iinc 4 1, 3) := by decide +kernel
theorem dX4_pour_93 : decode cX4_pour 93 = .ok (.goto (-21), 3) := by decide +kernel
theorem dX4_pour_96 : decode cX4_pour 96 = .ok (.iload_n 3, 1) := by decide +kernel
theorem dX4_pour_97 : decode cX4_pour 97 = .ok (.ireturn, 1) := by decide +kernel
theorem dX4_pourParts_0 : decode cX4_pourParts 0 = .ok (.aload_n 0, 1) := by decide +kernel
theorem dX4_pourParts_1 : decode cX4_pourParts 1 = .ok (.aload_n 0, 1) := by decide +kernel
theorem dX4_pourParts_2 : decode cX4_pourParts 2 = .ok (.iload_n 1, 1) := by decide +kernel
theorem dX4_pourParts_3 : decode cX4_pourParts 3 = .ok (.invokevirtual 67, 3) := by decide +kernel
theorem dX4_pourParts_6 : decode cX4_pourParts 6 = .ok (.ifCond .eq 11, 3) := by decide +kernel
theorem dX4_pourParts_9 : decode cX4_pourParts 9 = .ok (.aload_n 0, 1) := by decide +kernel
theorem dX4_pourParts_10 : decode cX4_pourParts 10 = .ok (.iload_n 2, 1) := by decide +kernel
theorem dX4_pourParts_11 : decode cX4_pourParts 11 = .ok (.invokevirtual 67, 3) := by decide +kernel
theorem dX4_pourParts_14 : decode cX4_pourParts 14 = .ok (.ifCond .ne 7, 3) := by decide +kernel
theorem dX4_pourParts_17 : decode cX4_pourParts 17 = .ok (.iconst 1, 1) := by decide +kernel
theorem dX4_pourParts_18 : decode cX4_pourParts 18 = .ok (.goto 49, 3) := by decide +kernel
theorem dX4_pourParts_21 : decode cX4_pourParts 21 = .ok (.iload_n 3, 1) := by decide +kernel
theorem dX4_pourParts_22 : decode cX4_pourParts 22 = .ok (.iconst 1, 1) := by decide +kernel
theorem dX4_pourParts_23 : decode cX4_pourParts 23 = .ok (.if_icmp .lt 9, 3) := by decide +kernel
theorem dX4_pourParts_26 : decode cX4_pourParts 26 = .ok (.iload_n 3, 1) := by decide +kernel
theorem dX4_pourParts_27 : decode cX4_pourParts 27 = .ok (.bipush 64, 2) := by decide +kernel
theorem dX4_pourParts_29 : decode cX4_pourParts 29 = .ok (.if_icmp .le 7, 3) := by decide +kernel
theorem dX4_pourParts_32 : decode cX4_pourParts 32 = .ok (.iconst 2, 1) := by decide +kernel
theorem dX4_pourParts_33 : decode cX4_pourParts 33 = .ok (.goto 34, 3) := by decide +kernel
theorem dX4_pourParts_36 : decode cX4_pourParts 36 = .ok (.aload_n 0, 1) := by decide +kernel
theorem dX4_pourParts_37 : decode cX4_pourParts 37 = .ok (.getfield 19, 3) := by decide +kernel
theorem dX4_pourParts_40 : decode cX4_pourParts 40 = .ok (.iload_n 1, 1) := by decide +kernel
theorem dX4_pourParts_41 : decode cX4_pourParts 41 = .ok (.iaload, 1) := by decide +kernel
theorem dX4_pourParts_42 : decode cX4_pourParts 42 = .ok (.ifCond .ge 7, 3) := by decide +kernel
theorem dX4_pourParts_45 : decode cX4_pourParts 45 = .ok (.iconst 3, 1) := by decide +kernel
theorem dX4_pourParts_46 : decode cX4_pourParts 46 = .ok (.goto 21, 3) := by decide +kernel
theorem dX4_pourParts_49 : decode cX4_pourParts 49 = .ok (.aload_n 0, 1) := by decide +kernel
theorem dX4_pourParts_50 : decode cX4_pourParts 50 = .ok (.iload_n 2, 1) := by decide +kernel
theorem dX4_pourParts_51 : decode cX4_pourParts 51 = .ok (.aload_n 0, 1) := by decide +kernel
theorem dX4_pourParts_52 : decode cX4_pourParts 52 = .ok (.iload_n 1, 1) := by decide +kernel
theorem dX4_pourParts_53 : decode cX4_pourParts 53 = .ok (.invokevirtual 81, 3) := by decide +kernel
theorem dX4_pourParts_56 : decode cX4_pourParts 56 = .ok (.invokevirtual 70, 3) := by decide +kernel
theorem dX4_pourParts_59 : decode cX4_pourParts 59 = .ok (.ifCond .eq 7, 3) := by decide +kernel
theorem dX4_pourParts_62 : decode cX4_pourParts 62 = .ok (.iconst 4, 1) := by decide +kernel
theorem dX4_pourParts_63 : decode cX4_pourParts 63 = .ok (.goto 4, 3) := by decide +kernel
theorem dX4_pourParts_66 : decode cX4_pourParts 66 = .ok (.iconst 0, 1) := by decide +kernel
theorem dX4_pourParts_67 : decode cX4_pourParts 67 = .ok (.invokevirtual 53, 3) := by decide +kernel
theorem dX4_pourParts_70 : decode cX4_pourParts 70 = .ok (.ifCond .eq 5, 3) := by decide +kernel
theorem dX4_pourParts_73 : decode cX4_pourParts 73 = .ok (.iconst 0, 1) := by decide +kernel
theorem dX4_pourParts_74 : decode cX4_pourParts 74 = .ok (.ireturn, 1) := by decide +kernel
theorem dX4_pourParts_75 : decode cX4_pourParts 75 = .ok (.aload_n 0, 1) := by decide +kernel
theorem dX4_pourParts_76 : decode cX4_pourParts 76 = .ok (.iload_n 1, 1) := by decide +kernel
theorem dX4_pourParts_77 : decode cX4_pourParts 77 = .ok (.iload_n 2, 1) := by decide +kernel
theorem dX4_pourParts_78 : decode cX4_pourParts 78 = .ok (.invokevirtual 100, 3) := by decide +kernel
theorem dX4_pourParts_81 : decode cX4_pourParts 81 = .ok (.iload_n 3, 1) := by decide +kernel
theorem dX4_pourParts_82 : decode cX4_pourParts 82 = .ok (.iadd, 1) := by decide +kernel
theorem dX4_pourParts_83 : decode cX4_pourParts 83 = .ok (.iconst 1, 1) := by decide +kernel
theorem dX4_pourParts_84 : decode cX4_pourParts 84 = .ok (.isub, 1) := by decide +kernel
theorem dX4_pourParts_85 : decode cX4_pourParts 85 = .ok (.iload_n 3, 1) := by decide +kernel
theorem dX4_pourParts_86 : decode cX4_pourParts 86 = .ok (.idiv, 1) := by decide +kernel
theorem dX4_pourParts_87 : decode cX4_pourParts 87 = .ok (.ireturn, 1) := by decide +kernel
theorem dX4_alike_0 : decode cX4_alike 0 = .ok (.aload_n 0, 1) := by decide +kernel
theorem dX4_alike_1 : decode cX4_alike 1 = .ok (.aload_n 0, 1) := by decide +kernel
theorem dX4_alike_2 : decode cX4_alike 2 = .ok (.iload_n 1, 1) := by decide +kernel
theorem dX4_alike_3 : decode cX4_alike 3 = .ok (.invokevirtual 67, 3) := by decide +kernel
theorem dX4_alike_6 : decode cX4_alike 6 = .ok (.ifCond .eq 11, 3) := by decide +kernel
theorem dX4_alike_9 : decode cX4_alike 9 = .ok (.aload_n 0, 1) := by decide +kernel
theorem dX4_alike_10 : decode cX4_alike 10 = .ok (.iload_n 2, 1) := by decide +kernel
theorem dX4_alike_11 : decode cX4_alike 11 = .ok (.invokevirtual 67, 3) := by decide +kernel
theorem dX4_alike_14 : decode cX4_alike 14 = .ok (.ifCond .ne 7, 3) := by decide +kernel
theorem dX4_alike_17 : decode cX4_alike 17 = .ok (.iconst 1, 1) := by decide +kernel
theorem dX4_alike_18 : decode cX4_alike 18 = .ok (.goto 35, 3) := by decide +kernel
theorem dX4_alike_21 : decode cX4_alike 21 = .ok (.iload_n 1, 1) := by decide +kernel
theorem dX4_alike_22 : decode cX4_alike 22 = .ok (.iload_n 2, 1) := by decide +kernel
theorem dX4_alike_23 : decode cX4_alike 23 = .ok (.if_icmp .ne 7, 3) := by decide +kernel
theorem dX4_alike_26 : decode cX4_alike 26 = .ok (.iconst 2, 1) := by decide +kernel
theorem dX4_alike_27 : decode cX4_alike 27 = .ok (.goto 26, 3) := by decide +kernel
theorem dX4_alike_30 : decode cX4_alike 30 = .ok (.aload_n 0, 1) := by decide +kernel
theorem dX4_alike_31 : decode cX4_alike 31 = .ok (.getfield 19, 3) := by decide +kernel
theorem dX4_alike_34 : decode cX4_alike 34 = .ok (.iload_n 1, 1) := by decide +kernel
theorem dX4_alike_35 : decode cX4_alike 35 = .ok (.iaload, 1) := by decide +kernel
theorem dX4_alike_36 : decode cX4_alike 36 = .ok (.ifCond .lt 12, 3) := by decide +kernel
theorem dX4_alike_39 : decode cX4_alike 39 = .ok (.aload_n 0, 1) := by decide +kernel
theorem dX4_alike_40 : decode cX4_alike 40 = .ok (.getfield 19, 3) := by decide +kernel
theorem dX4_alike_43 : decode cX4_alike 43 = .ok (.iload_n 2, 1) := by decide +kernel
theorem dX4_alike_44 : decode cX4_alike 44 = .ok (.iaload, 1) := by decide +kernel
theorem dX4_alike_45 : decode cX4_alike 45 = .ok (.ifCond .ge 7, 3) := by decide +kernel
theorem dX4_alike_48 : decode cX4_alike 48 = .ok (.iconst 3, 1) := by decide +kernel
theorem dX4_alike_49 : decode cX4_alike 49 = .ok (.goto 4, 3) := by decide +kernel
theorem dX4_alike_52 : decode cX4_alike 52 = .ok (.iconst 0, 1) := by decide +kernel
theorem dX4_alike_53 : decode cX4_alike 53 = .ok (.invokevirtual 53, 3) := by decide +kernel
theorem dX4_alike_56 : decode cX4_alike 56 = .ok (.ifCond .eq 5, 3) := by decide +kernel
theorem dX4_alike_59 : decode cX4_alike 59 = .ok (.iconst 0, 1) := by decide +kernel
theorem dX4_alike_60 : decode cX4_alike 60 = .ok (.ireturn, 1) := by decide +kernel
theorem dX4_alike_61 : decode cX4_alike 61 = .ok (.iconst 0, 1) := by decide +kernel
theorem dX4_alike_62 : decode cX4_alike 62 = .ok (.istore_n 3, 1) := by decide +kernel
theorem dX4_alike_63 : decode cX4_alike 63 = .ok (.aload_n 0, 1) := by decide +kernel
theorem dX4_alike_64 : decode cX4_alike 64 = .ok (.iload_n 1, 1) := by decide +kernel
theorem dX4_alike_65 : decode cX4_alike 65 = .ok (.invokevirtual 81, 3) := by decide +kernel
theorem dX4_alike_68 : decode cX4_alike 68 = .ok (.ifCond .le 50, 3) := by decide +kernel
theorem dX4_alike_71 : decode cX4_alike 71 = .ok (.aload_n 0, 1) := by decide +kernel
theorem dX4_alike_72 : decode cX4_alike 72 = .ok (.iload_n 2, 1) := by decide +kernel
theorem dX4_alike_73 : decode cX4_alike 73 = .ok (.invokevirtual 81, 3) := by decide +kernel
theorem dX4_alike_76 : decode cX4_alike 76 = .ok (.ifCond .le 42, 3) := by decide +kernel
theorem dX4_alike_79 : decode cX4_alike 79 = .ok (.aload_n 0, 1) := by decide +kernel
theorem dX4_alike_80 : decode cX4_alike 80 = .ok (.iload_n 1, 1) := by decide +kernel
theorem dX4_alike_81 : decode cX4_alike 81 = .ok (.invokevirtual 91, 3) := by decide +kernel
theorem dX4_alike_84 : decode cX4_alike 84 = .ok (.aload_n 0, 1) := by decide +kernel
theorem dX4_alike_85 : decode cX4_alike 85 = .ok (.iload_n 2, 1) := by decide +kernel
theorem dX4_alike_86 : decode cX4_alike 86 = .ok (.invokevirtual 91, 3) := by decide +kernel
theorem dX4_alike_89 : decode cX4_alike 89 = .ok (.if_icmp .ne 29, 3) := by decide +kernel
theorem dX4_alike_92 : decode cX4_alike 92 = .ok (.aload_n 0, 1) := by decide +kernel
theorem dX4_alike_93 : decode cX4_alike 93 = .ok (.getfield 22, 3) := by decide +kernel
theorem dX4_alike_96 : decode cX4_alike 96 = .ok (.iload_n 1, 1) := by decide +kernel
theorem dX4_alike_97 : decode cX4_alike 97 = .ok (.dup2, 1) := by decide +kernel
theorem dX4_alike_98 : decode cX4_alike 98 = .ok (.iaload, 1) := by decide +kernel
theorem dX4_alike_99 : decode cX4_alike 99 = .ok (.iconst 1, 1) := by decide +kernel
theorem dX4_alike_100 : decode cX4_alike 100 = .ok (.iadd, 1) := by decide +kernel
theorem dX4_alike_101 : decode cX4_alike 101 = .ok (.iastore, 1) := by decide +kernel
theorem dX4_alike_102 : decode cX4_alike 102 = .ok (.aload_n 0, 1) := by decide +kernel
theorem dX4_alike_103 : decode cX4_alike 103 = .ok (.getfield 22, 3) := by decide +kernel
theorem dX4_alike_106 : decode cX4_alike 106 = .ok (.iload_n 2, 1) := by decide +kernel
theorem dX4_alike_107 : decode cX4_alike 107 = .ok (.dup2, 1) := by decide +kernel
theorem dX4_alike_108 : decode cX4_alike 108 = .ok (.iaload, 1) := by decide +kernel
theorem dX4_alike_109 : decode cX4_alike 109 = .ok (.iconst 1, 1) := by decide +kernel
theorem dX4_alike_110 : decode cX4_alike 110 = .ok (.iadd, 1) := by decide +kernel
theorem dX4_alike_111 : decode cX4_alike 111 = .ok (.iastore, 1) := by decide +kernel
theorem dX4_alike_112 : decode cX4_alike 112 = .ok (.iinc 3 1, 3) := by decide +kernel
theorem dX4_alike_115 : decode cX4_alike 115 = .ok (.goto (-52), 3) := by decide +kernel
theorem dX4_alike_118 : decode cX4_alike 118 = .ok (.aload_n 0, 1) := by decide +kernel
theorem dX4_alike_119 : decode cX4_alike 119 = .ok (.getfield 25, 3) := by decide +kernel
theorem dX4_alike_122 : decode cX4_alike 122 = .ok (.iload_n 1, 1) := by decide +kernel
theorem dX4_alike_123 : decode cX4_alike 123 = .ok (.aload_n 0, 1) := by decide +kernel
theorem dX4_alike_124 : decode cX4_alike 124 = .ok (.getfield 22, 3) := by decide +kernel
theorem dX4_alike_127 : decode cX4_alike 127 = .ok (.iload_n 1, 1) := by decide +kernel
theorem dX4_alike_128 : decode cX4_alike 128 = .ok (.iaload, 1) := by decide +kernel
theorem dX4_alike_129 : decode cX4_alike 129 = .ok (.iastore, 1) := by decide +kernel
theorem dX4_alike_130 : decode cX4_alike 130 = .ok (.aload_n 0, 1) := by decide +kernel
theorem dX4_alike_131 : decode cX4_alike 131 = .ok (.getfield 25, 3) := by decide +kernel
theorem dX4_alike_134 : decode cX4_alike 134 = .ok (.iload_n 2, 1) := by decide +kernel
theorem dX4_alike_135 : decode cX4_alike 135 = .ok (.aload_n 0, 1) := by decide +kernel
theorem dX4_alike_136 : decode cX4_alike 136 = .ok (.getfield 22, 3) := by decide +kernel
theorem dX4_alike_139 : decode cX4_alike 139 = .ok (.iload_n 2, 1) := by decide +kernel
theorem dX4_alike_140 : decode cX4_alike 140 = .ok (.iaload, 1) := by decide +kernel
theorem dX4_alike_141 : decode cX4_alike 141 = .ok (.iastore, 1) := by decide +kernel
theorem dX4_alike_142 : decode cX4_alike 142 = .ok (.iload_n 3, 1) := by decide +kernel
theorem dX4_alike_143 : decode cX4_alike 143 = .ok (.ireturn, 1) := by decide +kernel
theorem dX4_leftShare_0 : decode cX4_leftShare 0 = .ok (.aload_n 0, 1) := by decide +kernel
theorem dX4_leftShare_1 : decode cX4_leftShare 1 = .ok (.aload_n 0, 1) := by decide +kernel
theorem dX4_leftShare_2 : decode cX4_leftShare 2 = .ok (.iload_n 1, 1) := by decide +kernel
theorem dX4_leftShare_3 : decode cX4_leftShare 3 = .ok (.invokevirtual 67, 3) := by decide +kernel
theorem dX4_leftShare_6 : decode cX4_leftShare 6 = .ok (.ifCond .ne 7, 3) := by decide +kernel
theorem dX4_leftShare_9 : decode cX4_leftShare 9 = .ok (.iconst 1, 1) := by decide +kernel
theorem dX4_leftShare_10 : decode cX4_leftShare 10 = .ok (.goto 35, 3) := by decide +kernel
theorem dX4_leftShare_13 : decode cX4_leftShare 13 = .ok (.aload_n 0, 1) := by decide +kernel
theorem dX4_leftShare_14 : decode cX4_leftShare 14 = .ok (.getfield 19, 3) := by decide +kernel
theorem dX4_leftShare_17 : decode cX4_leftShare 17 = .ok (.iload_n 1, 1) := by decide +kernel
theorem dX4_leftShare_18 : decode cX4_leftShare 18 = .ok (.iaload, 1) := by decide +kernel
theorem dX4_leftShare_19 : decode cX4_leftShare 19 = .ok (.ifCond .ge 7, 3) := by decide +kernel
theorem dX4_leftShare_22 : decode cX4_leftShare 22 = .ok (.iconst 2, 1) := by decide +kernel
theorem dX4_leftShare_23 : decode cX4_leftShare 23 = .ok (.goto 22, 3) := by decide +kernel
theorem dX4_leftShare_26 : decode cX4_leftShare 26 = .ok (.aload_n 0, 1) := by decide +kernel
theorem dX4_leftShare_27 : decode cX4_leftShare 27 = .ok (.getfield 13, 3) := by decide +kernel
theorem dX4_leftShare_30 : decode cX4_leftShare 30 = .ok (.aload_n 0, 1) := by decide +kernel
theorem dX4_leftShare_31 : decode cX4_leftShare 31 = .ok (.getfield 19, 3) := by decide +kernel
theorem dX4_leftShare_34 : decode cX4_leftShare 34 = .ok (.iload_n 1, 1) := by decide +kernel
theorem dX4_leftShare_35 : decode cX4_leftShare 35 = .ok (.iaload, 1) := by decide +kernel
theorem dX4_leftShare_36 : decode cX4_leftShare 36 = .ok (.iaload, 1) := by decide +kernel
theorem dX4_leftShare_37 : decode cX4_leftShare 37 = .ok (.ifCond .ne 7, 3) := by decide +kernel
theorem dX4_leftShare_40 : decode cX4_leftShare 40 = .ok (.iconst 3, 1) := by decide +kernel
theorem dX4_leftShare_41 : decode cX4_leftShare 41 = .ok (.goto 4, 3) := by decide +kernel
theorem dX4_leftShare_44 : decode cX4_leftShare 44 = .ok (.iconst 0, 1) := by decide +kernel
theorem dX4_leftShare_45 : decode cX4_leftShare 45 = .ok (.invokevirtual 53, 3) := by decide +kernel
theorem dX4_leftShare_48 : decode cX4_leftShare 48 = .ok (.ifCond .eq 5, 3) := by decide +kernel
theorem dX4_leftShare_51 : decode cX4_leftShare 51 = .ok (.fconst 0, 1) := by decide +kernel
theorem dX4_leftShare_52 : decode cX4_leftShare 52 = .ok (.freturn, 1) := by decide +kernel
theorem dX4_leftShare_53 : decode cX4_leftShare 53 = .ok (.aload_n 0, 1) := by decide +kernel
theorem dX4_leftShare_54 : decode cX4_leftShare 54 = .ok (.iload_n 1, 1) := by decide +kernel
theorem dX4_leftShare_55 : decode cX4_leftShare 55 = .ok (.invokevirtual 81, 3) := by decide +kernel
theorem dX4_leftShare_58 : decode cX4_leftShare 58 = .ok (.i2f, 1) := by decide +kernel
theorem dX4_leftShare_59 : decode cX4_leftShare 59 = .ok (.aload_n 0, 1) := by decide +kernel
theorem dX4_leftShare_60 : decode cX4_leftShare 60 = .ok (.getfield 13, 3) := by decide +kernel
theorem dX4_leftShare_63 : decode cX4_leftShare 63 = .ok (.aload_n 0, 1) := by decide +kernel
theorem dX4_leftShare_64 : decode cX4_leftShare 64 = .ok (.getfield 19, 3) := by decide +kernel
theorem dX4_leftShare_67 : decode cX4_leftShare 67 = .ok (.iload_n 1, 1) := by decide +kernel
theorem dX4_leftShare_68 : decode cX4_leftShare 68 = .ok (.iaload, 1) := by decide +kernel
theorem dX4_leftShare_69 : decode cX4_leftShare 69 = .ok (.iaload, 1) := by decide +kernel
theorem dX4_leftShare_70 : decode cX4_leftShare 70 = .ok (.i2f, 1) := by decide +kernel
theorem dX4_leftShare_71 : decode cX4_leftShare 71 = .ok (.fdiv, 1) := by decide +kernel
theorem dX4_leftShare_72 : decode cX4_leftShare 72 = .ok (.freturn, 1) := by decide +kernel
theorem dX4_meanSize_0 : decode cX4_meanSize 0 = .ok (.iconst 0, 1) := by decide +kernel
theorem dX4_meanSize_1 : decode cX4_meanSize 1 = .ok (.istore_n 1, 1) := by decide +kernel
theorem dX4_meanSize_2 : decode cX4_meanSize 2 = .ok (.iconst 0, 1) := by decide +kernel
theorem dX4_meanSize_3 : decode cX4_meanSize 3 = .ok (.istore_n 2, 1) := by decide +kernel
theorem dX4_meanSize_4 : decode cX4_meanSize 4 = .ok (.iconst 0, 1) := by decide +kernel
theorem dX4_meanSize_5 : decode cX4_meanSize 5 = .ok (.istore_n 3, 1) := by decide +kernel
theorem dX4_meanSize_6 : decode cX4_meanSize 6 = .ok (.iload_n 3, 1) := by decide +kernel
theorem dX4_meanSize_7 : decode cX4_meanSize 7 = .ok (.iconst 3, 1) := by decide +kernel
theorem dX4_meanSize_8 : decode cX4_meanSize 8 = .ok (.if_icmp .ge 35, 3) := by decide +kernel
theorem dX4_meanSize_11 : decode cX4_meanSize 11 = .ok (.iload_n 1, 1) := by decide +kernel
theorem dX4_meanSize_12 : decode cX4_meanSize 12 = .ok (.aload_n 0, 1) := by decide +kernel
theorem dX4_meanSize_13 : decode cX4_meanSize 13 = .ok (.getfield 31, 3) := by decide +kernel
theorem dX4_meanSize_16 : decode cX4_meanSize 16 = .ok (.iload_n 3, 1) := by decide +kernel
theorem dX4_meanSize_17 : decode cX4_meanSize 17 = .ok (.iaload, 1) := by decide +kernel
theorem dX4_meanSize_18 : decode cX4_meanSize 18 = .ok (.iadd, 1) := by decide +kernel
theorem dX4_meanSize_19 : decode cX4_meanSize 19 = .ok (.istore_n 1, 1) := by decide +kernel
theorem dX4_meanSize_20 : decode cX4_meanSize 20 = .ok (.iload_n 2, 1) := by decide +kernel
theorem dX4_meanSize_21 : decode cX4_meanSize 21 = .ok (.aload_n 0, 1) := by decide +kernel
theorem dX4_meanSize_22 : decode cX4_meanSize 22 = .ok (.getfield 31, 3) := by decide +kernel
theorem dX4_meanSize_25 : decode cX4_meanSize 25 = .ok (.iload_n 3, 1) := by decide +kernel
theorem dX4_meanSize_26 : decode cX4_meanSize 26 = .ok (.iaload, 1) := by decide +kernel
theorem dX4_meanSize_27 : decode cX4_meanSize 27 = .ok (.ifCond .le 7, 3) := by decide +kernel
theorem dX4_meanSize_30 : decode cX4_meanSize 30 = .ok (.iconst 1, 1) := by decide +kernel
theorem dX4_meanSize_31 : decode cX4_meanSize 31 = .ok (.goto 4, 3) := by decide +kernel
theorem dX4_meanSize_34 : decode cX4_meanSize 34 = .ok (.iconst 0, 1) := by decide +kernel
theorem dX4_meanSize_35 : decode cX4_meanSize 35 = .ok (.iadd, 1) := by decide +kernel
theorem dX4_meanSize_36 : decode cX4_meanSize 36 = .ok (.istore_n 2, 1) := by decide +kernel
theorem dX4_meanSize_37 : decode cX4_meanSize 37 = .ok (.iinc 3 1, 3) := by decide +kernel
theorem dX4_meanSize_40 : decode cX4_meanSize 40 = .ok (.goto (-34), 3) := by decide +kernel
theorem dX4_meanSize_43 : decode cX4_meanSize 43 = .ok (.aload_n 0, 1) := by decide +kernel
theorem dX4_meanSize_44 : decode cX4_meanSize 44 = .ok (.iload_n 2, 1) := by decide +kernel
theorem dX4_meanSize_45 : decode cX4_meanSize 45 = .ok (.ifCond .ne 7, 3) := by decide +kernel
theorem dX4_meanSize_48 : decode cX4_meanSize 48 = .ok (.iconst 1, 1) := by decide +kernel
theorem dX4_meanSize_49 : decode cX4_meanSize 49 = .ok (.goto 4, 3) := by decide +kernel
theorem dX4_meanSize_52 : decode cX4_meanSize 52 = .ok (.iconst 0, 1) := by decide +kernel
theorem dX4_meanSize_53 : decode cX4_meanSize 53 = .ok (.invokevirtual 53, 3) := by decide +kernel
theorem dX4_meanSize_56 : decode cX4_meanSize 56 = .ok (.ifCond .eq 7, 3) := by decide +kernel
theorem dX4_meanSize_59 : decode cX4_meanSize 59 = .ok (.dconst 0, 1) := by decide +kernel
theorem dX4_meanSize_60 : decode cX4_meanSize 60 = .ok (.goto 8, 3) := by decide +kernel
theorem dX4_meanSize_63 : decode cX4_meanSize 63 = .ok (.iload_n 1, 1) := by decide +kernel
theorem dX4_meanSize_64 : decode cX4_meanSize 64 = .ok (.i2d, 1) := by decide +kernel
theorem dX4_meanSize_65 : decode cX4_meanSize 65 = .ok (.iload_n 2, 1) := by decide +kernel
theorem dX4_meanSize_66 : decode cX4_meanSize 66 = .ok (.i2d, 1) := by decide +kernel
theorem dX4_meanSize_67 : decode cX4_meanSize 67 = .ok (.ddiv, 1) := by decide +kernel
theorem dX4_meanSize_68 : decode cX4_meanSize 68 = .ok (.dreturn, 1) := by decide +kernel
theorem dX4_checksum_0 : decode cX4_checksum 0 = .ok (.aload_n 0, 1) := by decide +kernel
theorem dX4_checksum_1 : decode cX4_checksum 1 = .ok (.iconst 0, 1) := by decide +kernel
theorem dX4_checksum_2 : decode cX4_checksum 2 = .ok (.putfield 37, 3) := by decide +kernel
theorem dX4_checksum_5 : decode cX4_checksum 5 = .ok (.ldc2_w 103, 3) := by decide +kernel
theorem dX4_checksum_8 : decode cX4_checksum 8 = .ok (.lstore_n 1, 1) := by decide +kernel
theorem dX4_checksum_9 : decode cX4_checksum 9 = .ok (.iconst 0, 1) := by decide +kernel
theorem dX4_checksum_10 : decode cX4_checksum 10 = .ok (.istore_n 3, 1) := by decide +kernel
theorem dX4_checksum_11 : decode cX4_checksum 11 = .ok (.iload_n 3, 1) := by decide +kernel
theorem dX4_checksum_12 : decode cX4_checksum 12 = .ok (.iconst 4, 1) := by decide +kernel
theorem dX4_checksum_13 : decode cX4_checksum 13 = .ok (.if_icmp .ge 67, 3) := by decide +kernel
theorem dX4_checksum_16 : decode cX4_checksum 16 = .ok (.ldc2_w 105, 3) := by decide +kernel
theorem dX4_checksum_19 : decode cX4_checksum 19 = .ok (.lload_n 1, 1) := by decide +kernel
theorem dX4_checksum_20 : decode cX4_checksum 20 = .ok (.lmul, 1) := by decide +kernel
theorem dX4_checksum_21 : decode cX4_checksum 21 = .ok (.aload_n 0, 1) := by decide +kernel
theorem dX4_checksum_22 : decode cX4_checksum 22 = .ok (.iload_n 3, 1) := by decide +kernel
theorem dX4_checksum_23 : decode cX4_checksum 23 = .ok (.invokevirtual 45, 3) := by decide +kernel
theorem dX4_checksum_26 : decode cX4_checksum 26 = .ok (.i2l, 1) := by decide +kernel
theorem dX4_checksum_27 : decode cX4_checksum 27 = .ok (.ladd, 1) := by decide +kernel
theorem dX4_checksum_28 : decode cX4_checksum 28 = .ok (.lstore_n 1, 1) := by decide +kernel
theorem dX4_checksum_29 : decode cX4_checksum 29 = .ok (.iconst 0, 1) := by decide +kernel
theorem dX4_checksum_30 : decode cX4_checksum 30 = .ok (.istore 4, 2) := by decide +kernel
theorem dX4_checksum_32 : decode cX4_checksum 32 = .ok (.iload 4, 2) := by decide +kernel
theorem dX4_checksum_34 : decode cX4_checksum 34 = .ok (.aload_n 0, 1) := by decide +kernel
theorem dX4_checksum_35 : decode cX4_checksum 35 = .ok (.iload_n 3, 1) := by decide +kernel
theorem dX4_checksum_36 : decode cX4_checksum 36 = .ok (.invokevirtual 45, 3) := by decide +kernel
theorem dX4_checksum_39 : decode cX4_checksum 39 = .ok (.if_icmp .ge 35, 3) := by decide +kernel
theorem dX4_checksum_42 : decode cX4_checksum 42 = .ok (.ldc2_w 105, 3) := by decide +kernel
theorem dX4_checksum_45 : decode cX4_checksum 45 = .ok (.lload_n 1, 1) := by decide +kernel
theorem dX4_checksum_46 : decode cX4_checksum 46 = .ok (.lmul, 1) := by decide +kernel
theorem dX4_checksum_47 : decode cX4_checksum 47 = .ok (.aload_n 0, 1) := by decide +kernel
theorem dX4_checksum_48 : decode cX4_checksum 48 = .ok (.getfield 7, 3) := by decide +kernel
theorem dX4_checksum_51 : decode cX4_checksum 51 = .ok (.sipush 256, 3) := by decide +kernel
theorem dX4_checksum_54 : decode cX4_checksum 54 = .ok (.aload_n 0, 1) := by decide +kernel
theorem dX4_checksum_55 : decode cX4_checksum 55 = .ok (.getfield 16, 3) := by decide +kernel
theorem dX4_checksum_58 : decode cX4_checksum 58 = .ok (.iload_n 3, 1) := by decide +kernel
theorem dX4_checksum_59 : decode cX4_checksum 59 = .ok (.iaload, 1) := by decide +kernel
theorem dX4_checksum_60 : decode cX4_checksum 60 = .ok (.imul, 1) := by decide +kernel
theorem dX4_checksum_61 : decode cX4_checksum 61 = .ok (.iload 4, 2) := by decide +kernel
theorem dX4_checksum_63 : decode cX4_checksum 63 = .ok (.iadd, 1) := by decide +kernel
theorem dX4_checksum_64 : decode cX4_checksum 64 = .ok (.iaload, 1) := by decide +kernel
theorem dX4_checksum_65 : decode cX4_checksum 65 = .ok (.i2l, 1) := by decide +kernel
theorem dX4_checksum_66 : decode cX4_checksum 66 = .ok (.ladd, 1) := by decide +kernel
theorem dX4_checksum_67 : decode cX4_checksum 67 = .ok (.lstore_n 1, 1) := by decide +kernel
theorem dX4_checksum_68 : decode cX4_checksum 68 = .ok (.iinc 4 1, 3) := by decide +kernel
theorem dX4_checksum_71 : decode cX4_checksum 71 = .ok (.goto (-39), 3) := by decide +kernel
theorem dX4_checksum_74 : decode cX4_checksum 74 = .ok (.iinc 3 1, 3) := by decide +kernel
theorem dX4_checksum_77 : decode cX4_checksum 77 = .ok (.goto (-66), 3) := by decide +kernel
theorem dX4_checksum_80 : decode cX4_checksum 80 = .ok (.iconst 0, 1) := by decide +kernel
theorem dX4_checksum_81 : decode cX4_checksum 81 = .ok (.istore_n 3, 1) := by decide +kernel
theorem dX4_checksum_82 : decode cX4_checksum 82 = .ok (.iload_n 3, 1) := by decide +kernel
theorem dX4_checksum_83 : decode cX4_checksum 83 = .ok (.iconst 3, 1) := by decide +kernel
theorem dX4_checksum_84 : decode cX4_checksum 84 = .ok (.if_icmp .ge 64, 3) := by decide +kernel
theorem dX4_checksum_87 : decode cX4_checksum 87 = .ok (.ldc2_w 105, 3) := by decide +kernel
theorem dX4_checksum_90 : decode cX4_checksum 90 = .ok (.lload_n 1, 1) := by decide +kernel
theorem dX4_checksum_91 : decode cX4_checksum 91 = .ok (.lmul, 1) := by decide +kernel
theorem dX4_checksum_92 : decode cX4_checksum 92 = .ok (.aload_n 0, 1) := by decide +kernel
theorem dX4_checksum_93 : decode cX4_checksum 93 = .ok (.getfield 31, 3) := by decide +kernel
theorem dX4_checksum_96 : decode cX4_checksum 96 = .ok (.iload_n 3, 1) := by decide +kernel
theorem dX4_checksum_97 : decode cX4_checksum 97 = .ok (.iaload, 1) := by decide +kernel
theorem dX4_checksum_98 : decode cX4_checksum 98 = .ok (.i2l, 1) := by decide +kernel
theorem dX4_checksum_99 : decode cX4_checksum 99 = .ok (.ladd, 1) := by decide +kernel
theorem dX4_checksum_100 : decode cX4_checksum 100 = .ok (.lstore_n 1, 1) := by decide +kernel
theorem dX4_checksum_101 : decode cX4_checksum 101 = .ok (.iconst 0, 1) := by decide +kernel
theorem dX4_checksum_102 : decode cX4_checksum 102 = .ok (.istore 4, 2) := by decide +kernel
theorem dX4_checksum_104 : decode cX4_checksum 104 = .ok (.iload 4, 2) := by decide +kernel
theorem dX4_checksum_106 : decode cX4_checksum 106 = .ok (.aload_n 0, 1) := by decide +kernel
theorem dX4_checksum_107 : decode cX4_checksum 107 = .ok (.getfield 31, 3) := by decide +kernel
theorem dX4_checksum_110 : decode cX4_checksum 110 = .ok (.iload_n 3, 1) := by decide +kernel
theorem dX4_checksum_111 : decode cX4_checksum 111 = .ok (.iaload, 1) := by decide +kernel
theorem dX4_checksum_112 : decode cX4_checksum 112 = .ok (.if_icmp .ge 30, 3) := by decide +kernel
theorem dX4_checksum_115 : decode cX4_checksum 115 = .ok (.ldc2_w 105, 3) := by decide +kernel
theorem dX4_checksum_118 : decode cX4_checksum 118 = .ok (.lload_n 1, 1) := by decide +kernel
theorem dX4_checksum_119 : decode cX4_checksum 119 = .ok (.lmul, 1) := by decide +kernel
theorem dX4_checksum_120 : decode cX4_checksum 120 = .ok (.aload_n 0, 1) := by decide +kernel
theorem dX4_checksum_121 : decode cX4_checksum 121 = .ok (.getfield 28, 3) := by decide +kernel
theorem dX4_checksum_124 : decode cX4_checksum 124 = .ok (.sipush 256, 3) := by decide +kernel
theorem dX4_checksum_127 : decode cX4_checksum 127 = .ok (.iload_n 3, 1) := by decide +kernel
theorem dX4_checksum_128 : decode cX4_checksum 128 = .ok (.imul, 1) := by decide +kernel
theorem dX4_checksum_129 : decode cX4_checksum 129 = .ok (.iload 4, 2) := by decide +kernel
theorem dX4_checksum_131 : decode cX4_checksum 131 = .ok (.iadd, 1) := by decide +kernel
theorem dX4_checksum_132 : decode cX4_checksum 132 = .ok (.iaload, 1) := by decide +kernel
theorem dX4_checksum_133 : decode cX4_checksum 133 = .ok (.i2l, 1) := by decide +kernel
theorem dX4_checksum_134 : decode cX4_checksum 134 = .ok (.ladd, 1) := by decide +kernel
theorem dX4_checksum_135 : decode cX4_checksum 135 = .ok (.lstore_n 1, 1) := by decide +kernel
theorem dX4_checksum_136 : decode cX4_checksum 136 = .ok (.iinc 4 1, 3) := by decide +kernel
theorem dX4_checksum_139 : decode cX4_checksum 139 = .ok (.goto (-35), 3) := by decide +kernel
theorem dX4_checksum_142 : decode cX4_checksum 142 = .ok (.iinc 3 1, 3) := by decide +kernel
theorem dX4_checksum_145 : decode cX4_checksum 145 = .ok (.goto (-63), 3) := by decide +kernel
theorem dX4_checksum_148 : decode cX4_checksum 148 = .ok (.iconst 0, 1) := by decide +kernel
theorem dX4_checksum_149 : decode cX4_checksum 149 = .ok (.istore_n 3, 1) := by decide +kernel
theorem dX4_checksum_150 : decode cX4_checksum 150 = .ok (.iload_n 3, 1) := by decide +kernel
theorem dX4_checksum_151 : decode cX4_checksum 151 = .ok (.iconst 3, 1) := by decide +kernel
theorem dX4_checksum_152 : decode cX4_checksum 152 = .ok (.if_icmp .ge 35, 3) := by decide +kernel
theorem dX4_checksum_155 : decode cX4_checksum 155 = .ok (.ldc2_w 105, 3) := by decide +kernel
theorem dX4_checksum_158 : decode cX4_checksum 158 = .ok (.lload_n 1, 1) := by decide +kernel
theorem dX4_checksum_159 : decode cX4_checksum 159 = .ok (.lmul, 1) := by decide +kernel
theorem dX4_checksum_160 : decode cX4_checksum 160 = .ok (.aload_n 0, 1) := by decide +kernel
theorem dX4_checksum_161 : decode cX4_checksum 161 = .ok (.getfield 19, 3) := by decide +kernel
theorem dX4_checksum_164 : decode cX4_checksum 164 = .ok (.iload_n 3, 1) := by decide +kernel
theorem dX4_checksum_165 : decode cX4_checksum 165 = .ok (.iaload, 1) := by decide +kernel
theorem dX4_checksum_166 : decode cX4_checksum 166 = .ok (.ifCond .ge 7, 3) := by decide +kernel
theorem dX4_checksum_169 : decode cX4_checksum 169 = .ok (.iconst (-1), 1) := by decide +kernel
theorem dX4_checksum_170 : decode cX4_checksum 170 = .ok (.goto 8, 3) := by decide +kernel
theorem dX4_checksum_173 : decode cX4_checksum 173 = .ok (.aload_n 0, 1) := by decide +kernel
theorem dX4_checksum_174 : decode cX4_checksum 174 = .ok (.iload_n 3, 1) := by decide +kernel
theorem dX4_checksum_175 : decode cX4_checksum 175 = .ok (.invokevirtual 81, 3) := by decide +kernel
theorem dX4_checksum_178 : decode cX4_checksum 178 = .ok (.i2l, 1) := by decide +kernel
theorem dX4_checksum_179 : decode cX4_checksum 179 = .ok (.ladd, 1) := by decide +kernel
theorem dX4_checksum_180 : decode cX4_checksum 180 = .ok (.lstore_n 1, 1) := by decide +kernel
theorem dX4_checksum_181 : decode cX4_checksum 181 = .ok (.iinc 3 1, 3) := by decide +kernel
theorem dX4_checksum_184 : decode cX4_checksum 184 = .ok (.goto (-34), 3) := by decide +kernel
theorem dX4_checksum_187 : decode cX4_checksum 187 = .ok (.lload_n 1, 1) := by decide +kernel
theorem dX4_checksum_188 : decode cX4_checksum 188 = .ok (.lreturn, 1) := by decide +kernel
theorem dX4_isTrue_0 : decode cX4_isTrue 0 = .ok (.aload_n 0, 1) := by decide +kernel
theorem dX4_isTrue_1 : decode cX4_isTrue 1 = .ok (.iconst 0, 1) := by decide +kernel
theorem dX4_isTrue_2 : decode cX4_isTrue 2 = .ok (.putfield 37, 3) := by decide +kernel
theorem dX4_isTrue_5 : decode cX4_isTrue 5 = .ok (.iconst 1, 1) := by decide +kernel
theorem dX4_isTrue_6 : decode cX4_isTrue 6 = .ok (.istore_n 1, 1) := by decide +kernel
theorem dX4_isTrue_7 : decode cX4_isTrue 7 = .ok (.iconst 0, 1) := by decide +kernel
theorem dX4_isTrue_8 : decode cX4_isTrue 8 = .ok (.istore_n 2, 1) := by decide +kernel
theorem dX4_isTrue_9 : decode cX4_isTrue 9 = .ok (.iload_n 2, 1) := by decide +kernel
theorem dX4_isTrue_10 : decode cX4_isTrue 10 = .ok (.iconst 3, 1) := by decide +kernel
theorem dX4_isTrue_11 : decode cX4_isTrue 11 = .ok (.if_icmp .ge 63, 3) := by decide +kernel
theorem dX4_isTrue_14 : decode cX4_isTrue 14 = .ok (.iload_n 1, 1) := by decide +kernel
theorem dX4_isTrue_15 : decode cX4_isTrue 15 = .ok (.aload_n 0, 1) := by decide +kernel
theorem dX4_isTrue_16 : decode cX4_isTrue 16 = .ok (.getfield 19, 3) := by decide +kernel
theorem dX4_isTrue_19 : decode cX4_isTrue 19 = .ok (.iload_n 2, 1) := by decide +kernel
theorem dX4_isTrue_20 : decode cX4_isTrue 20 = .ok (.iaload, 1) := by decide +kernel
theorem dX4_isTrue_21 : decode cX4_isTrue 21 = .ok (.ifCond .lt 40, 3) := by decide +kernel
theorem dX4_isTrue_24 : decode cX4_isTrue 24 = .ok (.aload_n 0, 1) := by decide +kernel
theorem dX4_isTrue_25 : decode cX4_isTrue 25 = .ok (.iload_n 2, 1) := by decide +kernel
theorem dX4_isTrue_26 : decode cX4_isTrue 26 = .ok (.invokevirtual 81, 3) := by decide +kernel
theorem dX4_isTrue_29 : decode cX4_isTrue 29 = .ok (.ifCond .lt 36, 3) := by decide +kernel
theorem dX4_isTrue_32 : decode cX4_isTrue 32 = .ok (.aload_n 0, 1) := by decide +kernel
theorem dX4_isTrue_33 : decode cX4_isTrue 33 = .ok (.getfield 25, 3) := by decide +kernel
theorem dX4_isTrue_36 : decode cX4_isTrue 36 = .ok (.iload_n 2, 1) := by decide +kernel
theorem dX4_isTrue_37 : decode cX4_isTrue 37 = .ok (.iaload, 1) := by decide +kernel
theorem dX4_isTrue_38 : decode cX4_isTrue 38 = .ok (.ifCond .lt 27, 3) := by decide +kernel
theorem dX4_isTrue_41 : decode cX4_isTrue 41 = .ok (.aload_n 0, 1) := by decide +kernel
theorem dX4_isTrue_42 : decode cX4_isTrue 42 = .ok (.getfield 25, 3) := by decide +kernel
theorem dX4_isTrue_45 : decode cX4_isTrue 45 = .ok (.iload_n 2, 1) := by decide +kernel
theorem dX4_isTrue_46 : decode cX4_isTrue 46 = .ok (.iaload, 1) := by decide +kernel
theorem dX4_isTrue_47 : decode cX4_isTrue 47 = .ok (.aload_n 0, 1) := by decide +kernel
theorem dX4_isTrue_48 : decode cX4_isTrue 48 = .ok (.getfield 13, 3) := by decide +kernel
theorem dX4_isTrue_51 : decode cX4_isTrue 51 = .ok (.aload_n 0, 1) := by decide +kernel
theorem dX4_isTrue_52 : decode cX4_isTrue 52 = .ok (.getfield 19, 3) := by decide +kernel
theorem dX4_isTrue_55 : decode cX4_isTrue 55 = .ok (.iload_n 2, 1) := by decide +kernel
theorem dX4_isTrue_56 : decode cX4_isTrue 56 = .ok (.iaload, 1) := by decide +kernel
theorem dX4_isTrue_57 : decode cX4_isTrue 57 = .ok (.iaload, 1) := by decide +kernel
theorem dX4_isTrue_58 : decode cX4_isTrue 58 = .ok (.if_icmp .gt 7, 3) := by decide +kernel
theorem dX4_isTrue_61 : decode cX4_isTrue 61 = .ok (.iconst 1, 1) := by decide +kernel
theorem dX4_isTrue_62 : decode cX4_isTrue 62 = .ok (.goto 4, 3) := by decide +kernel
theorem dX4_isTrue_65 : decode cX4_isTrue 65 = .ok (.iconst 0, 1) := by decide +kernel
theorem dX4_isTrue_66 : decode cX4_isTrue 66 = .ok (.iand, 1) := by decide +kernel
theorem dX4_isTrue_67 : decode cX4_isTrue 67 = .ok (.istore_n 1, 1) := by decide +kernel
theorem dX4_isTrue_68 : decode cX4_isTrue 68 = .ok (.iinc 2 1, 3) := by decide +kernel
theorem dX4_isTrue_71 : decode cX4_isTrue 71 = .ok (.goto (-62), 3) := by decide +kernel
theorem dX4_isTrue_74 : decode cX4_isTrue 74 = .ok (.iload_n 1, 1) := by decide +kernel
theorem dX4_isTrue_75 : decode cX4_isTrue 75 = .ok (.ireturn, 1) := by decide +kernel
end
section
theorem dL_make_0 : decode cL_make 0 = .ok (.aload_n 3, 1) := by decide +kernel
theorem dL_make_1 : decode cL_make 1 = .ok (.iconst 0, 1) := by decide +kernel
theorem dL_make_2 : decode cL_make 2 = .ok (.aload_n 0, 1) := by decide +kernel
theorem dL_make_3 : decode cL_make 3 = .ok (.iload_n 1, 1) := by decide +kernel
theorem dL_make_4 : decode cL_make 4 = .ok (.iload_n 2, 1) := by decide +kernel
theorem dL_make_5 : decode cL_make 5 = .ok (.invokevirtual 7, 3) := by decide +kernel
theorem dL_make_8 : decode cL_make 8 = .ok (.i2l, 1) := by decide +kernel
theorem dL_make_9 : decode cL_make 9 = .ok (.lastore, 1) := by decide +kernel
theorem dL_make_10 : decode cL_make 10 = .ok (.goto 11, 3) := by decide +kernel
theorem dL_make_13 : decode cL_make 13 = .ok (.astore 4, 2) := by decide +kernel
theorem dL_make_15 : decode cL_make 15 = .ok (.iconst 1, 1) := by decide +kernel
theorem dL_make_16 : decode cL_make 16 = .ok (.ireturn, 1) := by decide +kernel
theorem dL_make_17 : decode cL_make 17 = .ok (.astore 4, 2) := by decide +kernel
theorem dL_make_19 : decode cL_make 19 = .ok (.iconst 2, 1) := by decide +kernel
theorem dL_make_20 : decode cL_make 20 = .ok (.ireturn, 1) := by decide +kernel
theorem dL_make_21 : decode cL_make 21 = .ok (.iconst 0, 1) := by decide +kernel
theorem dL_make_22 : decode cL_make 22 = .ok (.ireturn, 1) := by decide +kernel
theorem dL_lend_0 : decode cL_lend 0 = .ok (.aload_n 3, 1) := by decide +kernel
theorem dL_lend_1 : decode cL_lend 1 = .ok (.iconst 0, 1) := by decide +kernel
theorem dL_lend_2 : decode cL_lend 2 = .ok (.aload_n 0, 1) := by decide +kernel
theorem dL_lend_3 : decode cL_lend 3 = .ok (.iload_n 1, 1) := by decide +kernel
theorem dL_lend_4 : decode cL_lend 4 = .ok (.iload_n 2, 1) := by decide +kernel
theorem dL_lend_5 : decode cL_lend 5 = .ok (.invokevirtual 17, 3) := by decide +kernel
theorem dL_lend_8 : decode cL_lend 8 = .ok (.i2l, 1) := by decide +kernel
theorem dL_lend_9 : decode cL_lend 9 = .ok (.lastore, 1) := by decide +kernel
theorem dL_lend_10 : decode cL_lend 10 = .ok (.goto 7, 3) := by decide +kernel
theorem dL_lend_13 : decode cL_lend 13 = .ok (.astore 4, 2) := by decide +kernel
theorem dL_lend_15 : decode cL_lend 15 = .ok (.iconst 1, 1) := by decide +kernel
theorem dL_lend_16 : decode cL_lend 16 = .ok (.ireturn, 1) := by decide +kernel
theorem dL_lend_17 : decode cL_lend 17 = .ok (.iconst 0, 1) := by decide +kernel
theorem dL_lend_18 : decode cL_lend 18 = .ok (.ireturn, 1) := by decide +kernel
theorem dL_length_0 : decode cL_length 0 = .ok (.aload_n 2, 1) := by decide +kernel
theorem dL_length_1 : decode cL_length 1 = .ok (.iconst 0, 1) := by decide +kernel
theorem dL_length_2 : decode cL_length 2 = .ok (.aload_n 0, 1) := by decide +kernel
theorem dL_length_3 : decode cL_length 3 = .ok (.iload_n 1, 1) := by decide +kernel
theorem dL_length_4 : decode cL_length 4 = .ok (.invokevirtual 20, 3) := by decide +kernel
theorem dL_length_7 : decode cL_length 7 = .ok (.i2l, 1) := by decide +kernel
theorem dL_length_8 : decode cL_length 8 = .ok (.lastore, 1) := by decide +kernel
theorem dL_length_9 : decode cL_length 9 = .ok (.goto 6, 3) := by decide +kernel
theorem dL_length_12 : decode cL_length 12 = .ok (.astore_n 3, 1) := by decide +kernel
theorem dL_length_13 : decode cL_length 13 = .ok (.iconst 1, 1) := by decide +kernel
theorem dL_length_14 : decode cL_length 14 = .ok (.ireturn, 1) := by decide +kernel
theorem dL_length_15 : decode cL_length 15 = .ok (.iconst 0, 1) := by decide +kernel
theorem dL_length_16 : decode cL_length 16 = .ok (.ireturn, 1) := by decide +kernel
theorem dL_get_0 : decode cL_get 0 = .ok (.aload_n 3, 1) := by decide +kernel
theorem dL_get_1 : decode cL_get 1 = .ok (.iconst 0, 1) := by decide +kernel
theorem dL_get_2 : decode cL_get 2 = .ok (.aload_n 0, 1) := by decide +kernel
theorem dL_get_3 : decode cL_get 3 = .ok (.iload_n 1, 1) := by decide +kernel
theorem dL_get_4 : decode cL_get 4 = .ok (.iload_n 2, 1) := by decide +kernel
theorem dL_get_5 : decode cL_get 5 = .ok (.invokevirtual 24, 3) := by decide +kernel
theorem dL_get_8 : decode cL_get 8 = .ok (.i2l, 1) := by decide +kernel
theorem dL_get_9 : decode cL_get 9 = .ok (.lastore, 1) := by decide +kernel
theorem dL_get_10 : decode cL_get 10 = .ok (.goto 7, 3) := by decide +kernel
theorem dL_get_13 : decode cL_get 13 = .ok (.astore 4, 2) := by decide +kernel
theorem dL_get_15 : decode cL_get 15 = .ok (.iconst 1, 1) := by decide +kernel
theorem dL_get_16 : decode cL_get 16 = .ok (.ireturn, 1) := by decide +kernel
theorem dL_get_17 : decode cL_get 17 = .ok (.iconst 0, 1) := by decide +kernel
theorem dL_get_18 : decode cL_get 18 = .ok (.ireturn, 1) := by decide +kernel
theorem dL_put_0 : decode cL_put 0 = .ok (.aload 4, 2) := by decide +kernel
theorem dL_put_2 : decode cL_put 2 = .ok (.iconst 0, 1) := by decide +kernel
theorem dL_put_3 : decode cL_put 3 = .ok (.aload_n 0, 1) := by decide +kernel
theorem dL_put_4 : decode cL_put 4 = .ok (.iload_n 1, 1) := by decide +kernel
theorem dL_put_5 : decode cL_put 5 = .ok (.iload_n 2, 1) := by decide +kernel
theorem dL_put_6 : decode cL_put 6 = .ok (.iload_n 3, 1) := by decide +kernel
theorem dL_put_7 : decode cL_put 7 = .ok (.invokevirtual 27, 3) := by decide +kernel
theorem dL_put_10 : decode cL_put 10 = .ok (.i2l, 1) := by decide +kernel
theorem dL_put_11 : decode cL_put 11 = .ok (.lastore, 1) := by decide +kernel
theorem dL_put_12 : decode cL_put 12 = .ok (.goto 7, 3) := by decide +kernel
theorem dL_put_15 : decode cL_put 15 = .ok (.astore 5, 2) := by decide +kernel
theorem dL_put_17 : decode cL_put 17 = .ok (.iconst 1, 1) := by decide +kernel
theorem dL_put_18 : decode cL_put 18 = .ok (.ireturn, 1) := by decide +kernel
theorem dL_put_19 : decode cL_put 19 = .ok (.iconst 0, 1) := by decide +kernel
theorem dL_put_20 : decode cL_put 20 = .ok (.ireturn, 1) := by decide +kernel
theorem dL_fill_0 : decode cL_fill 0 = .ok (.aload 6, 2) := by decide +kernel
theorem dL_fill_2 : decode cL_fill 2 = .ok (.iconst 0, 1) := by decide +kernel
theorem dL_fill_3 : decode cL_fill 3 = .ok (.aload_n 0, 1) := by decide +kernel
theorem dL_fill_4 : decode cL_fill 4 = .ok (.iload_n 1, 1) := by decide +kernel
theorem dL_fill_5 : decode cL_fill 5 = .ok (.iload_n 2, 1) := by decide +kernel
theorem dL_fill_6 : decode cL_fill 6 = .ok (.iload_n 3, 1) := by decide +kernel
theorem dL_fill_7 : decode cL_fill 7 = .ok (.iload 4, 2) := by decide +kernel
theorem dL_fill_9 : decode cL_fill 9 = .ok (.iload 5, 2) := by decide +kernel
theorem dL_fill_11 : decode cL_fill 11 = .ok (.invokevirtual 31, 3) := by decide +kernel
theorem dL_fill_14 : decode cL_fill 14 = .ok (.i2l, 1) := by decide +kernel
theorem dL_fill_15 : decode cL_fill 15 = .ok (.lastore, 1) := by decide +kernel
theorem dL_fill_16 : decode cL_fill 16 = .ok (.goto 7, 3) := by decide +kernel
theorem dL_fill_19 : decode cL_fill 19 = .ok (.astore 7, 2) := by decide +kernel
theorem dL_fill_21 : decode cL_fill 21 = .ok (.iconst 1, 1) := by decide +kernel
theorem dL_fill_22 : decode cL_fill 22 = .ok (.ireturn, 1) := by decide +kernel
theorem dL_fill_23 : decode cL_fill 23 = .ok (.iconst 0, 1) := by decide +kernel
theorem dL_fill_24 : decode cL_fill 24 = .ok (.ireturn, 1) := by decide +kernel
theorem dL_isLike_0 : decode cL_isLike 0 = .ok (.aload_n 3, 1) := by decide +kernel
theorem dL_isLike_1 : decode cL_isLike 1 = .ok (.iconst 0, 1) := by decide +kernel
theorem dL_isLike_2 : decode cL_isLike 2 = .ok (.aload_n 0, 1) := by decide +kernel
theorem dL_isLike_3 : decode cL_isLike 3 = .ok (.iload_n 1, 1) := by decide +kernel
theorem dL_isLike_4 : decode cL_isLike 4 = .ok (.iload_n 2, 1) := by decide +kernel
theorem dL_isLike_5 : decode cL_isLike 5 = .ok (.invokevirtual 35, 3) := by decide +kernel
theorem dL_isLike_8 : decode cL_isLike 8 = .ok (.ifCond .eq 7, 3) := by decide +kernel
theorem dL_isLike_11 : decode cL_isLike 11 = .ok (.lconst 1, 1) := by decide +kernel
theorem dL_isLike_12 : decode cL_isLike 12 = .ok (.goto 4, 3) := by decide +kernel
theorem dL_isLike_15 : decode cL_isLike 15 = .ok (.lconst 0, 1) := by decide +kernel
theorem dL_isLike_16 : decode cL_isLike 16 = .ok (.lastore, 1) := by decide +kernel
theorem dL_isLike_17 : decode cL_isLike 17 = .ok (.goto 7, 3) := by decide +kernel
theorem dL_isLike_20 : decode cL_isLike 20 = .ok (.astore 4, 2) := by decide +kernel
theorem dL_isLike_22 : decode cL_isLike 22 = .ok (.iconst 1, 1) := by decide +kernel
theorem dL_isLike_23 : decode cL_isLike 23 = .ok (.ireturn, 1) := by decide +kernel
theorem dL_isLike_24 : decode cL_isLike 24 = .ok (.iconst 0, 1) := by decide +kernel
theorem dL_isLike_25 : decode cL_isLike 25 = .ok (.ireturn, 1) := by decide +kernel
theorem dL_write_0 : decode cL_write 0 = .ok (.aload_n 3, 1) := by decide +kernel
theorem dL_write_1 : decode cL_write 1 = .ok (.iconst 0, 1) := by decide +kernel
theorem dL_write_2 : decode cL_write 2 = .ok (.aload_n 0, 1) := by decide +kernel
theorem dL_write_3 : decode cL_write 3 = .ok (.iload_n 1, 1) := by decide +kernel
theorem dL_write_4 : decode cL_write 4 = .ok (.iload_n 2, 1) := by decide +kernel
theorem dL_write_5 : decode cL_write 5 = .ok (.invokevirtual 39, 3) := by decide +kernel
theorem dL_write_8 : decode cL_write 8 = .ok (.i2l, 1) := by decide +kernel
theorem dL_write_9 : decode cL_write 9 = .ok (.lastore, 1) := by decide +kernel
theorem dL_write_10 : decode cL_write 10 = .ok (.goto 11, 3) := by decide +kernel
theorem dL_write_13 : decode cL_write 13 = .ok (.astore 4, 2) := by decide +kernel
theorem dL_write_15 : decode cL_write 15 = .ok (.iconst 1, 1) := by decide +kernel
theorem dL_write_16 : decode cL_write 16 = .ok (.ireturn, 1) := by decide +kernel
theorem dL_write_17 : decode cL_write 17 = .ok (.astore 4, 2) := by decide +kernel
theorem dL_write_19 : decode cL_write 19 = .ok (.iconst 2, 1) := by decide +kernel
theorem dL_write_20 : decode cL_write 20 = .ok (.ireturn, 1) := by decide +kernel
theorem dL_write_21 : decode cL_write 21 = .ok (.iconst 0, 1) := by decide +kernel
theorem dL_write_22 : decode cL_write 22 = .ok (.ireturn, 1) := by decide +kernel
theorem dL_writePart_0 : decode cL_writePart 0 = .ok (.aload 5, 2) := by decide +kernel
theorem dL_writePart_2 : decode cL_writePart 2 = .ok (.iconst 0, 1) := by decide +kernel
theorem dL_writePart_3 : decode cL_writePart 3 = .ok (.aload_n 0, 1) := by decide +kernel
theorem dL_writePart_4 : decode cL_writePart 4 = .ok (.iload_n 1, 1) := by decide +kernel
theorem dL_writePart_5 : decode cL_writePart 5 = .ok (.iload_n 2, 1) := by decide +kernel
theorem dL_writePart_6 : decode cL_writePart 6 = .ok (.iload_n 3, 1) := by decide +kernel
theorem dL_writePart_7 : decode cL_writePart 7 = .ok (.iload 4, 2) := by decide +kernel
theorem dL_writePart_9 : decode cL_writePart 9 = .ok (.invokevirtual 44, 3) := by decide +kernel
theorem dL_writePart_12 : decode cL_writePart 12 = .ok (.i2l, 1) := by decide +kernel
theorem dL_writePart_13 : decode cL_writePart 13 = .ok (.lastore, 1) := by decide +kernel
theorem dL_writePart_14 : decode cL_writePart 14 = .ok (.goto 11, 3) := by decide +kernel
theorem dL_writePart_17 : decode cL_writePart 17 = .ok (.astore 6, 2) := by decide +kernel
theorem dL_writePart_19 : decode cL_writePart 19 = .ok (.iconst 1, 1) := by decide +kernel
theorem dL_writePart_20 : decode cL_writePart 20 = .ok (.ireturn, 1) := by decide +kernel
theorem dL_writePart_21 : decode cL_writePart 21 = .ok (.astore 6, 2) := by decide +kernel
theorem dL_writePart_23 : decode cL_writePart 23 = .ok (.iconst 2, 1) := by decide +kernel
theorem dL_writePart_24 : decode cL_writePart 24 = .ok (.ireturn, 1) := by decide +kernel
theorem dL_writePart_25 : decode cL_writePart 25 = .ok (.iconst 0, 1) := by decide +kernel
theorem dL_writePart_26 : decode cL_writePart 26 = .ok (.ireturn, 1) := by decide +kernel
theorem dL_writeRow_0 : decode cL_writeRow 0 = .ok (.aload_n 3, 1) := by decide +kernel
theorem dL_writeRow_1 : decode cL_writeRow 1 = .ok (.iconst 0, 1) := by decide +kernel
theorem dL_writeRow_2 : decode cL_writeRow 2 = .ok (.aload_n 0, 1) := by decide +kernel
theorem dL_writeRow_3 : decode cL_writeRow 3 = .ok (.iload_n 1, 1) := by decide +kernel
theorem dL_writeRow_4 : decode cL_writeRow 4 = .ok (.iload_n 2, 1) := by decide +kernel
theorem dL_writeRow_5 : decode cL_writeRow 5 = .ok (.invokevirtual 48, 3) := by decide +kernel
theorem dL_writeRow_8 : decode cL_writeRow 8 = .ok (.i2l, 1) := by decide +kernel
theorem dL_writeRow_9 : decode cL_writeRow 9 = .ok (.lastore, 1) := by decide +kernel
theorem dL_writeRow_10 : decode cL_writeRow 10 = .ok (.goto 11, 3) := by decide +kernel
theorem dL_writeRow_13 : decode cL_writeRow 13 = .ok (.astore 4, 2) := by decide +kernel
theorem dL_writeRow_15 : decode cL_writeRow 15 = .ok (.iconst 1, 1) := by decide +kernel
theorem dL_writeRow_16 : decode cL_writeRow 16 = .ok (.ireturn, 1) := by decide +kernel
theorem dL_writeRow_17 : decode cL_writeRow 17 = .ok (.astore 4, 2) := by decide +kernel
theorem dL_writeRow_19 : decode cL_writeRow 19 = .ok (.iconst 2, 1) := by decide +kernel
theorem dL_writeRow_20 : decode cL_writeRow 20 = .ok (.ireturn, 1) := by decide +kernel
theorem dL_writeRow_21 : decode cL_writeRow 21 = .ok (.iconst 0, 1) := by decide +kernel
theorem dL_writeRow_22 : decode cL_writeRow 22 = .ok (.ireturn, 1) := by decide +kernel
theorem dL_writeNumber_0 : decode cL_writeNumber 0 = .ok (.aload_n 3, 1) := by decide +kernel
theorem dL_writeNumber_1 : decode cL_writeNumber 1 = .ok (.iconst 0, 1) := by decide +kernel
theorem dL_writeNumber_2 : decode cL_writeNumber 2 = .ok (.aload_n 0, 1) := by decide +kernel
theorem dL_writeNumber_3 : decode cL_writeNumber 3 = .ok (.iload_n 1, 1) := by decide +kernel
theorem dL_writeNumber_4 : decode cL_writeNumber 4 = .ok (.iload_n 2, 1) := by decide +kernel
theorem dL_writeNumber_5 : decode cL_writeNumber 5 = .ok (.invokevirtual 51, 3) := by decide +kernel
theorem dL_writeNumber_8 : decode cL_writeNumber 8 = .ok (.i2l, 1) := by decide +kernel
theorem dL_writeNumber_9 : decode cL_writeNumber 9 = .ok (.lastore, 1) := by decide +kernel
theorem dL_writeNumber_10 : decode cL_writeNumber 10 = .ok (.goto 11, 3) := by decide +kernel
theorem dL_writeNumber_13 : decode cL_writeNumber 13 = .ok (.astore 4, 2) := by decide +kernel
theorem dL_writeNumber_15 : decode cL_writeNumber 15 = .ok (.iconst 1, 1) := by decide +kernel
theorem dL_writeNumber_16 : decode cL_writeNumber 16 = .ok (.ireturn, 1) := by decide +kernel
theorem dL_writeNumber_17 : decode cL_writeNumber 17 = .ok (.astore 4, 2) := by decide +kernel
theorem dL_writeNumber_19 : decode cL_writeNumber 19 = .ok (.iconst 2, 1) := by decide +kernel
theorem dL_writeNumber_20 : decode cL_writeNumber 20 = .ok (.ireturn, 1) := by decide +kernel
theorem dL_writeNumber_21 : decode cL_writeNumber 21 = .ok (.iconst 0, 1) := by decide +kernel
theorem dL_writeNumber_22 : decode cL_writeNumber 22 = .ok (.ireturn, 1) := by decide +kernel
theorem dL_size_0 : decode cL_size 0 = .ok (.aload_n 2, 1) := by decide +kernel
theorem dL_size_1 : decode cL_size 1 = .ok (.iconst 0, 1) := by decide +kernel
theorem dL_size_2 : decode cL_size 2 = .ok (.aload_n 0, 1) := by decide +kernel
theorem dL_size_3 : decode cL_size 3 = .ok (.iload_n 1, 1) := by decide +kernel
theorem dL_size_4 : decode cL_size 4 = .ok (.invokevirtual 54, 3) := by decide +kernel
theorem dL_size_7 : decode cL_size 7 = .ok (.i2l, 1) := by decide +kernel
theorem dL_size_8 : decode cL_size 8 = .ok (.lastore, 1) := by decide +kernel
theorem dL_size_9 : decode cL_size 9 = .ok (.goto 6, 3) := by decide +kernel
theorem dL_size_12 : decode cL_size 12 = .ok (.astore_n 3, 1) := by decide +kernel
theorem dL_size_13 : decode cL_size 13 = .ok (.iconst 1, 1) := by decide +kernel
theorem dL_size_14 : decode cL_size 14 = .ok (.ireturn, 1) := by decide +kernel
theorem dL_size_15 : decode cL_size 15 = .ok (.iconst 0, 1) := by decide +kernel
theorem dL_size_16 : decode cL_size 16 = .ok (.ireturn, 1) := by decide +kernel
theorem dL_empty_0 : decode cL_empty 0 = .ok (.aload_n 2, 1) := by decide +kernel
theorem dL_empty_1 : decode cL_empty 1 = .ok (.iconst 0, 1) := by decide +kernel
theorem dL_empty_2 : decode cL_empty 2 = .ok (.aload_n 0, 1) := by decide +kernel
theorem dL_empty_3 : decode cL_empty 3 = .ok (.iload_n 1, 1) := by decide +kernel
theorem dL_empty_4 : decode cL_empty 4 = .ok (.invokevirtual 57, 3) := by decide +kernel
theorem dL_empty_7 : decode cL_empty 7 = .ok (.i2l, 1) := by decide +kernel
theorem dL_empty_8 : decode cL_empty 8 = .ok (.lastore, 1) := by decide +kernel
theorem dL_empty_9 : decode cL_empty 9 = .ok (.goto 6, 3) := by decide +kernel
theorem dL_empty_12 : decode cL_empty 12 = .ok (.astore_n 3, 1) := by decide +kernel
theorem dL_empty_13 : decode cL_empty 13 = .ok (.iconst 1, 1) := by decide +kernel
theorem dL_empty_14 : decode cL_empty 14 = .ok (.ireturn, 1) := by decide +kernel
theorem dL_empty_15 : decode cL_empty 15 = .ok (.iconst 0, 1) := by decide +kernel
theorem dL_empty_16 : decode cL_empty 16 = .ok (.ireturn, 1) := by decide +kernel
theorem dL_take_0 : decode cL_take 0 = .ok (.aload_n 3, 1) := by decide +kernel
theorem dL_take_1 : decode cL_take 1 = .ok (.iconst 0, 1) := by decide +kernel
theorem dL_take_2 : decode cL_take 2 = .ok (.aload_n 0, 1) := by decide +kernel
theorem dL_take_3 : decode cL_take 3 = .ok (.iload_n 1, 1) := by decide +kernel
theorem dL_take_4 : decode cL_take 4 = .ok (.iload_n 2, 1) := by decide +kernel
theorem dL_take_5 : decode cL_take 5 = .ok (.invokevirtual 60, 3) := by decide +kernel
theorem dL_take_8 : decode cL_take 8 = .ok (.i2l, 1) := by decide +kernel
theorem dL_take_9 : decode cL_take 9 = .ok (.lastore, 1) := by decide +kernel
theorem dL_take_10 : decode cL_take 10 = .ok (.goto 7, 3) := by decide +kernel
theorem dL_take_13 : decode cL_take 13 = .ok (.astore 4, 2) := by decide +kernel
theorem dL_take_15 : decode cL_take 15 = .ok (.iconst 1, 1) := by decide +kernel
theorem dL_take_16 : decode cL_take 16 = .ok (.ireturn, 1) := by decide +kernel
theorem dL_take_17 : decode cL_take 17 = .ok (.iconst 0, 1) := by decide +kernel
theorem dL_take_18 : decode cL_take 18 = .ok (.ireturn, 1) := by decide +kernel
theorem dL_open_0 : decode cL_open 0 = .ok (.aload_n 3, 1) := by decide +kernel
theorem dL_open_1 : decode cL_open 1 = .ok (.iconst 0, 1) := by decide +kernel
theorem dL_open_2 : decode cL_open 2 = .ok (.aload_n 0, 1) := by decide +kernel
theorem dL_open_3 : decode cL_open 3 = .ok (.iload_n 1, 1) := by decide +kernel
theorem dL_open_4 : decode cL_open 4 = .ok (.iload_n 2, 1) := by decide +kernel
theorem dL_open_5 : decode cL_open 5 = .ok (.invokevirtual 63, 3) := by decide +kernel
theorem dL_open_8 : decode cL_open 8 = .ok (.i2l, 1) := by decide +kernel
theorem dL_open_9 : decode cL_open 9 = .ok (.lastore, 1) := by decide +kernel
theorem dL_open_10 : decode cL_open 10 = .ok (.goto 7, 3) := by decide +kernel
theorem dL_open_13 : decode cL_open 13 = .ok (.astore 4, 2) := by decide +kernel
theorem dL_open_15 : decode cL_open 15 = .ok (.iconst 1, 1) := by decide +kernel
theorem dL_open_16 : decode cL_open 16 = .ok (.ireturn, 1) := by decide +kernel
theorem dL_open_17 : decode cL_open 17 = .ok (.iconst 0, 1) := by decide +kernel
theorem dL_open_18 : decode cL_open 18 = .ok (.ireturn, 1) := by decide +kernel
theorem dL_isOpen_0 : decode cL_isOpen 0 = .ok (.aload_n 2, 1) := by decide +kernel
theorem dL_isOpen_1 : decode cL_isOpen 1 = .ok (.iconst 0, 1) := by decide +kernel
theorem dL_isOpen_2 : decode cL_isOpen 2 = .ok (.aload_n 0, 1) := by decide +kernel
theorem dL_isOpen_3 : decode cL_isOpen 3 = .ok (.iload_n 1, 1) := by decide +kernel
theorem dL_isOpen_4 : decode cL_isOpen 4 = .ok (.invokevirtual 66, 3) := by decide +kernel
theorem dL_isOpen_7 : decode cL_isOpen 7 = .ok (.ifCond .eq 7, 3) := by decide +kernel
theorem dL_isOpen_10 : decode cL_isOpen 10 = .ok (.lconst 1, 1) := by decide +kernel
theorem dL_isOpen_11 : decode cL_isOpen 11 = .ok (.goto 4, 3) := by decide +kernel
theorem dL_isOpen_14 : decode cL_isOpen 14 = .ok (.lconst 0, 1) := by decide +kernel
theorem dL_isOpen_15 : decode cL_isOpen 15 = .ok (.lastore, 1) := by decide +kernel
theorem dL_isOpen_16 : decode cL_isOpen 16 = .ok (.goto 6, 3) := by decide +kernel
theorem dL_isOpen_19 : decode cL_isOpen 19 = .ok (.astore_n 3, 1) := by decide +kernel
theorem dL_isOpen_20 : decode cL_isOpen 20 = .ok (.iconst 1, 1) := by decide +kernel
theorem dL_isOpen_21 : decode cL_isOpen 21 = .ok (.ireturn, 1) := by decide +kernel
theorem dL_isOpen_22 : decode cL_isOpen 22 = .ok (.iconst 0, 1) := by decide +kernel
theorem dL_isOpen_23 : decode cL_isOpen 23 = .ok (.ireturn, 1) := by decide +kernel
theorem dL_read_0 : decode cL_read 0 = .ok (.aload_n 2, 1) := by decide +kernel
theorem dL_read_1 : decode cL_read 1 = .ok (.iconst 0, 1) := by decide +kernel
theorem dL_read_2 : decode cL_read 2 = .ok (.aload_n 0, 1) := by decide +kernel
theorem dL_read_3 : decode cL_read 3 = .ok (.iload_n 1, 1) := by decide +kernel
theorem dL_read_4 : decode cL_read 4 = .ok (.invokevirtual 70, 3) := by decide +kernel
theorem dL_read_7 : decode cL_read 7 = .ok (.i2l, 1) := by decide +kernel
theorem dL_read_8 : decode cL_read 8 = .ok (.lastore, 1) := by decide +kernel
theorem dL_read_9 : decode cL_read 9 = .ok (.goto 9, 3) := by decide +kernel
theorem dL_read_12 : decode cL_read 12 = .ok (.astore_n 3, 1) := by decide +kernel
theorem dL_read_13 : decode cL_read 13 = .ok (.iconst 1, 1) := by decide +kernel
theorem dL_read_14 : decode cL_read 14 = .ok (.ireturn, 1) := by decide +kernel
theorem dL_read_15 : decode cL_read 15 = .ok (.astore_n 3, 1) := by decide +kernel
theorem dL_read_16 : decode cL_read 16 = .ok (.iconst 2, 1) := by decide +kernel
theorem dL_read_17 : decode cL_read 17 = .ok (.ireturn, 1) := by decide +kernel
theorem dL_read_18 : decode cL_read 18 = .ok (.iconst 0, 1) := by decide +kernel
theorem dL_read_19 : decode cL_read 19 = .ok (.ireturn, 1) := by decide +kernel
theorem dL_readPart_0 : decode cL_readPart 0 = .ok (.aload 5, 2) := by decide +kernel
theorem dL_readPart_2 : decode cL_readPart 2 = .ok (.iconst 0, 1) := by decide +kernel
theorem dL_readPart_3 : decode cL_readPart 3 = .ok (.aload_n 0, 1) := by decide +kernel
theorem dL_readPart_4 : decode cL_readPart 4 = .ok (.iload_n 1, 1) := by decide +kernel
theorem dL_readPart_5 : decode cL_readPart 5 = .ok (.iload_n 2, 1) := by decide +kernel
theorem dL_readPart_6 : decode cL_readPart 6 = .ok (.iload_n 3, 1) := by decide +kernel
theorem dL_readPart_7 : decode cL_readPart 7 = .ok (.iload 4, 2) := by decide +kernel
theorem dL_readPart_9 : decode cL_readPart 9 = .ok (.invokevirtual 75, 3) := by decide +kernel
theorem dL_readPart_12 : decode cL_readPart 12 = .ok (.i2l, 1) := by decide +kernel
theorem dL_readPart_13 : decode cL_readPart 13 = .ok (.lastore, 1) := by decide +kernel
theorem dL_readPart_14 : decode cL_readPart 14 = .ok (.goto 11, 3) := by decide +kernel
theorem dL_readPart_17 : decode cL_readPart 17 = .ok (.astore 6, 2) := by decide +kernel
theorem dL_readPart_19 : decode cL_readPart 19 = .ok (.iconst 1, 1) := by decide +kernel
theorem dL_readPart_20 : decode cL_readPart 20 = .ok (.ireturn, 1) := by decide +kernel
theorem dL_readPart_21 : decode cL_readPart 21 = .ok (.astore 6, 2) := by decide +kernel
theorem dL_readPart_23 : decode cL_readPart 23 = .ok (.iconst 2, 1) := by decide +kernel
theorem dL_readPart_24 : decode cL_readPart 24 = .ok (.ireturn, 1) := by decide +kernel
theorem dL_readPart_25 : decode cL_readPart 25 = .ok (.iconst 0, 1) := by decide +kernel
theorem dL_readPart_26 : decode cL_readPart 26 = .ok (.ireturn, 1) := by decide +kernel
theorem dL_readFull_0 : decode cL_readFull 0 = .ok (.aload 5, 2) := by decide +kernel
theorem dL_readFull_2 : decode cL_readFull 2 = .ok (.iconst 0, 1) := by decide +kernel
theorem dL_readFull_3 : decode cL_readFull 3 = .ok (.aload_n 0, 1) := by decide +kernel
theorem dL_readFull_4 : decode cL_readFull 4 = .ok (.iload_n 1, 1) := by decide +kernel
theorem dL_readFull_5 : decode cL_readFull 5 = .ok (.iload_n 2, 1) := by decide +kernel
theorem dL_readFull_6 : decode cL_readFull 6 = .ok (.iload_n 3, 1) := by decide +kernel
theorem dL_readFull_7 : decode cL_readFull 7 = .ok (.iload 4, 2) := by decide +kernel
theorem dL_readFull_9 : decode cL_readFull 9 = .ok (.invokevirtual 78, 3) := by decide +kernel
theorem dL_readFull_12 : decode cL_readFull 12 = .ok (.i2l, 1) := by decide +kernel
theorem dL_readFull_13 : decode cL_readFull 13 = .ok (.lastore, 1) := by decide +kernel
theorem dL_readFull_14 : decode cL_readFull 14 = .ok (.goto 15, 3) := by decide +kernel
theorem dL_readFull_17 : decode cL_readFull 17 = .ok (.astore 6, 2) := by decide +kernel
theorem dL_readFull_19 : decode cL_readFull 19 = .ok (.iconst 1, 1) := by decide +kernel
theorem dL_readFull_20 : decode cL_readFull 20 = .ok (.ireturn, 1) := by decide +kernel
theorem dL_readFull_21 : decode cL_readFull 21 = .ok (.astore 6, 2) := by decide +kernel
theorem dL_readFull_23 : decode cL_readFull 23 = .ok (.iconst 2, 1) := by decide +kernel
theorem dL_readFull_24 : decode cL_readFull 24 = .ok (.ireturn, 1) := by decide +kernel
theorem dL_readFull_25 : decode cL_readFull 25 = .ok (.astore 6, 2) := by decide +kernel
theorem dL_readFull_27 : decode cL_readFull 27 = .ok (.iconst 3, 1) := by decide +kernel
theorem dL_readFull_28 : decode cL_readFull 28 = .ok (.ireturn, 1) := by decide +kernel
theorem dL_readFull_29 : decode cL_readFull 29 = .ok (.iconst 0, 1) := by decide +kernel
theorem dL_readFull_30 : decode cL_readFull 30 = .ok (.ireturn, 1) := by decide +kernel
theorem dL_readSome_0 : decode cL_readSome 0 = .ok (.aload 4, 2) := by decide +kernel
theorem dL_readSome_2 : decode cL_readSome 2 = .ok (.iconst 0, 1) := by decide +kernel
theorem dL_readSome_3 : decode cL_readSome 3 = .ok (.aload_n 0, 1) := by decide +kernel
theorem dL_readSome_4 : decode cL_readSome 4 = .ok (.iload_n 1, 1) := by decide +kernel
theorem dL_readSome_5 : decode cL_readSome 5 = .ok (.iload_n 2, 1) := by decide +kernel
theorem dL_readSome_6 : decode cL_readSome 6 = .ok (.iload_n 3, 1) := by decide +kernel
theorem dL_readSome_7 : decode cL_readSome 7 = .ok (.invokevirtual 81, 3) := by decide +kernel
theorem dL_readSome_10 : decode cL_readSome 10 = .ok (.i2l, 1) := by decide +kernel
theorem dL_readSome_11 : decode cL_readSome 11 = .ok (.lastore, 1) := by decide +kernel
theorem dL_readSome_12 : decode cL_readSome 12 = .ok (.goto 15, 3) := by decide +kernel
theorem dL_readSome_15 : decode cL_readSome 15 = .ok (.astore 5, 2) := by decide +kernel
theorem dL_readSome_17 : decode cL_readSome 17 = .ok (.iconst 1, 1) := by decide +kernel
theorem dL_readSome_18 : decode cL_readSome 18 = .ok (.ireturn, 1) := by decide +kernel
theorem dL_readSome_19 : decode cL_readSome 19 = .ok (.astore 5, 2) := by decide +kernel
theorem dL_readSome_21 : decode cL_readSome 21 = .ok (.iconst 2, 1) := by decide +kernel
theorem dL_readSome_22 : decode cL_readSome 22 = .ok (.ireturn, 1) := by decide +kernel
theorem dL_readSome_23 : decode cL_readSome 23 = .ok (.astore 5, 2) := by decide +kernel
theorem dL_readSome_25 : decode cL_readSome 25 = .ok (.iconst 3, 1) := by decide +kernel
theorem dL_readSome_26 : decode cL_readSome 26 = .ok (.ireturn, 1) := by decide +kernel
theorem dL_readSome_27 : decode cL_readSome 27 = .ok (.iconst 0, 1) := by decide +kernel
theorem dL_readSome_28 : decode cL_readSome 28 = .ok (.ireturn, 1) := by decide +kernel
theorem dL_readNumber_0 : decode cL_readNumber 0 = .ok (.aload_n 2, 1) := by decide +kernel
theorem dL_readNumber_1 : decode cL_readNumber 1 = .ok (.iconst 0, 1) := by decide +kernel
theorem dL_readNumber_2 : decode cL_readNumber 2 = .ok (.aload_n 0, 1) := by decide +kernel
theorem dL_readNumber_3 : decode cL_readNumber 3 = .ok (.iload_n 1, 1) := by decide +kernel
theorem dL_readNumber_4 : decode cL_readNumber 4 = .ok (.invokevirtual 84, 3) := by decide +kernel
theorem dL_readNumber_7 : decode cL_readNumber 7 = .ok (.i2l, 1) := by decide +kernel
theorem dL_readNumber_8 : decode cL_readNumber 8 = .ok (.lastore, 1) := by decide +kernel
theorem dL_readNumber_9 : decode cL_readNumber 9 = .ok (.goto 12, 3) := by decide +kernel
theorem dL_readNumber_12 : decode cL_readNumber 12 = .ok (.astore_n 3, 1) := by decide +kernel
theorem dL_readNumber_13 : decode cL_readNumber 13 = .ok (.iconst 1, 1) := by decide +kernel
theorem dL_readNumber_14 : decode cL_readNumber 14 = .ok (.ireturn, 1) := by decide +kernel
theorem dL_readNumber_15 : decode cL_readNumber 15 = .ok (.astore_n 3, 1) := by decide +kernel
theorem dL_readNumber_16 : decode cL_readNumber 16 = .ok (.iconst 2, 1) := by decide +kernel
theorem dL_readNumber_17 : decode cL_readNumber 17 = .ok (.ireturn, 1) := by decide +kernel
theorem dL_readNumber_18 : decode cL_readNumber 18 = .ok (.astore_n 3, 1) := by decide +kernel
theorem dL_readNumber_19 : decode cL_readNumber 19 = .ok (.iconst 3, 1) := by decide +kernel
theorem dL_readNumber_20 : decode cL_readNumber 20 = .ok (.ireturn, 1) := by decide +kernel
theorem dL_readNumber_21 : decode cL_readNumber 21 = .ok (.iconst 0, 1) := by decide +kernel
theorem dL_readNumber_22 : decode cL_readNumber 22 = .ok (.ireturn, 1) := by decide +kernel
theorem dL_readLine_0 : decode cL_readLine 0 = .ok (.aload_n 3, 1) := by decide +kernel
theorem dL_readLine_1 : decode cL_readLine 1 = .ok (.iconst 0, 1) := by decide +kernel
theorem dL_readLine_2 : decode cL_readLine 2 = .ok (.aload_n 0, 1) := by decide +kernel
theorem dL_readLine_3 : decode cL_readLine 3 = .ok (.iload_n 1, 1) := by decide +kernel
theorem dL_readLine_4 : decode cL_readLine 4 = .ok (.iload_n 2, 1) := by decide +kernel
theorem dL_readLine_5 : decode cL_readLine 5 = .ok (.invokevirtual 89, 3) := by decide +kernel
theorem dL_readLine_8 : decode cL_readLine 8 = .ok (.i2l, 1) := by decide +kernel
theorem dL_readLine_9 : decode cL_readLine 9 = .ok (.lastore, 1) := by decide +kernel
theorem dL_readLine_10 : decode cL_readLine 10 = .ok (.goto 11, 3) := by decide +kernel
theorem dL_readLine_13 : decode cL_readLine 13 = .ok (.astore 4, 2) := by decide +kernel
theorem dL_readLine_15 : decode cL_readLine 15 = .ok (.iconst 1, 1) := by decide +kernel
theorem dL_readLine_16 : decode cL_readLine 16 = .ok (.ireturn, 1) := by decide +kernel
theorem dL_readLine_17 : decode cL_readLine 17 = .ok (.astore 4, 2) := by decide +kernel
theorem dL_readLine_19 : decode cL_readLine 19 = .ok (.iconst 2, 1) := by decide +kernel
theorem dL_readLine_20 : decode cL_readLine 20 = .ok (.ireturn, 1) := by decide +kernel
theorem dL_readLine_21 : decode cL_readLine 21 = .ok (.iconst 0, 1) := by decide +kernel
theorem dL_readLine_22 : decode cL_readLine 22 = .ok (.ireturn, 1) := by decide +kernel
theorem dL_find_0 : decode cL_find 0 = .ok (.aload_n 3, 1) := by decide +kernel
theorem dL_find_1 : decode cL_find 1 = .ok (.iconst 0, 1) := by decide +kernel
theorem dL_find_2 : decode cL_find 2 = .ok (.aload_n 0, 1) := by decide +kernel
theorem dL_find_3 : decode cL_find 3 = .ok (.iload_n 1, 1) := by decide +kernel
theorem dL_find_4 : decode cL_find 4 = .ok (.iload_n 2, 1) := by decide +kernel
theorem dL_find_5 : decode cL_find 5 = .ok (.invokevirtual 92, 3) := by decide +kernel
theorem dL_find_8 : decode cL_find 8 = .ok (.i2l, 1) := by decide +kernel
theorem dL_find_9 : decode cL_find 9 = .ok (.lastore, 1) := by decide +kernel
theorem dL_find_10 : decode cL_find 10 = .ok (.goto 11, 3) := by decide +kernel
theorem dL_find_13 : decode cL_find 13 = .ok (.astore 4, 2) := by decide +kernel
theorem dL_find_15 : decode cL_find 15 = .ok (.iconst 1, 1) := by decide +kernel
theorem dL_find_16 : decode cL_find 16 = .ok (.ireturn, 1) := by decide +kernel
theorem dL_find_17 : decode cL_find 17 = .ok (.astore 4, 2) := by decide +kernel
theorem dL_find_19 : decode cL_find 19 = .ok (.iconst 2, 1) := by decide +kernel
theorem dL_find_20 : decode cL_find 20 = .ok (.ireturn, 1) := by decide +kernel
theorem dL_find_21 : decode cL_find 21 = .ok (.iconst 0, 1) := by decide +kernel
theorem dL_find_22 : decode cL_find 22 = .ok (.ireturn, 1) := by decide +kernel
theorem dL_skip_0 : decode cL_skip 0 = .ok (.aload 4, 2) := by decide +kernel
theorem dL_skip_2 : decode cL_skip 2 = .ok (.iconst 0, 1) := by decide +kernel
theorem dL_skip_3 : decode cL_skip 3 = .ok (.aload_n 0, 1) := by decide +kernel
theorem dL_skip_4 : decode cL_skip 4 = .ok (.iload_n 1, 1) := by decide +kernel
theorem dL_skip_5 : decode cL_skip 5 = .ok (.lload_n 2, 1) := by decide +kernel
theorem dL_skip_6 : decode cL_skip 6 = .ok (.invokevirtual 95, 3) := by decide +kernel
theorem dL_skip_9 : decode cL_skip 9 = .ok (.lastore, 1) := by decide +kernel
theorem dL_skip_10 : decode cL_skip 10 = .ok (.goto 15, 3) := by decide +kernel
theorem dL_skip_13 : decode cL_skip 13 = .ok (.astore 5, 2) := by decide +kernel
theorem dL_skip_15 : decode cL_skip 15 = .ok (.iconst 1, 1) := by decide +kernel
theorem dL_skip_16 : decode cL_skip 16 = .ok (.ireturn, 1) := by decide +kernel
theorem dL_skip_17 : decode cL_skip 17 = .ok (.astore 5, 2) := by decide +kernel
theorem dL_skip_19 : decode cL_skip 19 = .ok (.iconst 2, 1) := by decide +kernel
theorem dL_skip_20 : decode cL_skip 20 = .ok (.ireturn, 1) := by decide +kernel
theorem dL_skip_21 : decode cL_skip 21 = .ok (.astore 5, 2) := by decide +kernel
theorem dL_skip_23 : decode cL_skip 23 = .ok (.iconst 3, 1) := by decide +kernel
theorem dL_skip_24 : decode cL_skip 24 = .ok (.ireturn, 1) := by decide +kernel
theorem dL_skip_25 : decode cL_skip 25 = .ok (.iconst 0, 1) := by decide +kernel
theorem dL_skip_26 : decode cL_skip 26 = .ok (.ireturn, 1) := by decide +kernel
theorem dL_left_0 : decode cL_left 0 = .ok (.aload_n 2, 1) := by decide +kernel
theorem dL_left_1 : decode cL_left 1 = .ok (.iconst 0, 1) := by decide +kernel
theorem dL_left_2 : decode cL_left 2 = .ok (.aload_n 0, 1) := by decide +kernel
theorem dL_left_3 : decode cL_left 3 = .ok (.iload_n 1, 1) := by decide +kernel
theorem dL_left_4 : decode cL_left 4 = .ok (.invokevirtual 99, 3) := by decide +kernel
theorem dL_left_7 : decode cL_left 7 = .ok (.i2l, 1) := by decide +kernel
theorem dL_left_8 : decode cL_left 8 = .ok (.lastore, 1) := by decide +kernel
theorem dL_left_9 : decode cL_left 9 = .ok (.goto 9, 3) := by decide +kernel
theorem dL_left_12 : decode cL_left 12 = .ok (.astore_n 3, 1) := by decide +kernel
theorem dL_left_13 : decode cL_left 13 = .ok (.iconst 1, 1) := by decide +kernel
theorem dL_left_14 : decode cL_left 14 = .ok (.ireturn, 1) := by decide +kernel
theorem dL_left_15 : decode cL_left 15 = .ok (.astore_n 3, 1) := by decide +kernel
theorem dL_left_16 : decode cL_left 16 = .ok (.iconst 2, 1) := by decide +kernel
theorem dL_left_17 : decode cL_left 17 = .ok (.ireturn, 1) := by decide +kernel
theorem dL_left_18 : decode cL_left 18 = .ok (.iconst 0, 1) := by decide +kernel
theorem dL_left_19 : decode cL_left 19 = .ok (.ireturn, 1) := by decide +kernel
theorem dL_mark_0 : decode cL_mark 0 = .ok (.aload_n 3, 1) := by decide +kernel
theorem dL_mark_1 : decode cL_mark 1 = .ok (.iconst 0, 1) := by decide +kernel
theorem dL_mark_2 : decode cL_mark 2 = .ok (.aload_n 0, 1) := by decide +kernel
theorem dL_mark_3 : decode cL_mark 3 = .ok (.iload_n 1, 1) := by decide +kernel
theorem dL_mark_4 : decode cL_mark 4 = .ok (.iload_n 2, 1) := by decide +kernel
theorem dL_mark_5 : decode cL_mark 5 = .ok (.invokevirtual 102, 3) := by decide +kernel
theorem dL_mark_8 : decode cL_mark 8 = .ok (.i2l, 1) := by decide +kernel
theorem dL_mark_9 : decode cL_mark 9 = .ok (.lastore, 1) := by decide +kernel
theorem dL_mark_10 : decode cL_mark 10 = .ok (.goto 11, 3) := by decide +kernel
theorem dL_mark_13 : decode cL_mark 13 = .ok (.astore 4, 2) := by decide +kernel
theorem dL_mark_15 : decode cL_mark 15 = .ok (.iconst 1, 1) := by decide +kernel
theorem dL_mark_16 : decode cL_mark 16 = .ok (.ireturn, 1) := by decide +kernel
theorem dL_mark_17 : decode cL_mark 17 = .ok (.astore 4, 2) := by decide +kernel
theorem dL_mark_19 : decode cL_mark 19 = .ok (.iconst 2, 1) := by decide +kernel
theorem dL_mark_20 : decode cL_mark 20 = .ok (.ireturn, 1) := by decide +kernel
theorem dL_mark_21 : decode cL_mark 21 = .ok (.iconst 0, 1) := by decide +kernel
theorem dL_mark_22 : decode cL_mark 22 = .ok (.ireturn, 1) := by decide +kernel
theorem dL_back_0 : decode cL_back 0 = .ok (.aload_n 2, 1) := by decide +kernel
theorem dL_back_1 : decode cL_back 1 = .ok (.iconst 0, 1) := by decide +kernel
theorem dL_back_2 : decode cL_back 2 = .ok (.aload_n 0, 1) := by decide +kernel
theorem dL_back_3 : decode cL_back 3 = .ok (.iload_n 1, 1) := by decide +kernel
theorem dL_back_4 : decode cL_back 4 = .ok (.invokevirtual 105, 3) := by decide +kernel
theorem dL_back_7 : decode cL_back 7 = .ok (.i2l, 1) := by decide +kernel
theorem dL_back_8 : decode cL_back 8 = .ok (.lastore, 1) := by decide +kernel
theorem dL_back_9 : decode cL_back 9 = .ok (.goto 9, 3) := by decide +kernel
theorem dL_back_12 : decode cL_back 12 = .ok (.astore_n 3, 1) := by decide +kernel
theorem dL_back_13 : decode cL_back 13 = .ok (.iconst 1, 1) := by decide +kernel
theorem dL_back_14 : decode cL_back 14 = .ok (.ireturn, 1) := by decide +kernel
theorem dL_back_15 : decode cL_back 15 = .ok (.astore_n 3, 1) := by decide +kernel
theorem dL_back_16 : decode cL_back 16 = .ok (.iconst 2, 1) := by decide +kernel
theorem dL_back_17 : decode cL_back 17 = .ok (.ireturn, 1) := by decide +kernel
theorem dL_back_18 : decode cL_back 18 = .ok (.iconst 0, 1) := by decide +kernel
theorem dL_back_19 : decode cL_back 19 = .ok (.ireturn, 1) := by decide +kernel
theorem dL_pour_0 : decode cL_pour 0 = .ok (.aload_n 3, 1) := by decide +kernel
theorem dL_pour_1 : decode cL_pour 1 = .ok (.iconst 0, 1) := by decide +kernel
theorem dL_pour_2 : decode cL_pour 2 = .ok (.aload_n 0, 1) := by decide +kernel
theorem dL_pour_3 : decode cL_pour 3 = .ok (.iload_n 1, 1) := by decide +kernel
theorem dL_pour_4 : decode cL_pour 4 = .ok (.iload_n 2, 1) := by decide +kernel
theorem dL_pour_5 : decode cL_pour 5 = .ok (.invokevirtual 108, 3) := by decide +kernel
theorem dL_pour_8 : decode cL_pour 8 = .ok (.i2l, 1) := by decide +kernel
theorem dL_pour_9 : decode cL_pour 9 = .ok (.lastore, 1) := by decide +kernel
theorem dL_pour_10 : decode cL_pour 10 = .ok (.goto 15, 3) := by decide +kernel
theorem dL_pour_13 : decode cL_pour 13 = .ok (.astore 4, 2) := by decide +kernel
theorem dL_pour_15 : decode cL_pour 15 = .ok (.iconst 1, 1) := by decide +kernel
theorem dL_pour_16 : decode cL_pour 16 = .ok (.ireturn, 1) := by decide +kernel
theorem dL_pour_17 : decode cL_pour 17 = .ok (.astore 4, 2) := by decide +kernel
theorem dL_pour_19 : decode cL_pour 19 = .ok (.iconst 2, 1) := by decide +kernel
theorem dL_pour_20 : decode cL_pour 20 = .ok (.ireturn, 1) := by decide +kernel
theorem dL_pour_21 : decode cL_pour 21 = .ok (.astore 4, 2) := by decide +kernel
theorem dL_pour_23 : decode cL_pour 23 = .ok (.iconst 3, 1) := by decide +kernel
theorem dL_pour_24 : decode cL_pour 24 = .ok (.ireturn, 1) := by decide +kernel
theorem dL_pour_25 : decode cL_pour 25 = .ok (.iconst 0, 1) := by decide +kernel
theorem dL_pour_26 : decode cL_pour 26 = .ok (.ireturn, 1) := by decide +kernel
theorem dL_pourParts_0 : decode cL_pourParts 0 = .ok (.aload 4, 2) := by decide +kernel
theorem dL_pourParts_2 : decode cL_pourParts 2 = .ok (.iconst 0, 1) := by decide +kernel
theorem dL_pourParts_3 : decode cL_pourParts 3 = .ok (.aload_n 0, 1) := by decide +kernel
theorem dL_pourParts_4 : decode cL_pourParts 4 = .ok (.iload_n 1, 1) := by decide +kernel
theorem dL_pourParts_5 : decode cL_pourParts 5 = .ok (.iload_n 2, 1) := by decide +kernel
theorem dL_pourParts_6 : decode cL_pourParts 6 = .ok (.iload_n 3, 1) := by decide +kernel
theorem dL_pourParts_7 : decode cL_pourParts 7 = .ok (.invokevirtual 111, 3) := by decide +kernel
theorem dL_pourParts_10 : decode cL_pourParts 10 = .ok (.i2l, 1) := by decide +kernel
theorem dL_pourParts_11 : decode cL_pourParts 11 = .ok (.lastore, 1) := by decide +kernel
theorem dL_pourParts_12 : decode cL_pourParts 12 = .ok (.goto 19, 3) := by decide +kernel
theorem dL_pourParts_15 : decode cL_pourParts 15 = .ok (.astore 5, 2) := by decide +kernel
theorem dL_pourParts_17 : decode cL_pourParts 17 = .ok (.iconst 1, 1) := by decide +kernel
theorem dL_pourParts_18 : decode cL_pourParts 18 = .ok (.ireturn, 1) := by decide +kernel
theorem dL_pourParts_19 : decode cL_pourParts 19 = .ok (.astore 5, 2) := by decide +kernel
theorem dL_pourParts_21 : decode cL_pourParts 21 = .ok (.iconst 2, 1) := by decide +kernel
theorem dL_pourParts_22 : decode cL_pourParts 22 = .ok (.ireturn, 1) := by decide +kernel
theorem dL_pourParts_23 : decode cL_pourParts 23 = .ok (.astore 5, 2) := by decide +kernel
theorem dL_pourParts_25 : decode cL_pourParts 25 = .ok (.iconst 3, 1) := by decide +kernel
theorem dL_pourParts_26 : decode cL_pourParts 26 = .ok (.ireturn, 1) := by decide +kernel
theorem dL_pourParts_27 : decode cL_pourParts 27 = .ok (.astore 5, 2) := by decide +kernel
theorem dL_pourParts_29 : decode cL_pourParts 29 = .ok (.iconst 4, 1) := by decide +kernel
theorem dL_pourParts_30 : decode cL_pourParts 30 = .ok (.ireturn, 1) := by decide +kernel
theorem dL_pourParts_31 : decode cL_pourParts 31 = .ok (.iconst 0, 1) := by decide +kernel
theorem dL_pourParts_32 : decode cL_pourParts 32 = .ok (.ireturn, 1) := by decide +kernel
theorem dL_alike_0 : decode cL_alike 0 = .ok (.aload_n 3, 1) := by decide +kernel
theorem dL_alike_1 : decode cL_alike 1 = .ok (.iconst 0, 1) := by decide +kernel
theorem dL_alike_2 : decode cL_alike 2 = .ok (.aload_n 0, 1) := by decide +kernel
theorem dL_alike_3 : decode cL_alike 3 = .ok (.iload_n 1, 1) := by decide +kernel
theorem dL_alike_4 : decode cL_alike 4 = .ok (.iload_n 2, 1) := by decide +kernel
theorem dL_alike_5 : decode cL_alike 5 = .ok (.invokevirtual 114, 3) := by decide +kernel
theorem dL_alike_8 : decode cL_alike 8 = .ok (.i2l, 1) := by decide +kernel
theorem dL_alike_9 : decode cL_alike 9 = .ok (.lastore, 1) := by decide +kernel
theorem dL_alike_10 : decode cL_alike 10 = .ok (.goto 15, 3) := by decide +kernel
theorem dL_alike_13 : decode cL_alike 13 = .ok (.astore 4, 2) := by decide +kernel
theorem dL_alike_15 : decode cL_alike 15 = .ok (.iconst 1, 1) := by decide +kernel
theorem dL_alike_16 : decode cL_alike 16 = .ok (.ireturn, 1) := by decide +kernel
theorem dL_alike_17 : decode cL_alike 17 = .ok (.astore 4, 2) := by decide +kernel
theorem dL_alike_19 : decode cL_alike 19 = .ok (.iconst 2, 1) := by decide +kernel
theorem dL_alike_20 : decode cL_alike 20 = .ok (.ireturn, 1) := by decide +kernel
theorem dL_alike_21 : decode cL_alike 21 = .ok (.astore 4, 2) := by decide +kernel
theorem dL_alike_23 : decode cL_alike 23 = .ok (.iconst 3, 1) := by decide +kernel
theorem dL_alike_24 : decode cL_alike 24 = .ok (.ireturn, 1) := by decide +kernel
theorem dL_alike_25 : decode cL_alike 25 = .ok (.iconst 0, 1) := by decide +kernel
theorem dL_alike_26 : decode cL_alike 26 = .ok (.ireturn, 1) := by decide +kernel
theorem dL_leftShare_0 : decode cL_leftShare 0 = .ok (.aload_n 2, 1) := by decide +kernel
theorem dL_leftShare_1 : decode cL_leftShare 1 = .ok (.iconst 0, 1) := by decide +kernel
theorem dL_leftShare_2 : decode cL_leftShare 2 = .ok (.aload_n 0, 1) := by decide +kernel
theorem dL_leftShare_3 : decode cL_leftShare 3 = .ok (.iload_n 1, 1) := by decide +kernel
theorem dL_leftShare_4 : decode cL_leftShare 4 = .ok (.invokevirtual 117, 3) := by decide +kernel
theorem dL_leftShare_7 : decode cL_leftShare 7 = .ok (.f2d, 1) := by decide +kernel
theorem dL_leftShare_8 : decode cL_leftShare 8 = .ok (.dastore, 1) := by decide +kernel
theorem dL_leftShare_9 : decode cL_leftShare 9 = .ok (.goto 12, 3) := by decide +kernel
theorem dL_leftShare_12 : decode cL_leftShare 12 = .ok (.astore_n 3, 1) := by decide +kernel
theorem dL_leftShare_13 : decode cL_leftShare 13 = .ok (.iconst 1, 1) := by decide +kernel
theorem dL_leftShare_14 : decode cL_leftShare 14 = .ok (.ireturn, 1) := by decide +kernel
theorem dL_leftShare_15 : decode cL_leftShare 15 = .ok (.astore_n 3, 1) := by decide +kernel
theorem dL_leftShare_16 : decode cL_leftShare 16 = .ok (.iconst 2, 1) := by decide +kernel
theorem dL_leftShare_17 : decode cL_leftShare 17 = .ok (.ireturn, 1) := by decide +kernel
theorem dL_leftShare_18 : decode cL_leftShare 18 = .ok (.astore_n 3, 1) := by decide +kernel
theorem dL_leftShare_19 : decode cL_leftShare 19 = .ok (.iconst 3, 1) := by decide +kernel
theorem dL_leftShare_20 : decode cL_leftShare 20 = .ok (.ireturn, 1) := by decide +kernel
theorem dL_leftShare_21 : decode cL_leftShare 21 = .ok (.iconst 0, 1) := by decide +kernel
theorem dL_leftShare_22 : decode cL_leftShare 22 = .ok (.ireturn, 1) := by decide +kernel
theorem dL_meanSize_0 : decode cL_meanSize 0 = .ok (.aload_n 1, 1) := by decide +kernel
theorem dL_meanSize_1 : decode cL_meanSize 1 = .ok (.iconst 0, 1) := by decide +kernel
theorem dL_meanSize_2 : decode cL_meanSize 2 = .ok (.aload_n 0, 1) := by decide +kernel
theorem dL_meanSize_3 : decode cL_meanSize 3 = .ok (.invokevirtual 123, 3) := by decide +kernel
theorem dL_meanSize_6 : decode cL_meanSize 6 = .ok (.dastore, 1) := by decide +kernel
theorem dL_meanSize_7 : decode cL_meanSize 7 = .ok (.goto 6, 3) := by decide +kernel
theorem dL_meanSize_10 : decode cL_meanSize 10 = .ok (.astore_n 2, 1) := by decide +kernel
theorem dL_meanSize_11 : decode cL_meanSize 11 = .ok (.iconst 1, 1) := by decide +kernel
theorem dL_meanSize_12 : decode cL_meanSize 12 = .ok (.ireturn, 1) := by decide +kernel
theorem dL_meanSize_13 : decode cL_meanSize 13 = .ok (.iconst 0, 1) := by decide +kernel
theorem dL_meanSize_14 : decode cL_meanSize 14 = .ok (.ireturn, 1) := by decide +kernel
end
section
/-! the V layer: the machine at a pc, with the world ws, the locals lv and the operand stack st; the heap itself stays hidden -/
abbrev vAb (sb : Nat) : Nat → Prop := fun q => sb ≤ q
/-- what stays the same during a walk of one method -/
def vCX (p : Program) (s : State) (m : MethodId) (args : Array Value) (meth : Method) (c : Code) (cc : ByteArray) (nL : Nat) (own : String) (Ts : List Cond) (D : va_G) (cl : List vw_C) (tys : List (ClassId × FieldType)) (sb : Nat) : Prop :=
  p.tables.exec = Jvm.exec ∧ c.code = cc ∧ c.maxLocals = nL ∧ s.vm.findClass own = some m.cls ∧ (∀ w ∈ Ts, w.before args s = true) ∧ va_K D cl tys s ∧ sb ≤ s.heap.size ∧ meth.locks = false
def vV (p : Program) (l : Launch) (e : Env) (R : Room) (s : State) (m : MethodId) (args : Array Value) (below : List Frame) (meth : Method) (c : Code) (nL : Nat) (D : va_G) (cl : List vw_C) (sb : Nat) (Q : State → Prop) (ws : va_W) (cells slots : Nat) (pc : Nat) (lv : List (Nat × Value)) (st : List Value) : Prop :=
  ∀ (H : Heap) (locs : List Loc) (ls : Array Slot), va_P D cl ws H → va_D (vAb sb) ws → va_S (vAb sb) s.heap H locs → lv_has ls nL lv → W p l e R s m args below meth c H locs cells slots Q (F0 m pc ls st)
section VV
variable {p : Program} {l : Launch} {e : Env} {R : Room} {s : State} {m : MethodId} {args : Array Value} {below : List Frame} {meth : Method} {c : Code} {cc : ByteArray} {nL : Nat} {own : String} {Ts : List Cond} {D : va_G} {cl : List vw_C} {tys : List (ClassId × FieldType)} {sb : Nat} {Q : State → Prop} {ws : va_W} {cells slots : Nat} {pc : Nat} {lv : List (Nat × Value)} {rest : List Value}
theorem vIconst (X : vCX p s m args meth c cc nL own Ts D cl tys sb) {n : Int} {v : Int32} (hd : decode cc pc = .ok (.iconst n, 1)) (hv : Int32.ofInt n = v) (k : vV p l e R s m args below meth c nL D cl sb Q ws cells slots (pc + 1) lv (.int v :: rest)) : vV p l e R s m args below meth c nL D cl sb Q ws cells slots pc lv (rest) :=
  fun H locs ls hP hD hS hl => lv_iconst X.1 X.2.1 hd hv (k H locs ls hP hD hS hl)
theorem vBipush (X : vCX p s m args meth c cc nL own Ts D cl tys sb) {n : Int} {v : Int32} (hd : decode cc pc = .ok (.bipush n, 2)) (hv : (Int8.ofInt n).toInt32 = v) (k : vV p l e R s m args below meth c nL D cl sb Q ws cells slots (pc + 2) lv (.int v :: rest)) : vV p l e R s m args below meth c nL D cl sb Q ws cells slots pc lv (rest) :=
  fun H locs ls hP hD hS hl => lv_bipush X.1 X.2.1 hd hv (k H locs ls hP hD hS hl)
theorem vSipush (X : vCX p s m args meth c cc nL own Ts D cl tys sb) {n : Int} {v : Int32} (hd : decode cc pc = .ok (.sipush n, 3)) (hv : (Int16.ofInt n).toInt32 = v) (k : vV p l e R s m args below meth c nL D cl sb Q ws cells slots (pc + 3) lv (.int v :: rest)) : vV p l e R s m args below meth c nL D cl sb Q ws cells slots pc lv (rest) :=
  fun H locs ls hP hD hS hl => lv_sipush X.1 X.2.1 hd hv (k H locs ls hP hD hS hl)
theorem vLconst (X : vCX p s m args meth c cc nL own Ts D cl tys sb) {n : Fin 2} {v : Int64} (hd : decode cc pc = .ok (.lconst n, 1)) (hv : Int64.ofNat (n : Nat) = v) (k : vV p l e R s m args below meth c nL D cl sb Q ws cells slots (pc + 1) lv (.long v :: rest)) : vV p l e R s m args below meth c nL D cl sb Q ws cells slots pc lv (rest) :=
  fun H locs ls hP hD hS hl => lv_lconst X.1 X.2.1 hd hv (k H locs ls hP hD hS hl)
theorem vFconst0 (X : vCX p s m args meth c cc nL own Ts D cl tys sb)  (hd : decode cc pc = .ok (.fconst 0, 1))  (k : vV p l e R s m args below meth c nL D cl sb Q ws cells slots (pc + 1) lv (.float FP.fconst0 :: rest)) : vV p l e R s m args below meth c nL D cl sb Q ws cells slots pc lv (rest) :=
  fun H locs ls hP hD hS hl => lv_fconst0 X.1 X.2.1 hd  (k H locs ls hP hD hS hl)
theorem vDconst0 (X : vCX p s m args meth c cc nL own Ts D cl tys sb)  (hd : decode cc pc = .ok (.dconst 0, 1))  (k : vV p l e R s m args below meth c nL D cl sb Q ws cells slots (pc + 1) lv (.double FP.dconst0 :: rest)) : vV p l e R s m args below meth c nL D cl sb Q ws cells slots pc lv (rest) :=
  fun H locs ls hP hD hS hl => lv_dconst0 X.1 X.2.1 hd  (k H locs ls hP hD hS hl)
theorem vIloadN (X : vCX p s m args meth c cc nL own Ts D cl tys sb) {k : Fin 4} {x : Int32} (hd : decode cc pc = .ok (.iload_n k, 1)) (j : Nat) (hj : lv[j]? = some ((k : Nat), .int x)) (kk : vV p l e R s m args below meth c nL D cl sb Q ws cells slots (pc + 1) lv (.int x :: rest)) : vV p l e R s m args below meth c nL D cl sb Q ws cells slots pc lv rest :=
  fun H locs ls hP hD hS hl => lv_iload_n X.1 X.2.1 hd rfl (lv_at hl j hj) (kk H locs ls hP hD hS hl)
theorem vIload (X : vCX p s m args meth c cc nL own Ts D cl tys sb) {i : Nat} {x : Int32} (hd : decode cc pc = .ok (.iload i, 2)) (j : Nat) (hj : lv[j]? = some (i, .int x)) (kk : vV p l e R s m args below meth c nL D cl sb Q ws cells slots (pc + 2) lv (.int x :: rest)) : vV p l e R s m args below meth c nL D cl sb Q ws cells slots pc lv rest :=
  fun H locs ls hP hD hS hl => lv_iload X.1 X.2.1 hd (lv_at hl j hj) (kk H locs ls hP hD hS hl)
theorem vIstoreN (X : vCX p s m args meth c cc nL own Ts D cl tys sb) {k : Fin 4} {x : Int32} (lv' : List (Nat × Value)) (hd : decode cc pc = .ok (.istore_n k, 1)) (hn : (k : Nat) < nL) (hl' : ((k : Nat), .int x) :: lv.filter (fun q => !(q.1 == (k : Nat)) && !(q.1 + 1 == (k : Nat) && q.2.category == 2)) = lv') (kk : vV p l e R s m args below meth c nL D cl sb Q ws cells slots (pc + 1) lv' rest) : vV p l e R s m args below meth c nL D cl sb Q ws cells slots pc lv (.int x :: rest) :=
  fun H locs ls hP hD hS hl => lv_istore_n X.1 X.2.1 hd rfl hl hn hl' (fun ls' hl2 => kk H locs ls' hP hD hS hl2)
theorem vIstore (X : vCX p s m args meth c cc nL own Ts D cl tys sb) {i : Nat} {x : Int32} (lv' : List (Nat × Value)) (hd : decode cc pc = .ok (.istore i, 2)) (hn : i < nL) (hl' : (i, .int x) :: lv.filter (fun q => !(q.1 == i) && !(q.1 + 1 == i && q.2.category == 2)) = lv') (kk : vV p l e R s m args below meth c nL D cl sb Q ws cells slots (pc + 2) lv' rest) : vV p l e R s m args below meth c nL D cl sb Q ws cells slots pc lv (.int x :: rest) :=
  fun H locs ls hP hD hS hl => lv_istore X.1 X.2.1 hd hl hn hl' (fun ls' hl2 => kk H locs ls' hP hD hS hl2)
theorem vLloadN (X : vCX p s m args meth c cc nL own Ts D cl tys sb) {k : Fin 4} {x : Int64} (hd : decode cc pc = .ok (.lload_n k, 1)) (j : Nat) (hj : lv[j]? = some ((k : Nat), .long x)) (kk : vV p l e R s m args below meth c nL D cl sb Q ws cells slots (pc + 1) lv (.long x :: rest)) : vV p l e R s m args below meth c nL D cl sb Q ws cells slots pc lv rest :=
  fun H locs ls hP hD hS hl => lv_lload_n X.1 X.2.1 hd rfl (lv_at hl j hj) (kk H locs ls hP hD hS hl)
theorem vLload (X : vCX p s m args meth c cc nL own Ts D cl tys sb) {i : Nat} {x : Int64} (hd : decode cc pc = .ok (.lload i, 2)) (j : Nat) (hj : lv[j]? = some (i, .long x)) (kk : vV p l e R s m args below meth c nL D cl sb Q ws cells slots (pc + 2) lv (.long x :: rest)) : vV p l e R s m args below meth c nL D cl sb Q ws cells slots pc lv rest :=
  fun H locs ls hP hD hS hl => lv_lload X.1 X.2.1 hd (lv_at hl j hj) (kk H locs ls hP hD hS hl)
theorem vLstoreN (X : vCX p s m args meth c cc nL own Ts D cl tys sb) {k : Fin 4} {x : Int64} (lv' : List (Nat × Value)) (hd : decode cc pc = .ok (.lstore_n k, 1)) (hn : (k : Nat) + 1 < nL) (hl' : ((k : Nat), .long x) :: lv.filter (fun q => !(q.1 == (k : Nat)) && (!(q.1 == (k : Nat) + 1) && !(q.1 + 1 == (k : Nat) && q.2.category == 2))) = lv') (kk : vV p l e R s m args below meth c nL D cl sb Q ws cells slots (pc + 1) lv' rest) : vV p l e R s m args below meth c nL D cl sb Q ws cells slots pc lv (.long x :: rest) :=
  fun H locs ls hP hD hS hl => lv_lstore_n X.1 X.2.1 hd rfl hl hn hl' (fun ls' hl2 => kk H locs ls' hP hD hS hl2)
theorem vLstore (X : vCX p s m args meth c cc nL own Ts D cl tys sb) {i : Nat} {x : Int64} (lv' : List (Nat × Value)) (hd : decode cc pc = .ok (.lstore i, 2)) (hn : i + 1 < nL) (hl' : (i, .long x) :: lv.filter (fun q => !(q.1 == i) && (!(q.1 == i + 1) && !(q.1 + 1 == i && q.2.category == 2))) = lv') (kk : vV p l e R s m args below meth c nL D cl sb Q ws cells slots (pc + 2) lv' rest) : vV p l e R s m args below meth c nL D cl sb Q ws cells slots pc lv (.long x :: rest) :=
  fun H locs ls hP hD hS hl => lv_lstore X.1 X.2.1 hd hl hn hl' (fun ls' hl2 => kk H locs ls' hP hD hS hl2)
theorem vAloadN (X : vCX p s m args meth c cc nL own Ts D cl tys sb) {k : Fin 4} {x : Nat} (hd : decode cc pc = .ok (.aload_n k, 1)) (j : Nat) (hj : lv[j]? = some ((k : Nat), .ref x)) (kk : vV p l e R s m args below meth c nL D cl sb Q ws cells slots (pc + 1) lv (.ref x :: rest)) : vV p l e R s m args below meth c nL D cl sb Q ws cells slots pc lv rest :=
  fun H locs ls hP hD hS hl => lv_aload_n X.1 X.2.1 hd rfl (lv_at hl j hj) (kk H locs ls hP hD hS hl)
theorem vAload (X : vCX p s m args meth c cc nL own Ts D cl tys sb) {i : Nat} {x : Nat} (hd : decode cc pc = .ok (.aload i, 2)) (j : Nat) (hj : lv[j]? = some (i, .ref x)) (kk : vV p l e R s m args below meth c nL D cl sb Q ws cells slots (pc + 2) lv (.ref x :: rest)) : vV p l e R s m args below meth c nL D cl sb Q ws cells slots pc lv rest :=
  fun H locs ls hP hD hS hl => lv_aload X.1 X.2.1 hd (lv_at hl j hj) (kk H locs ls hP hD hS hl)
theorem vAstoreN (X : vCX p s m args meth c cc nL own Ts D cl tys sb) {k : Fin 4} {x : Nat} (lv' : List (Nat × Value)) (hd : decode cc pc = .ok (.astore_n k, 1)) (hn : (k : Nat) < nL) (hl' : ((k : Nat), .ref x) :: lv.filter (fun q => !(q.1 == (k : Nat)) && !(q.1 + 1 == (k : Nat) && q.2.category == 2)) = lv') (kk : vV p l e R s m args below meth c nL D cl sb Q ws cells slots (pc + 1) lv' rest) : vV p l e R s m args below meth c nL D cl sb Q ws cells slots pc lv (.ref x :: rest) :=
  fun H locs ls hP hD hS hl => lv_astore_n X.1 X.2.1 hd rfl hl hn hl' (fun ls' hl2 => kk H locs ls' hP hD hS hl2)
theorem vAstore (X : vCX p s m args meth c cc nL own Ts D cl tys sb) {i : Nat} {x : Nat} (lv' : List (Nat × Value)) (hd : decode cc pc = .ok (.astore i, 2)) (hn : i < nL) (hl' : (i, .ref x) :: lv.filter (fun q => !(q.1 == i) && !(q.1 + 1 == i && q.2.category == 2)) = lv') (kk : vV p l e R s m args below meth c nL D cl sb Q ws cells slots (pc + 2) lv' rest) : vV p l e R s m args below meth c nL D cl sb Q ws cells slots pc lv (.ref x :: rest) :=
  fun H locs ls hP hD hS hl => lv_astore X.1 X.2.1 hd hl hn hl' (fun ls' hl2 => kk H locs ls' hP hD hS hl2)
theorem vFloadN (X : vCX p s m args meth c cc nL own Ts D cl tys sb) {k : Fin 4} {x : UInt32} (hd : decode cc pc = .ok (.fload_n k, 1)) (j : Nat) (hj : lv[j]? = some ((k : Nat), .float x)) (kk : vV p l e R s m args below meth c nL D cl sb Q ws cells slots (pc + 1) lv (.float x :: rest)) : vV p l e R s m args below meth c nL D cl sb Q ws cells slots pc lv rest :=
  fun H locs ls hP hD hS hl => lv_fload_n X.1 X.2.1 hd rfl (lv_at hl j hj) (kk H locs ls hP hD hS hl)
theorem vFload (X : vCX p s m args meth c cc nL own Ts D cl tys sb) {i : Nat} {x : UInt32} (hd : decode cc pc = .ok (.fload i, 2)) (j : Nat) (hj : lv[j]? = some (i, .float x)) (kk : vV p l e R s m args below meth c nL D cl sb Q ws cells slots (pc + 2) lv (.float x :: rest)) : vV p l e R s m args below meth c nL D cl sb Q ws cells slots pc lv rest :=
  fun H locs ls hP hD hS hl => lv_fload X.1 X.2.1 hd (lv_at hl j hj) (kk H locs ls hP hD hS hl)
theorem vFstore (X : vCX p s m args meth c cc nL own Ts D cl tys sb) {i : Nat} {x : UInt32} (lv' : List (Nat × Value)) (hd : decode cc pc = .ok (.fstore i, 2)) (hn : i < nL) (hl' : (i, .float x) :: lv.filter (fun q => !(q.1 == i) && !(q.1 + 1 == i && q.2.category == 2)) = lv') (kk : vV p l e R s m args below meth c nL D cl sb Q ws cells slots (pc + 2) lv' rest) : vV p l e R s m args below meth c nL D cl sb Q ws cells slots pc lv (.float x :: rest) :=
  fun H locs ls hP hD hS hl => lv_fstore X.1 X.2.1 hd hl hn hl' (fun ls' hl2 => kk H locs ls' hP hD hS hl2)
theorem vDloadN (X : vCX p s m args meth c cc nL own Ts D cl tys sb) {k : Fin 4} {x : UInt64} (hd : decode cc pc = .ok (.dload_n k, 1)) (j : Nat) (hj : lv[j]? = some ((k : Nat), .double x)) (kk : vV p l e R s m args below meth c nL D cl sb Q ws cells slots (pc + 1) lv (.double x :: rest)) : vV p l e R s m args below meth c nL D cl sb Q ws cells slots pc lv rest :=
  fun H locs ls hP hD hS hl => lv_dload_n X.1 X.2.1 hd rfl (lv_at hl j hj) (kk H locs ls hP hD hS hl)
theorem vDload (X : vCX p s m args meth c cc nL own Ts D cl tys sb) {i : Nat} {x : UInt64} (hd : decode cc pc = .ok (.dload i, 2)) (j : Nat) (hj : lv[j]? = some (i, .double x)) (kk : vV p l e R s m args below meth c nL D cl sb Q ws cells slots (pc + 2) lv (.double x :: rest)) : vV p l e R s m args below meth c nL D cl sb Q ws cells slots pc lv rest :=
  fun H locs ls hP hD hS hl => lv_dload X.1 X.2.1 hd (lv_at hl j hj) (kk H locs ls hP hD hS hl)
theorem vDstore (X : vCX p s m args meth c cc nL own Ts D cl tys sb) {i : Nat} {x : UInt64} (lv' : List (Nat × Value)) (hd : decode cc pc = .ok (.dstore i, 2)) (hn : i + 1 < nL) (hl' : (i, .double x) :: lv.filter (fun q => !(q.1 == i) && (!(q.1 == i + 1) && !(q.1 + 1 == i && q.2.category == 2))) = lv') (kk : vV p l e R s m args below meth c nL D cl sb Q ws cells slots (pc + 2) lv' rest) : vV p l e R s m args below meth c nL D cl sb Q ws cells slots pc lv (.double x :: rest) :=
  fun H locs ls hP hD hS hl => lv_dstore X.1 X.2.1 hd hl hn hl' (fun ls' hl2 => kk H locs ls' hP hD hS hl2)
theorem vIinc (X : vCX p s m args meth c cc nL own Ts D cl tys sb) {i : Nat} {n : Int} {x v : Int32} (lv' : List (Nat × Value)) (hd : decode cc pc = .ok (.iinc i n, 3)) (j : Nat) (hj : lv[j]? = some (i, .int x)) (hv : x + Int32.ofInt n = v) (hn : i < nL) (hl' : (i, .int v) :: lv.filter (fun q => !(q.1 == i) && !(q.1 + 1 == i && q.2.category == 2)) = lv') (kk : vV p l e R s m args below meth c nL D cl sb Q ws cells slots (pc + 3) lv' rest) : vV p l e R s m args below meth c nL D cl sb Q ws cells slots pc lv rest :=
  fun H locs ls hP hD hS hl => lv_iinc X.1 X.2.1 hd hl hj hv hn hl' (fun ls' hl2 => kk H locs ls' hP hD hS hl2)
theorem vIadd (X : vCX p s m args meth c cc nL own Ts D cl tys sb) {x y v : Int32} (hd : decode cc pc = .ok (.iadd, 1)) (hv : x + y = v) (k : vV p l e R s m args below meth c nL D cl sb Q ws cells slots (pc + 1) lv (.int v :: rest)) : vV p l e R s m args below meth c nL D cl sb Q ws cells slots pc lv (.int y :: .int x :: rest) := by
  subst hv
  exact fun H locs ls hP hD hS hl => lv_iadd X.1 X.2.1 hd (k H locs ls hP hD hS hl)
theorem vIsub (X : vCX p s m args meth c cc nL own Ts D cl tys sb) {x y v : Int32} (hd : decode cc pc = .ok (.isub, 1)) (hv : x - y = v) (k : vV p l e R s m args below meth c nL D cl sb Q ws cells slots (pc + 1) lv (.int v :: rest)) : vV p l e R s m args below meth c nL D cl sb Q ws cells slots pc lv (.int y :: .int x :: rest) := by
  subst hv
  exact fun H locs ls hP hD hS hl => lv_isub X.1 X.2.1 hd (k H locs ls hP hD hS hl)
theorem vImul (X : vCX p s m args meth c cc nL own Ts D cl tys sb) {x y v : Int32} (hd : decode cc pc = .ok (.imul, 1)) (hv : x * y = v) (k : vV p l e R s m args below meth c nL D cl sb Q ws cells slots (pc + 1) lv (.int v :: rest)) : vV p l e R s m args below meth c nL D cl sb Q ws cells slots pc lv (.int y :: .int x :: rest) := by
  subst hv
  exact fun H locs ls hP hD hS hl => lv_imul X.1 X.2.1 hd (k H locs ls hP hD hS hl)
theorem vIand (X : vCX p s m args meth c cc nL own Ts D cl tys sb) {x y v : Int32} (hd : decode cc pc = .ok (.iand, 1)) (hv : x &&& y = v) (k : vV p l e R s m args below meth c nL D cl sb Q ws cells slots (pc + 1) lv (.int v :: rest)) : vV p l e R s m args below meth c nL D cl sb Q ws cells slots pc lv (.int y :: .int x :: rest) := by
  subst hv
  exact fun H locs ls hP hD hS hl => lv_iand X.1 X.2.1 hd (k H locs ls hP hD hS hl)
theorem vIor (X : vCX p s m args meth c cc nL own Ts D cl tys sb) {x y v : Int32} (hd : decode cc pc = .ok (.ior, 1)) (hv : x ||| y = v) (k : vV p l e R s m args below meth c nL D cl sb Q ws cells slots (pc + 1) lv (.int v :: rest)) : vV p l e R s m args below meth c nL D cl sb Q ws cells slots pc lv (.int y :: .int x :: rest) := by
  subst hv
  exact fun H locs ls hP hD hS hl => lv_ior X.1 X.2.1 hd (k H locs ls hP hD hS hl)
theorem vIshl (X : vCX p s m args meth c cc nL own Ts D cl tys sb) {x y v : Int32} (hd : decode cc pc = .ok (.ishl, 1)) (hv : x <<< (y &&& 31) = v) (k : vV p l e R s m args below meth c nL D cl sb Q ws cells slots (pc + 1) lv (.int v :: rest)) : vV p l e R s m args below meth c nL D cl sb Q ws cells slots pc lv (.int y :: .int x :: rest) := by
  subst hv
  exact fun H locs ls hP hD hS hl => lv_ishl X.1 X.2.1 hd (k H locs ls hP hD hS hl)
theorem vIshr (X : vCX p s m args meth c cc nL own Ts D cl tys sb) {x y v : Int32} (hd : decode cc pc = .ok (.ishr, 1)) (hv : x >>> (y &&& 31) = v) (k : vV p l e R s m args below meth c nL D cl sb Q ws cells slots (pc + 1) lv (.int v :: rest)) : vV p l e R s m args below meth c nL D cl sb Q ws cells slots pc lv (.int y :: .int x :: rest) := by
  subst hv
  exact fun H locs ls hP hD hS hl => lv_ishr X.1 X.2.1 hd (k H locs ls hP hD hS hl)
theorem vIdiv (X : vCX p s m args meth c cc nL own Ts D cl tys sb) {x y v : Int32} (hd : decode cc pc = .ok (.idiv, 1)) (hne : ¬ y = 0) (hv : x / y = v) (k : vV p l e R s m args below meth c nL D cl sb Q ws cells slots (pc + 1) lv (.int v :: rest)) : vV p l e R s m args below meth c nL D cl sb Q ws cells slots pc lv (.int y :: .int x :: rest) := by
  subst hv
  exact fun H locs ls hP hD hS hl => lv_idiv X.1 X.2.1 hd hne (k H locs ls hP hD hS hl)
theorem vLadd (X : vCX p s m args meth c cc nL own Ts D cl tys sb) {x y v : Int64} (hd : decode cc pc = .ok (.ladd, 1)) (hv : x + y = v) (k : vV p l e R s m args below meth c nL D cl sb Q ws cells slots (pc + 1) lv (.long v :: rest)) : vV p l e R s m args below meth c nL D cl sb Q ws cells slots pc lv (.long y :: .long x :: rest) := by
  subst hv
  exact fun H locs ls hP hD hS hl => lv_ladd X.1 X.2.1 hd (k H locs ls hP hD hS hl)
theorem vLmul (X : vCX p s m args meth c cc nL own Ts D cl tys sb) {x y v : Int64} (hd : decode cc pc = .ok (.lmul, 1)) (hv : x * y = v) (k : vV p l e R s m args below meth c nL D cl sb Q ws cells slots (pc + 1) lv (.long v :: rest)) : vV p l e R s m args below meth c nL D cl sb Q ws cells slots pc lv (.long y :: .long x :: rest) := by
  subst hv
  exact fun H locs ls hP hD hS hl => lv_lmul X.1 X.2.1 hd (k H locs ls hP hD hS hl)
theorem vLand (X : vCX p s m args meth c cc nL own Ts D cl tys sb) {x y v : Int64} (hd : decode cc pc = .ok (.land, 1)) (hv : x &&& y = v) (k : vV p l e R s m args below meth c nL D cl sb Q ws cells slots (pc + 1) lv (.long v :: rest)) : vV p l e R s m args below meth c nL D cl sb Q ws cells slots pc lv (.long y :: .long x :: rest) := by
  subst hv
  exact fun H locs ls hP hD hS hl => lv_land X.1 X.2.1 hd (k H locs ls hP hD hS hl)
theorem vLor (X : vCX p s m args meth c cc nL own Ts D cl tys sb) {x y v : Int64} (hd : decode cc pc = .ok (.lor, 1)) (hv : x ||| y = v) (k : vV p l e R s m args below meth c nL D cl sb Q ws cells slots (pc + 1) lv (.long v :: rest)) : vV p l e R s m args below meth c nL D cl sb Q ws cells slots pc lv (.long y :: .long x :: rest) := by
  subst hv
  exact fun H locs ls hP hD hS hl => lv_lor X.1 X.2.1 hd (k H locs ls hP hD hS hl)
theorem vLshl (X : vCX p s m args meth c cc nL own Ts D cl tys sb) {x v : Int64} {y : Int32} (hd : decode cc pc = .ok (.lshl, 1)) (hv : x <<< (y.toInt64 &&& 63) = v) (k : vV p l e R s m args below meth c nL D cl sb Q ws cells slots (pc + 1) lv (.long v :: rest)) : vV p l e R s m args below meth c nL D cl sb Q ws cells slots pc lv (.int y :: .long x :: rest) :=
  fun H locs ls hP hD hS hl => lv_lshl X.1 X.2.1 hd hv (k H locs ls hP hD hS hl)
theorem vI2l (X : vCX p s m args meth c cc nL own Ts D cl tys sb) {x : Int32} {v : Int64} (hd : decode cc pc = .ok (.i2l, 1)) (hv : x.toInt64 = v) (k : vV p l e R s m args below meth c nL D cl sb Q ws cells slots (pc + 1) lv (.long v :: rest)) : vV p l e R s m args below meth c nL D cl sb Q ws cells slots pc lv (.int x :: rest) :=
  fun H locs ls hP hD hS hl => lv_i2l X.1 X.2.1 hd hv (k H locs ls hP hD hS hl)
theorem vL2i (X : vCX p s m args meth c cc nL own Ts D cl tys sb) {x : Int64} {v : Int32} (hd : decode cc pc = .ok (.l2i, 1)) (hv : x.toInt32 = v) (k : vV p l e R s m args below meth c nL D cl sb Q ws cells slots (pc + 1) lv (.int v :: rest)) : vV p l e R s m args below meth c nL D cl sb Q ws cells slots pc lv (.long x :: rest) :=
  fun H locs ls hP hD hS hl => lv_l2i X.1 X.2.1 hd hv (k H locs ls hP hD hS hl)
theorem vI2b (X : vCX p s m args meth c cc nL own Ts D cl tys sb) {x v : Int32} (hd : decode cc pc = .ok (.i2b, 1)) (hv : x.toInt8.toInt32 = v) (k : vV p l e R s m args below meth c nL D cl sb Q ws cells slots (pc + 1) lv (.int v :: rest)) : vV p l e R s m args below meth c nL D cl sb Q ws cells slots pc lv (.int x :: rest) :=
  fun H locs ls hP hD hS hl => lv_i2b X.1 X.2.1 hd hv (k H locs ls hP hD hS hl)
theorem vI2f (X : vCX p s m args meth c cc nL own Ts D cl tys sb) {x : Int32} (hd : decode cc pc = .ok (.i2f, 1))  (k : vV p l e R s m args below meth c nL D cl sb Q ws cells slots (pc + 1) lv (.float (FP.i2f x) :: rest)) : vV p l e R s m args below meth c nL D cl sb Q ws cells slots pc lv (.int x :: rest) :=
  fun H locs ls hP hD hS hl => lv_i2f X.1 X.2.1 hd  (k H locs ls hP hD hS hl)
theorem vI2d (X : vCX p s m args meth c cc nL own Ts D cl tys sb) {x : Int32} (hd : decode cc pc = .ok (.i2d, 1))  (k : vV p l e R s m args below meth c nL D cl sb Q ws cells slots (pc + 1) lv (.double (FP.i2d x) :: rest)) : vV p l e R s m args below meth c nL D cl sb Q ws cells slots pc lv (.int x :: rest) :=
  fun H locs ls hP hD hS hl => lv_i2d X.1 X.2.1 hd  (k H locs ls hP hD hS hl)
theorem vF2d (X : vCX p s m args meth c cc nL own Ts D cl tys sb) {x : UInt32} (hd : decode cc pc = .ok (.f2d, 1)) (hne : vf_n64 (FP.f2d x)) (k : vV p l e R s m args below meth c nL D cl sb Q ws cells slots (pc + 1) lv (.double (FP.f2d x) :: rest)) : vV p l e R s m args below meth c nL D cl sb Q ws cells slots pc lv (.float x :: rest) :=
  fun H locs ls hP hD hS hl => lv_f2d X.1 X.2.1 hd hne (k H locs ls hP hD hS hl)
theorem vFdiv (X : vCX p s m args meth c cc nL own Ts D cl tys sb) {x y : UInt32} (hd : decode cc pc = .ok (.fdiv, 1)) (hne : vf_n32 (FP.fdiv x y)) (k : vV p l e R s m args below meth c nL D cl sb Q ws cells slots (pc + 1) lv (.float (FP.fdiv x y) :: rest)) : vV p l e R s m args below meth c nL D cl sb Q ws cells slots pc lv (.float y :: .float x :: rest) :=
  fun H locs ls hP hD hS hl => lv_fdiv X.1 X.2.1 hd hne (k H locs ls hP hD hS hl)
theorem vDdiv (X : vCX p s m args meth c cc nL own Ts D cl tys sb) {x y : UInt64} (hd : decode cc pc = .ok (.ddiv, 1)) (hne : vf_n64 (FP.ddiv x y)) (k : vV p l e R s m args below meth c nL D cl sb Q ws cells slots (pc + 1) lv (.double (FP.ddiv x y) :: rest)) : vV p l e R s m args below meth c nL D cl sb Q ws cells slots pc lv (.double y :: .double x :: rest) :=
  fun H locs ls hP hD hS hl => lv_ddiv X.1 X.2.1 hd hne (k H locs ls hP hD hS hl)
theorem vFcmp (X : vCX p s m args meth c cc nL own Ts D cl tys sb) {x y : UInt32} {op : CmpOp} (hd : decode cc pc = .ok (.fcmp op, 1))  (k : vV p l e R s m args below meth c nL D cl sb Q ws cells slots (pc + 1) lv (.int (Op.cmpValue (FP.fcmp x y) op) :: rest)) : vV p l e R s m args below meth c nL D cl sb Q ws cells slots pc lv (.float y :: .float x :: rest) :=
  fun H locs ls hP hD hS hl => lv_fcmp X.1 X.2.1 hd  (k H locs ls hP hD hS hl)
theorem vDcmp (X : vCX p s m args meth c cc nL own Ts D cl tys sb) {x y : UInt64} {op : CmpOp} (hd : decode cc pc = .ok (.dcmp op, 1))  (k : vV p l e R s m args below meth c nL D cl sb Q ws cells slots (pc + 1) lv (.int (Op.cmpValue (FP.dcmp x y) op) :: rest)) : vV p l e R s m args below meth c nL D cl sb Q ws cells slots pc lv (.double y :: .double x :: rest) :=
  fun H locs ls hP hD hS hl => lv_dcmp X.1 X.2.1 hd  (k H locs ls hP hD hS hl)
theorem vLcmp (X : vCX p s m args meth c cc nL own Ts D cl tys sb) {x y : Int64} (hd : decode cc pc = .ok (.lcmp, 1))  (k : vV p l e R s m args below meth c nL D cl sb Q ws cells slots (pc + 1) lv (.int (lg_cmp x y) :: rest)) : vV p l e R s m args below meth c nL D cl sb Q ws cells slots pc lv (.long y :: .long x :: rest) :=
  fun H locs ls hP hD hS hl => W.lcmp X.1 X.2.1 hd  (k H locs ls hP hD hS hl)
theorem vDup (X : vCX p s m args meth c cc nL own Ts D cl tys sb) {a : Value} (hd : decode cc pc = .ok (.dup, 1)) (ha : a.category = 1) (k : vV p l e R s m args below meth c nL D cl sb Q ws cells slots (pc + 1) lv (a :: a :: rest)) : vV p l e R s m args below meth c nL D cl sb Q ws cells slots pc lv (a :: rest) :=
  fun H locs ls hP hD hS hl => lv_dup X.1 X.2.1 hd ha (k H locs ls hP hD hS hl)
theorem vPop (X : vCX p s m args meth c cc nL own Ts D cl tys sb) {a : Value} (hd : decode cc pc = .ok (.pop, 1)) (ha : a.category = 1) (k : vV p l e R s m args below meth c nL D cl sb Q ws cells slots (pc + 1) lv (rest)) : vV p l e R s m args below meth c nL D cl sb Q ws cells slots pc lv (a :: rest) :=
  fun H locs ls hP hD hS hl => lv_pop X.1 X.2.1 hd ha (k H locs ls hP hD hS hl)
theorem vDup2 (X : vCX p s m args meth c cc nL own Ts D cl tys sb) {a b : Value} (hd : decode cc pc = .ok (.dup2, 1)) (ha : a.category = 1) (hb : b.category = 1) (k : vV p l e R s m args below meth c nL D cl sb Q ws cells slots (pc + 1) lv (a :: b :: a :: b :: rest)) : vV p l e R s m args below meth c nL D cl sb Q ws cells slots pc lv (a :: b :: rest) :=
  fun H locs ls hP hD hS hl => lv_dup2_11 X.1 X.2.1 hd ha hb (k H locs ls hP hD hS hl)
theorem vGoto (X : vCX p s m args meth c cc nL own Ts D cl tys sb) {off : Int} (tgt : Nat) (hd : decode cc pc = .ok (.goto off, 3)) (ht : (pc : Int) + off = (tgt : Int)) (k : vV p l e R s m args below meth c nL D cl sb Q ws cells slots tgt lv rest) : vV p l e R s m args below meth c nL D cl sb Q ws cells slots pc lv rest :=
  fun H locs ls hP hD hS hl => lv_goto X.1 X.2.1 hd ht (k H locs ls hP hD hS hl)
theorem vIf_eq (X : vCX p s m args meth c cc nL own Ts D cl tys sb) {x : Int32} {off : Int} (tgt : Nat) (hd : decode cc pc = .ok (.ifCond .eq off, 3)) (ht : (pc : Int) + off = (tgt : Int)) (kt : x = 0 → vV p l e R s m args below meth c nL D cl sb Q ws cells slots tgt lv rest) (kf : ¬ x = 0 → vV p l e R s m args below meth c nL D cl sb Q ws cells slots (pc + 3) lv rest) : vV p l e R s m args below meth c nL D cl sb Q ws cells slots pc lv (.int x :: rest) :=
  fun H locs ls hP hD hS hl => lv_if_eq X.1 X.2.1 hd ht (fun h => kt h H locs ls hP hD hS hl) (fun h => kf h H locs ls hP hD hS hl)
theorem vIcmp_eq (X : vCX p s m args meth c cc nL own Ts D cl tys sb) {x y : Int32} {off : Int} (tgt : Nat) (hd : decode cc pc = .ok (.if_icmp .eq off, 3)) (ht : (pc : Int) + off = (tgt : Int)) (kt : x = y → vV p l e R s m args below meth c nL D cl sb Q ws cells slots tgt lv rest) (kf : ¬ x = y → vV p l e R s m args below meth c nL D cl sb Q ws cells slots (pc + 3) lv rest) : vV p l e R s m args below meth c nL D cl sb Q ws cells slots pc lv (.int y :: .int x :: rest) :=
  fun H locs ls hP hD hS hl => lv_icmp_eq X.1 X.2.1 hd ht (fun h => kt h H locs ls hP hD hS hl) (fun h => kf h H locs ls hP hD hS hl)
theorem vIf_ne (X : vCX p s m args meth c cc nL own Ts D cl tys sb) {x : Int32} {off : Int} (tgt : Nat) (hd : decode cc pc = .ok (.ifCond .ne off, 3)) (ht : (pc : Int) + off = (tgt : Int)) (kt : ¬ x = 0 → vV p l e R s m args below meth c nL D cl sb Q ws cells slots tgt lv rest) (kf : x = 0 → vV p l e R s m args below meth c nL D cl sb Q ws cells slots (pc + 3) lv rest) : vV p l e R s m args below meth c nL D cl sb Q ws cells slots pc lv (.int x :: rest) :=
  fun H locs ls hP hD hS hl => lv_if_ne X.1 X.2.1 hd ht (fun h => kt h H locs ls hP hD hS hl) (fun h => kf h H locs ls hP hD hS hl)
theorem vIcmp_ne (X : vCX p s m args meth c cc nL own Ts D cl tys sb) {x y : Int32} {off : Int} (tgt : Nat) (hd : decode cc pc = .ok (.if_icmp .ne off, 3)) (ht : (pc : Int) + off = (tgt : Int)) (kt : ¬ x = y → vV p l e R s m args below meth c nL D cl sb Q ws cells slots tgt lv rest) (kf : x = y → vV p l e R s m args below meth c nL D cl sb Q ws cells slots (pc + 3) lv rest) : vV p l e R s m args below meth c nL D cl sb Q ws cells slots pc lv (.int y :: .int x :: rest) :=
  fun H locs ls hP hD hS hl => lv_icmp_ne X.1 X.2.1 hd ht (fun h => kt h H locs ls hP hD hS hl) (fun h => kf h H locs ls hP hD hS hl)
theorem vIf_lt (X : vCX p s m args meth c cc nL own Ts D cl tys sb) {x : Int32} {off : Int} (tgt : Nat) (hd : decode cc pc = .ok (.ifCond .lt off, 3)) (ht : (pc : Int) + off = (tgt : Int)) (kt : x < 0 → vV p l e R s m args below meth c nL D cl sb Q ws cells slots tgt lv rest) (kf : ¬ x < 0 → vV p l e R s m args below meth c nL D cl sb Q ws cells slots (pc + 3) lv rest) : vV p l e R s m args below meth c nL D cl sb Q ws cells slots pc lv (.int x :: rest) :=
  fun H locs ls hP hD hS hl => lv_if_lt X.1 X.2.1 hd ht (fun h => kt h H locs ls hP hD hS hl) (fun h => kf h H locs ls hP hD hS hl)
theorem vIcmp_lt (X : vCX p s m args meth c cc nL own Ts D cl tys sb) {x y : Int32} {off : Int} (tgt : Nat) (hd : decode cc pc = .ok (.if_icmp .lt off, 3)) (ht : (pc : Int) + off = (tgt : Int)) (kt : x < y → vV p l e R s m args below meth c nL D cl sb Q ws cells slots tgt lv rest) (kf : ¬ x < y → vV p l e R s m args below meth c nL D cl sb Q ws cells slots (pc + 3) lv rest) : vV p l e R s m args below meth c nL D cl sb Q ws cells slots pc lv (.int y :: .int x :: rest) :=
  fun H locs ls hP hD hS hl => lv_icmp_lt X.1 X.2.1 hd ht (fun h => kt h H locs ls hP hD hS hl) (fun h => kf h H locs ls hP hD hS hl)
theorem vIf_ge (X : vCX p s m args meth c cc nL own Ts D cl tys sb) {x : Int32} {off : Int} (tgt : Nat) (hd : decode cc pc = .ok (.ifCond .ge off, 3)) (ht : (pc : Int) + off = (tgt : Int)) (kt : 0 ≤ x → vV p l e R s m args below meth c nL D cl sb Q ws cells slots tgt lv rest) (kf : ¬ 0 ≤ x → vV p l e R s m args below meth c nL D cl sb Q ws cells slots (pc + 3) lv rest) : vV p l e R s m args below meth c nL D cl sb Q ws cells slots pc lv (.int x :: rest) :=
  fun H locs ls hP hD hS hl => lv_if_ge X.1 X.2.1 hd ht (fun h => kt h H locs ls hP hD hS hl) (fun h => kf h H locs ls hP hD hS hl)
theorem vIcmp_ge (X : vCX p s m args meth c cc nL own Ts D cl tys sb) {x y : Int32} {off : Int} (tgt : Nat) (hd : decode cc pc = .ok (.if_icmp .ge off, 3)) (ht : (pc : Int) + off = (tgt : Int)) (kt : y ≤ x → vV p l e R s m args below meth c nL D cl sb Q ws cells slots tgt lv rest) (kf : ¬ y ≤ x → vV p l e R s m args below meth c nL D cl sb Q ws cells slots (pc + 3) lv rest) : vV p l e R s m args below meth c nL D cl sb Q ws cells slots pc lv (.int y :: .int x :: rest) :=
  fun H locs ls hP hD hS hl => lv_icmp_ge X.1 X.2.1 hd ht (fun h => kt h H locs ls hP hD hS hl) (fun h => kf h H locs ls hP hD hS hl)
theorem vIf_gt (X : vCX p s m args meth c cc nL own Ts D cl tys sb) {x : Int32} {off : Int} (tgt : Nat) (hd : decode cc pc = .ok (.ifCond .gt off, 3)) (ht : (pc : Int) + off = (tgt : Int)) (kt : 0 < x → vV p l e R s m args below meth c nL D cl sb Q ws cells slots tgt lv rest) (kf : ¬ 0 < x → vV p l e R s m args below meth c nL D cl sb Q ws cells slots (pc + 3) lv rest) : vV p l e R s m args below meth c nL D cl sb Q ws cells slots pc lv (.int x :: rest) :=
  fun H locs ls hP hD hS hl => lv_if_gt X.1 X.2.1 hd ht (fun h => kt h H locs ls hP hD hS hl) (fun h => kf h H locs ls hP hD hS hl)
theorem vIcmp_gt (X : vCX p s m args meth c cc nL own Ts D cl tys sb) {x y : Int32} {off : Int} (tgt : Nat) (hd : decode cc pc = .ok (.if_icmp .gt off, 3)) (ht : (pc : Int) + off = (tgt : Int)) (kt : y < x → vV p l e R s m args below meth c nL D cl sb Q ws cells slots tgt lv rest) (kf : ¬ y < x → vV p l e R s m args below meth c nL D cl sb Q ws cells slots (pc + 3) lv rest) : vV p l e R s m args below meth c nL D cl sb Q ws cells slots pc lv (.int y :: .int x :: rest) :=
  fun H locs ls hP hD hS hl => lv_icmp_gt X.1 X.2.1 hd ht (fun h => kt h H locs ls hP hD hS hl) (fun h => kf h H locs ls hP hD hS hl)
theorem vIf_le (X : vCX p s m args meth c cc nL own Ts D cl tys sb) {x : Int32} {off : Int} (tgt : Nat) (hd : decode cc pc = .ok (.ifCond .le off, 3)) (ht : (pc : Int) + off = (tgt : Int)) (kt : x ≤ 0 → vV p l e R s m args below meth c nL D cl sb Q ws cells slots tgt lv rest) (kf : ¬ x ≤ 0 → vV p l e R s m args below meth c nL D cl sb Q ws cells slots (pc + 3) lv rest) : vV p l e R s m args below meth c nL D cl sb Q ws cells slots pc lv (.int x :: rest) :=
  fun H locs ls hP hD hS hl => lv_if_le X.1 X.2.1 hd ht (fun h => kt h H locs ls hP hD hS hl) (fun h => kf h H locs ls hP hD hS hl)
theorem vIcmp_le (X : vCX p s m args meth c cc nL own Ts D cl tys sb) {x y : Int32} {off : Int} (tgt : Nat) (hd : decode cc pc = .ok (.if_icmp .le off, 3)) (ht : (pc : Int) + off = (tgt : Int)) (kt : x ≤ y → vV p l e R s m args below meth c nL D cl sb Q ws cells slots tgt lv rest) (kf : ¬ x ≤ y → vV p l e R s m args below meth c nL D cl sb Q ws cells slots (pc + 3) lv rest) : vV p l e R s m args below meth c nL D cl sb Q ws cells slots pc lv (.int y :: .int x :: rest) :=
  fun H locs ls hP hD hS hl => lv_icmp_le X.1 X.2.1 hd ht (fun h => kt h H locs ls hP hD hS hl) (fun h => kf h H locs ls hP hD hS hl)
theorem vAcmp_ne (X : vCX p s m args meth c cc nL own Ts D cl tys sb) {x y : Nat} {off : Int} (tgt : Nat) (hd : decode cc pc = .ok (.if_acmp .ne off, 3)) (ht : (pc : Int) + off = (tgt : Int)) (kt : ¬ x = y → vV p l e R s m args below meth c nL D cl sb Q ws cells slots tgt lv rest) (kf : x = y → vV p l e R s m args below meth c nL D cl sb Q ws cells slots (pc + 3) lv rest) : vV p l e R s m args below meth c nL D cl sb Q ws cells slots pc lv (.ref y :: .ref x :: rest) :=
  fun H locs ls hP hD hS hl => lv_acmp_ne (rx := some x) (ry := some y) X.1 X.2.1 hd ht (fun h => kt (fun q => h (congrArg some q)) H locs ls hP hD hS hl) (fun h => kf (Option.some.inj h) H locs ls hP hD hS hl)
theorem vGet (X : vCX p s m args meth c cc nL own Ts D cl tys sb) {ref C : String} {T : u_T} {N ci index a : Nat} {fs : List Value} {v : Value} (hin : ∀ w ∈ u_ws C T N, w ∈ Ts) (hc : cl[ci]? = some (C, T, N)) (q0 : Nat) (he : ws[q0]? = some (a, .inr (ci, fs))) (k : Nat) (hk : k < N) (hlink : Cond.fieldLink own index ref (T k).2.1 (T k).2.2.1 ∈ Ts) (hsame : ∀ x, s.fieldFound? (T k).1 (T k).2.1 (T k).2.2.1 = some x → s.fieldFound? ref (T k).2.1 (T k).2.2.1 = some x) (hv : fs[k]? = some v) (hd : decode cc pc = .ok (.getfield index, 3)) (kk : vV p l e R s m args below meth c nL D cl sb Q ws cells slots (pc + 3) lv (v :: rest)) : vV p l e R s m args below meth c nL D cl sb Q ws cells slots pc lv (.ref a :: rest) :=
  fun H locs ls hP hD hS hl => va_get (D := D) X.1 X.2.1 X.2.2.2.2.1 hin X.2.2.2.1 X.2.2.2.2.2.1 hP q0 he hc k hk (X.2.2.2.2.1 _ hlink) hsame hv hd (kk H locs ls hP hD hS hl)
theorem vPut (X : vCX p s m args meth c cc nL own Ts D cl tys sb) {ref C : String} {T : u_T} {N ci index a : Nat} {fs : List Value} {v : Value} (hin : ∀ w ∈ u_ws C T N, w ∈ Ts) (ty0 : Nat → FieldType) (hty : ∀ k, k < N → parseFieldDescriptor (T k).2.2.1 = some (ty0 k)) (hnm : ∀ a, a < N → ∀ b, b < N → a ≠ b → (T a).2.1 ≠ (T b).2.1) (hc : cl[ci]? = some (C, T, N)) (q0 : Nat) (he : ws[q0]? = some (a, .inr (ci, fs))) (k : Nat) (hk : k < N) (hlink : Cond.fieldLink own index ref (T k).2.1 (T k).2.2.1 ∈ Ts) (hsame : ∀ x, s.fieldFound? (T k).1 (T k).2.1 (T k).2.2.1 = some x → s.fieldFound? ref (T k).2.1 (T k).2.2.1 = some x) (hfin : (T k).2.2.2 = false) {ty : FieldType} (hdd : parseFieldDescriptor (T k).2.2.1 = some ty) (hn : narrow ty v = v) (hfit : fits ty v = true) (hlen : k < fs.length) (hd : decode cc pc = .ok (.putfield index, 3)) (kk : vV p l e R s m args below meth c nL D cl sb Q (ws.set q0 (a, .inr (ci, fs.set k v))) cells slots (pc + 3) lv rest) : vV p l e R s m args below meth c nL D cl sb Q ws cells slots pc lv (v :: .ref a :: rest) :=
  fun H locs ls hP hD hS hl => va_put (D := D) X.1 X.2.1 X.2.2.2.2.1 hin ty0 hty hnm X.2.2.2.1 X.2.2.2.2.2.1 hP hD hS q0 he hc k hk (X.2.2.2.2.1 _ hlink) hsame hfin hdd hn hfit hlen hd (fun H1 locs1 hP1 hD1 hS1 => kk H1 locs1 ls hP1 hD1 hS1 hl)
theorem vPutF (X : vCX p s m args meth c cc nL own Ts D cl tys sb) {ref C : String} {T : u_T} {N ci index a : Nat} {fs : List Value} {v : Value} (hmn : meth.name = "<init>") (hin : ∀ w ∈ u_ws C T N, w ∈ Ts) (ty0 : Nat → FieldType) (hty : ∀ k, k < N → parseFieldDescriptor (T k).2.2.1 = some (ty0 k)) (hnm : ∀ a, a < N → ∀ b, b < N → a ≠ b → (T a).2.1 ≠ (T b).2.1) (hc : cl[ci]? = some (C, T, N)) (q0 : Nat) (he : ws[q0]? = some (a, .inr (ci, fs))) (k : Nat) (hk : k < N) (hlink : Cond.fieldLink own index ref (T k).2.1 (T k).2.2.1 ∈ Ts) (hsame : ∀ x, s.fieldFound? (T k).1 (T k).2.1 (T k).2.2.1 = some x → s.fieldFound? ref (T k).2.1 (T k).2.2.1 = some x) (hfin : (T k).2.2.2 = true) (hdecl : (T k).1 = own) {ty : FieldType} (hdd : parseFieldDescriptor (T k).2.2.1 = some ty) (hn : narrow ty v = v) (hfit : fits ty v = true) (hlen : k < fs.length) (hd : decode cc pc = .ok (.putfield index, 3)) (kk : vV p l e R s m args below meth c nL D cl sb Q (ws.set q0 (a, .inr (ci, fs.set k v))) cells slots (pc + 3) lv rest) : vV p l e R s m args below meth c nL D cl sb Q ws cells slots pc lv (v :: .ref a :: rest) :=
  fun H locs ls hP hD hS hl => va_putF (D := D) X.1 X.2.1 X.2.2.2.2.1 hin ty0 hty hnm X.2.2.2.1 X.2.2.2.2.2.1 hP hD hS q0 he hc k hk (X.2.2.2.2.1 _ hlink) hsame hfin hmn hdecl hdd hn hfit hlen hd (fun H1 locs1 hP1 hD1 hS1 => kk H1 locs1 ls hP1 hD1 hS1 hl)
theorem vIaload (X : vCX p s m args meth c cc nL own Ts D cl tys sb) {cA : ClassId} {n a j : Nat} {f : Nat → Int32} {i : Int32} {v : Int32} (q0 t0 : Nat) (ha : ws[q0]? = some (a, .inl (cA, n, .inl f))) (ht : tys[t0]? = some (cA, .int)) (hi : i = nI j) (hj : j < n) (hn : n ≤ 65536) (hv : f j = v) (hd : decode cc pc = .ok (.iaload, 1)) (kk : vV p l e R s m args below meth c nL D cl sb Q ws cells slots (pc + 1) lv (.int v :: rest)) : vV p l e R s m args below meth c nL D cl sb Q ws cells slots pc lv (.int i :: .ref a :: rest) := by
  subst hi; subst hv
  have e : (nI j).toNatClampNeg = j := nI_clamp (by omega)
  exact fun H locs ls hP hD hS hl => va_iald (D := D) X.1 X.2.1 X.2.2.2.2.2.1 hP q0 t0 ha ht (vp_in_nI hj (by omega)) hd (by rw [e]; exact kk H locs ls hP hD hS hl)
theorem vBaload (X : vCX p s m args meth c cc nL own Ts D cl tys sb) {cA : ClassId} {n a j : Nat} {f : Nat → Int32} {i : Int32} {v : Int32} (q0 t0 : Nat) (ha : ws[q0]? = some (a, .inl (cA, n, .inl f))) (ht : tys[t0]? = some (cA, .byte)) (hi : i = nI j) (hj : j < n) (hn : n ≤ 65536) (hv : f j = v) (hd : decode cc pc = .ok (.baload, 1)) (kk : vV p l e R s m args below meth c nL D cl sb Q ws cells slots (pc + 1) lv (.int v :: rest)) : vV p l e R s m args below meth c nL D cl sb Q ws cells slots pc lv (.int i :: .ref a :: rest) := by
  subst hi; subst hv
  have e : (nI j).toNatClampNeg = j := nI_clamp (by omega)
  exact fun H locs ls hP hD hS hl => va_bald (D := D) X.1 X.2.1 X.2.2.2.2.2.1 hP q0 t0 ha ht (vp_in_nI hj (by omega)) hd (by rw [e]; exact kk H locs ls hP hD hS hl)
theorem vLaload (X : vCX p s m args meth c cc nL own Ts D cl tys sb) {cA : ClassId} {n a j : Nat} {f : Nat → Int64} {i : Int32} {v : Int64} (q0 t0 : Nat) (ha : ws[q0]? = some (a, .inl (cA, n, .inr (.inl f)))) (ht : tys[t0]? = some (cA, .long)) (hi : i = nI j) (hj : j < n) (hn : n ≤ 65536) (hv : f j = v) (hd : decode cc pc = .ok (.laload, 1)) (kk : vV p l e R s m args below meth c nL D cl sb Q ws cells slots (pc + 1) lv (.long v :: rest)) : vV p l e R s m args below meth c nL D cl sb Q ws cells slots pc lv (.int i :: .ref a :: rest) := by
  subst hi; subst hv
  have e : (nI j).toNatClampNeg = j := nI_clamp (by omega)
  exact fun H locs ls hP hD hS hl => va_lald (D := D) X.1 X.2.1 X.2.2.2.2.2.1 hP q0 t0 ha ht (vp_in_nI hj (by omega)) hd (by rw [e]; exact kk H locs ls hP hD hS hl)
theorem vDaload (X : vCX p s m args meth c cc nL own Ts D cl tys sb) {cA : ClassId} {n a j : Nat} {f : Nat → UInt64} {i : Int32} {v : UInt64} (q0 t0 : Nat) (ha : ws[q0]? = some (a, .inl (cA, n, .inr (.inr (.inr (.inl f)))))) (ht : tys[t0]? = some (cA, .double)) (hi : i = nI j) (hj : j < n) (hn : n ≤ 65536) (hv : f j = v) (hd : decode cc pc = .ok (.daload, 1)) (kk : vV p l e R s m args below meth c nL D cl sb Q ws cells slots (pc + 1) lv (.double v :: rest)) : vV p l e R s m args below meth c nL D cl sb Q ws cells slots pc lv (.int i :: .ref a :: rest) := by
  subst hi; subst hv
  have e : (nI j).toNatClampNeg = j := nI_clamp (by omega)
  exact fun H locs ls hP hD hS hl => va_dald (D := D) X.1 X.2.1 X.2.2.2.2.2.1 hP q0 t0 ha ht (vp_in_nI hj (by omega)) hd (by rw [e]; exact kk H locs ls hP hD hS hl)
theorem vIastore (X : vCX p s m args meth c cc nL own Ts D cl tys sb) {cA : ClassId} {n a j : Nat} {f g : Nat → Int32} {i : Int32} {x : Int32} (q0 t0 : Nat) (ha : ws[q0]? = some (a, .inl (cA, n, .inl f))) (ht : tys[t0]? = some (cA, .int)) (hi : i = nI j) (hj : j < n) (hn : n ≤ 65536) (hg : upd f j x = g) (hd : decode cc pc = .ok (.iastore, 1)) (kk : vV p l e R s m args below meth c nL D cl sb Q (ws.set q0 (a, .inl (cA, n, .inl g))) cells slots (pc + 1) lv rest) : vV p l e R s m args below meth c nL D cl sb Q ws cells slots pc lv (.int x :: .int i :: .ref a :: rest) := by
  subst hi; subst hg
  have e : (nI j).toNatClampNeg = j := nI_clamp (by omega)
  exact fun H locs ls hP hD hS hl => va_iast (D := D) X.1 X.2.1 X.2.2.2.2.2.1 hP hD hS q0 t0 ha ht (vp_in_nI hj (by omega)) hd (fun H1 locs1 hP1 hD1 hS1 => by rw [e] at hP1 hD1; exact kk H1 locs1 ls hP1 hD1 hS1 hl)
theorem vBastore (X : vCX p s m args meth c cc nL own Ts D cl tys sb) {cA : ClassId} {n a j : Nat} {f g : Nat → Int32} {i : Int32} {x : Int32} (q0 t0 : Nat) (ha : ws[q0]? = some (a, .inl (cA, n, .inl f))) (ht : tys[t0]? = some (cA, .byte)) (hi : i = nI j) (hj : j < n) (hn : n ≤ 65536) (hg : upd f j (vp_nar .byte x) = g) (hd : decode cc pc = .ok (.bastore, 1)) (kk : vV p l e R s m args below meth c nL D cl sb Q (ws.set q0 (a, .inl (cA, n, .inl g))) cells slots (pc + 1) lv rest) : vV p l e R s m args below meth c nL D cl sb Q ws cells slots pc lv (.int x :: .int i :: .ref a :: rest) := by
  subst hi; subst hg
  have e : (nI j).toNatClampNeg = j := nI_clamp (by omega)
  exact fun H locs ls hP hD hS hl => va_bast (D := D) X.1 X.2.1 X.2.2.2.2.2.1 hP hD hS q0 t0 ha ht (vp_in_nI hj (by omega)) hd (fun H1 locs1 hP1 hD1 hS1 => by rw [e] at hP1 hD1; exact kk H1 locs1 ls hP1 hD1 hS1 hl)
theorem vLastore (X : vCX p s m args meth c cc nL own Ts D cl tys sb) {cA : ClassId} {n a j : Nat} {f g : Nat → Int64} {i : Int32} {x : Int64} (q0 t0 : Nat) (ha : ws[q0]? = some (a, .inl (cA, n, .inr (.inl f)))) (ht : tys[t0]? = some (cA, .long)) (hi : i = nI j) (hj : j < n) (hn : n ≤ 65536) (hg : vp_updL f j x = g) (hd : decode cc pc = .ok (.lastore, 1)) (kk : vV p l e R s m args below meth c nL D cl sb Q (ws.set q0 (a, .inl (cA, n, .inr (.inl g)))) cells slots (pc + 1) lv rest) : vV p l e R s m args below meth c nL D cl sb Q ws cells slots pc lv (.long x :: .int i :: .ref a :: rest) := by
  subst hi; subst hg
  have e : (nI j).toNatClampNeg = j := nI_clamp (by omega)
  exact fun H locs ls hP hD hS hl => va_last (D := D) X.1 X.2.1 X.2.2.2.2.2.1 hP hD hS q0 t0 ha ht (vp_in_nI hj (by omega)) hd (fun H1 locs1 hP1 hD1 hS1 => by rw [e] at hP1 hD1; exact kk H1 locs1 ls hP1 hD1 hS1 hl)
theorem vDastore (X : vCX p s m args meth c cc nL own Ts D cl tys sb) {cA : ClassId} {n a j : Nat} {f g : Nat → UInt64} {i : Int32} {x : UInt64} (q0 t0 : Nat) (ha : ws[q0]? = some (a, .inl (cA, n, .inr (.inr (.inr (.inl f)))))) (ht : tys[t0]? = some (cA, .double)) (hi : i = nI j) (hj : j < n) (hn : n ≤ 65536) (hg : vf_upd f j x = g) (hd : decode cc pc = .ok (.dastore, 1)) (kk : vV p l e R s m args below meth c nL D cl sb Q (ws.set q0 (a, .inl (cA, n, .inr (.inr (.inr (.inl g)))))) cells slots (pc + 1) lv rest) : vV p l e R s m args below meth c nL D cl sb Q ws cells slots pc lv (.double x :: .int i :: .ref a :: rest) := by
  subst hi; subst hg
  have e : (nI j).toNatClampNeg = j := nI_clamp (by omega)
  exact fun H locs ls hP hD hS hl => va_dast (D := D) X.1 X.2.1 X.2.2.2.2.2.1 hP hD hS q0 t0 ha ht (vp_in_nI hj (by omega)) hd (fun H1 locs1 hP1 hD1 hS1 => by rw [e] at hP1 hD1; exact kk H1 locs1 ls hP1 hD1 hS1 hl)
theorem vAlen (X : vCX p s m args meth c cc nL own Ts D cl tys sb) {cA : ClassId} {x : vp_A} {ty : FieldType} {a : Nat} {v : Int32} (q0 t0 : Nat) (ha : ws[q0]? = some (a, .inl (cA, x))) (ht : tys[t0]? = some (cA, ty)) (hv : Int32.ofNat x.1 = v) (hd : decode cc pc = .ok (.arraylength, 1)) (kk : vV p l e R s m args below meth c nL D cl sb Q ws cells slots (pc + 1) lv (.int v :: rest)) : vV p l e R s m args below meth c nL D cl sb Q ws cells slots pc lv (.ref a :: rest) :=
  fun H locs ls hP hD hS hl => va_alen (D := D) X.1 X.2.1 X.2.2.2.2.2.1 hP q0 t0 ha ht hv hd (kk H locs ls hP hD hS hl)
theorem vAaload (X : vCX p s m args meth c cc nL own Ts D cl tys sb) {cA : ClassId} {C : String} {n a j : Nat} {f : Nat → Option Nat} {i : Int32} {r : Nat} (q0 t0 : Nat) (ha : ws[q0]? = some (a, .inl (cA, n, .inr (.inr (.inr (.inr f)))))) (ht : tys[t0]? = some (cA, .object C)) (hi : i = nI j) (hj : j < n) (hn : n ≤ 65536) (hv : f j = some r) (hd : decode cc pc = .ok (.aaload, 1)) (kk : vV p l e R s m args below meth c nL D cl sb Q ws cells slots (pc + 1) lv (.ref r :: rest)) : vV p l e R s m args below meth c nL D cl sb Q ws cells slots pc lv (.int i :: .ref a :: rest) := by
  subst hi
  have e : (nI j).toNatClampNeg = j := nI_clamp (by omega)
  exact fun H locs ls hP hD hS hl => va_aldq (D := D) X.1 X.2.1 X.2.2.2.2.2.1 hP q0 t0 ha ht (vp_in_nI hj (by omega)) hd (by rw [e, hv]; exact kk H locs ls hP hD hS hl)
theorem vAastore (X : vCX p s m args meth c cc nL own Ts D cl tys sb) {cA : ClassId} {r : vw_C} {n a v j : Nat} {vs : List Value} {f g : Nat → Option Nat} {i : Int32} (q0 t0 qk ci : Nat) (ha : ws[q0]? = some (a, .inl (cA, n, .inr (.inr (.inr (.inr f)))))) (ht : tys[t0]? = some (cA, .object r.1)) (hv : ws[qk]? = some (v, .inr (ci, vs))) (hc : cl[ci]? = some r) (hi : i = nI j) (hj : j < n) (hn : n ≤ 65536) (hg : va_up f j (some v) = g) (hd : decode cc pc = .ok (.aastore, 1)) (kk : vV p l e R s m args below meth c nL D cl sb Q (ws.set q0 (a, .inl (cA, n, .inr (.inr (.inr (.inr g)))))) cells slots (pc + 1) lv rest) : vV p l e R s m args below meth c nL D cl sb Q ws cells slots pc lv (.ref v :: .int i :: .ref a :: rest) := by
  subst hi; subst hg
  have e : (nI j).toNatClampNeg = j := nI_clamp (by omega)
  exact fun H locs ls hP hD hS hl => va_astq (D := D) X.1 X.2.1 X.2.2.2.2.2.1 hP hD hS q0 t0 qk ci ha ht hv hc (vp_in_nI hj (by omega)) hd (fun H1 locs1 hP1 hD1 hS1 => by rw [e] at hP1 hD1; exact kk H1 locs1 ls hP1 hD1 hS1 hl)
theorem vWiden (k n : Nat) (h1 : cells ≤ k) (h2 : slots ≤ n) (kk : vV p l e R s m args below meth c nL D cl sb Q ws k n pc lv rest) : vV p l e R s m args below meth c nL D cl sb Q ws cells slots pc lv rest :=
  fun H locs ls hP hD hS hl => W.widen h1 h2 (kk H locs ls hP hD hS hl)
theorem vSub (ks : List Nat) (lv' : List (Nat × Value)) (h : lv_pick lv ks = lv') (kk : vV p l e R s m args below meth c nL D cl sb Q ws cells slots pc lv' rest) : vV p l e R s m args below meth c nL D cl sb Q ws cells slots pc lv rest :=
  fun H locs ls hP hD hS hl => kk H locs ls hP hD hS (lv_sub hl ks h)
theorem vWs {ws' : va_W} (h : ws = ws') (kk : vV p l e R s m args below meth c nL D cl sb Q ws' cells slots pc lv rest) : vV p l e R s m args below meth c nL D cl sb Q ws cells slots pc lv rest := h ▸ kk
theorem vPc {pc' : Nat} (h : pc = pc') (kk : vV p l e R s m args below meth c nL D cl sb Q ws cells slots pc' lv rest) : vV p l e R s m args below meth c nL D cl sb Q ws cells slots pc lv rest := h ▸ kk
theorem vPD (k : ∀ H : Heap, va_P D cl ws H → va_D (vAb sb) ws → vV p l e R s m args below meth c nL D cl sb Q ws cells slots pc lv rest) : vV p l e R s m args below meth c nL D cl sb Q ws cells slots pc lv rest :=
  fun H locs ls hP hD hS hl => k H hP hD H locs ls hP hD hS hl
end VV
end
section
/-- the words that every method of this claim rests on: what is good of the tables -/
def vGW : List Cond := lw_tbl.filter goodWord
theorem vgw {w : Cond} (i : Nat) (h : lw_tbl[i]? = some w) (g : goodWord w = true) : w ∈ vGW := List.mem_filter.mpr ⟨List.mem_of_getElem? h, g⟩
theorem vGW_good {w : Cond} (h : w ∈ vGW) : w ∈ lw_tbl ∧ goodWord w = true := List.mem_filter.mp h
theorem q_0 : (Cond.selects "Bytewell" yX3_isReadBack yX3_isReadBack) ∈ vGW := vgw 0 (by decide +kernel) (by decide +kernel)
theorem q_1 : (Cond.selects "Bytewell" yX3_isPouredBack yX3_isPouredBack) ∈ vGW := vgw 1 (by decide +kernel) (by decide +kernel)
theorem q_2 : (Cond.selects "java/lang/Throwable" ⟨"java/lang/Throwable", "fillInStackTrace", "(I)Ljava/lang/Throwable;"⟩ ⟨"java/lang/Throwable", "fillInStackTrace", "(I)Ljava/lang/Throwable;"⟩) ∈ vGW := vgw 2 (by decide +kernel) (by decide +kernel)
theorem q_3 : (Cond.selects "Bytewell" yX3_rowAt yX3_rowAt) ∈ vGW := vgw 3 (by decide +kernel) (by decide +kernel)
theorem q_4 : (Cond.selects "Bytewell" yX3_needRow yX3_needRow) ∈ vGW := vgw 4 (by decide +kernel) (by decide +kernel)
theorem q_5 : (Cond.selects "Bytewell" yX3_gathererAt yX3_gathererAt) ∈ vGW := vgw 5 (by decide +kernel) (by decide +kernel)
theorem q_6 : (Cond.selects "Bytewell" yX3_readerAt yX3_readerAt) ∈ vGW := vgw 6 (by decide +kernel) (by decide +kernel)
theorem q_7 : (Cond.selects "BytewellModel" yX4_isRow yX4_isRow) ∈ vGW := vgw 7 (by decide +kernel) (by decide +kernel)
theorem q_8 : (Cond.selects "BytewellModel" yX4_isWrong yX4_isWrong) ∈ vGW := vgw 8 (by decide +kernel) (by decide +kernel)
theorem q_9 : (Cond.selects "BytewellModel" yX4_long0 yX4_long0) ∈ vGW := vgw 9 (by decide +kernel) (by decide +kernel)
theorem q_10 : (Cond.selects "BytewellModel" yX4_becomes yX4_becomes) ∈ vGW := vgw 10 (by decide +kernel) (by decide +kernel)
theorem q_11 : (Cond.selects "BytewellModel" yX4_free yX4_free) ∈ vGW := vgw 11 (by decide +kernel) (by decide +kernel)
theorem q_12 : (Cond.selects "BytewellModel" yX4_isPart yX4_isPart) ∈ vGW := vgw 12 (by decide +kernel) (by decide +kernel)
theorem q_13 : (Cond.selects "BytewellModel" yX4_low yX4_low) ∈ vGW := vgw 13 (by decide +kernel) (by decide +kernel)
theorem q_14 : (Cond.selects "BytewellModel" yX4_isOther yX4_isOther) ∈ vGW := vgw 14 (by decide +kernel) (by decide +kernel)
theorem q_15 : (Cond.selects "BytewellModel" yX4_isFull yX4_isFull) ∈ vGW := vgw 15 (by decide +kernel) (by decide +kernel)
theorem q_16 : (Cond.selects "BytewellModel" yX4_adds yX4_adds) ∈ vGW := vgw 16 (by decide +kernel) (by decide +kernel)
theorem q_17 : (Cond.selects "BytewellModel" yX4_leftOf yX4_leftOf) ∈ vGW := vgw 17 (by decide +kernel) (by decide +kernel)
theorem q_18 : (Cond.selects "BytewellModel" yX4_isShut yX4_isShut) ∈ vGW := vgw 18 (by decide +kernel) (by decide +kernel)
theorem q_19 : (Cond.selects "BytewellModel" yX4_lays yX4_lays) ∈ vGW := vgw 19 (by decide +kernel) (by decide +kernel)
theorem q_20 : (Cond.selects "BytewellModel" yX4_keeps yX4_keeps) ∈ vGW := vgw 20 (by decide +kernel) (by decide +kernel)
theorem q_21 : (Cond.selects "BytewellModel" yX4_lesser yX4_lesser) ∈ vGW := vgw 21 (by decide +kernel) (by decide +kernel)
theorem q_22 : (Cond.selects "BytewellModel" yX4_next yX4_next) ∈ vGW := vgw 22 (by decide +kernel) (by decide +kernel)
theorem q_23 : (Cond.initialized "BytewellLaw") ∈ vGW := vgw 23 (by decide +kernel) (by decide +kernel)
theorem q_24 : (Cond.initialized "Bytewell") ∈ vGW := vgw 24 (by decide +kernel) (by decide +kernel)
theorem q_25 : (Cond.initialized "Bytewell$Row") ∈ vGW := vgw 25 (by decide +kernel) (by decide +kernel)
theorem q_26 : (Cond.initialized "java/lang/Math") ∈ vGW := vgw 26 (by decide +kernel) (by decide +kernel)
theorem q_27 : (Cond.initialized "Bytewell$Gatherer") ∈ vGW := vgw 27 (by decide +kernel) (by decide +kernel)
theorem q_28 : (Cond.initialized "Bytewell$Reader") ∈ vGW := vgw 28 (by decide +kernel) (by decide +kernel)
theorem q_29 : (Cond.initialized "BytewellModel") ∈ vGW := vgw 29 (by decide +kernel) (by decide +kernel)
theorem q_30 : (Cond.initialized "java/lang/Throwable") ∈ vGW := vgw 30 (by decide +kernel) (by decide +kernel)
theorem q_31 : (Cond.initialized "java/lang/Exception") ∈ vGW := vgw 31 (by decide +kernel) (by decide +kernel)
theorem q_32 : (Cond.initialized "java/lang/RuntimeException") ∈ vGW := vgw 32 (by decide +kernel) (by decide +kernel)
theorem q_33 : (Cond.initialized "java/lang/IndexOutOfBoundsException") ∈ vGW := vgw 33 (by decide +kernel) (by decide +kernel)
theorem q_34 : (Cond.initialized "java/lang/ArrayIndexOutOfBoundsException") ∈ vGW := vgw 34 (by decide +kernel) (by decide +kernel)
theorem q_35 : (Cond.initialized "java/lang/String") ∈ vGW := vgw 35 (by decide +kernel) (by decide +kernel)
theorem q_36 : (Cond.initialized "java/lang/IllegalArgumentException") ∈ vGW := vgw 36 (by decide +kernel) (by decide +kernel)
theorem q_37 : (Cond.initialized "java/lang/IllegalStateException") ∈ vGW := vgw 37 (by decide +kernel) (by decide +kernel)
theorem q_38 : (Cond.initialized "java/lang/System") ∈ vGW := vgw 38 (by decide +kernel) (by decide +kernel)
theorem q_39 : (Cond.initialized "java/lang/UnsupportedOperationException") ∈ vGW := vgw 39 (by decide +kernel) (by decide +kernel)
theorem q_40 : (Cond.initialized "java/util/NoSuchElementException") ∈ vGW := vgw 40 (by decide +kernel) (by decide +kernel)
theorem q_41 : (Cond.initialized "java/lang/ArithmeticException") ∈ vGW := vgw 41 (by decide +kernel) (by decide +kernel)
theorem q_42 : (Cond.classLink "BytewellLaw" 8 "Bytewell") ∈ vGW := vgw 42 (by decide +kernel) (by decide +kernel)
theorem q_43 : (Cond.instantiable "Bytewell" 5) ∈ vGW := vgw 43 (by decide +kernel) (by decide +kernel)
theorem q_44 : (Cond.methodLink "BytewellLaw" 127 yX3_init) ∈ vGW := vgw 44 (by decide +kernel) (by decide +kernel)
theorem q_45 : (Cond.instanceMethod yX3_init) ∈ vGW := vgw 45 (by decide +kernel) (by decide +kernel)
theorem q_46 : (Cond.code yX3_init cX3_init 2 none) ∈ vGW := vgw 46 (by decide +kernel) (by decide +kernel)
theorem q_47 : (Cond.methodLink "Bytewell" 1 ⟨"java/lang/Object", "<init>", "()V"⟩) ∈ vGW := vgw 47 (by decide +kernel) (by decide +kernel)
theorem q_48 : (Cond.instanceMethod ⟨"java/lang/Object", "<init>", "()V"⟩) ∈ vGW := vgw 48 (by decide +kernel) (by decide +kernel)
theorem q_49 : (Cond.code ⟨"java/lang/Object", "<init>", "()V"⟩ object_method_1_code 1 none) ∈ vGW := vgw 49 (by decide +kernel) (by decide +kernel)
theorem q_50 : (Cond.classLink "Bytewell" 9 "Bytewell$Row") ∈ vGW := vgw 50 (by decide +kernel) (by decide +kernel)
theorem t_51 : (Cond.arrayOver (.object "Bytewell$Row")) ∈ lw_tbl := List.mem_of_getElem? (i := 51) (by decide +kernel)
theorem q_52 : (Cond.instantiable "Bytewell$Row" 1) ∈ vGW := vgw 52 (by decide +kernel) (by decide +kernel)
theorem q_53 : (Cond.methodLink "Bytewell" 15 yX2_init) ∈ vGW := vgw 53 (by decide +kernel) (by decide +kernel)
theorem q_54 : (Cond.instanceMethod yX2_init) ∈ vGW := vgw 54 (by decide +kernel) (by decide +kernel)
theorem q_55 : (Cond.code yX2_init cX2_init 2 none) ∈ vGW := vgw 55 (by decide +kernel) (by decide +kernel)
theorem q_56 : (Cond.methodLink "Bytewell$Row" 1 ⟨"java/lang/Object", "<init>", "()V"⟩) ∈ vGW := vgw 56 (by decide +kernel) (by decide +kernel)
theorem q_57 : (Cond.methodLink "Bytewell$Row" 7 yJ9_max_7cf53) ∈ vGW := vgw 57 (by decide +kernel) (by decide +kernel)
theorem q_58 : (Cond.static yJ9_max_7cf53) ∈ vGW := vgw 58 (by decide +kernel) (by decide +kernel)
theorem q_59 : (Cond.code yJ9_max_7cf53 cJ9_max_7cf53 2 (some .int)) ∈ vGW := vgw 59 (by decide +kernel) (by decide +kernel)
theorem q_60 : (Cond.fieldLink "Bytewell$Row" 13 "Bytewell$Row" "bytes" "[B") ∈ vGW := vgw 60 (by decide +kernel) (by decide +kernel)
theorem q_61 : (Cond.laysFinal "Bytewell$Row" "Bytewell$Row" "bytes" "[B") ∈ vGW := vgw 61 (by decide +kernel) (by decide +kernel)
theorem q_62 : (Cond.soleField "Bytewell$Row" "bytes") ∈ vGW := vgw 62 (by decide +kernel) (by decide +kernel)
theorem q_63 : (Cond.superclass "Bytewell$Row" "java/lang/Object") ∈ vGW := vgw 63 (by decide +kernel) (by decide +kernel)
theorem q_64 : (Cond.arrayClass .byte) ∈ vGW := vgw 64 (by decide +kernel) (by decide +kernel)
theorem q_65 : (Cond.classLink "Bytewell" 18 "Bytewell$Gatherer") ∈ vGW := vgw 65 (by decide +kernel) (by decide +kernel)
theorem t_66 : (Cond.arrayOver (.object "Bytewell$Gatherer")) ∈ lw_tbl := List.mem_of_getElem? (i := 66) (by decide +kernel)
theorem q_67 : (Cond.instantiable "Bytewell$Gatherer" 2) ∈ vGW := vgw 67 (by decide +kernel) (by decide +kernel)
theorem q_68 : (Cond.methodLink "Bytewell" 24 yX0_init) ∈ vGW := vgw 68 (by decide +kernel) (by decide +kernel)
theorem q_69 : (Cond.instanceMethod yX0_init) ∈ vGW := vgw 69 (by decide +kernel) (by decide +kernel)
theorem q_70 : (Cond.code yX0_init cX0_init 1 none) ∈ vGW := vgw 70 (by decide +kernel) (by decide +kernel)
theorem q_71 : (Cond.methodLink "Bytewell$Gatherer" 3 ⟨"java/lang/Object", "<init>", "()V"⟩) ∈ vGW := vgw 71 (by decide +kernel) (by decide +kernel)
theorem q_72 : (Cond.classLink "Bytewell$Gatherer" 9 "Bytewell$Row") ∈ vGW := vgw 72 (by decide +kernel) (by decide +kernel)
theorem q_73 : (Cond.methodLink "Bytewell$Gatherer" 11 yX2_init) ∈ vGW := vgw 73 (by decide +kernel) (by decide +kernel)
theorem q_74 : (Cond.fieldLink "Bytewell$Gatherer" 14 "Bytewell$Gatherer" "kept" "LBytewell$Row;") ∈ vGW := vgw 74 (by decide +kernel) (by decide +kernel)
theorem q_75 : (Cond.fieldLink "Bytewell$Gatherer" 20 "Bytewell$Gatherer" "count" "I") ∈ vGW := vgw 75 (by decide +kernel) (by decide +kernel)
theorem q_76 : (Cond.laysFinal "Bytewell$Gatherer" "Bytewell$Gatherer" "kept" "LBytewell$Row;") ∈ vGW := vgw 76 (by decide +kernel) (by decide +kernel)
theorem q_77 : (Cond.soleField "Bytewell$Gatherer" "kept") ∈ vGW := vgw 77 (by decide +kernel) (by decide +kernel)
theorem q_78 : (Cond.lays "Bytewell$Gatherer" "Bytewell$Gatherer" "count" "I") ∈ vGW := vgw 78 (by decide +kernel) (by decide +kernel)
theorem q_79 : (Cond.soleField "Bytewell$Gatherer" "count") ∈ vGW := vgw 79 (by decide +kernel) (by decide +kernel)
theorem q_80 : (Cond.superclass "Bytewell$Gatherer" "java/lang/Object") ∈ vGW := vgw 80 (by decide +kernel) (by decide +kernel)
theorem q_81 : (Cond.classLink "Bytewell" 25 "Bytewell$Reader") ∈ vGW := vgw 81 (by decide +kernel) (by decide +kernel)
theorem t_82 : (Cond.arrayOver (.object "Bytewell$Reader")) ∈ lw_tbl := List.mem_of_getElem? (i := 82) (by decide +kernel)
theorem q_83 : (Cond.instantiable "Bytewell$Reader" 6) ∈ vGW := vgw 83 (by decide +kernel) (by decide +kernel)
theorem q_84 : (Cond.methodLink "Bytewell" 31 yX1_init) ∈ vGW := vgw 84 (by decide +kernel) (by decide +kernel)
theorem q_85 : (Cond.instanceMethod yX1_init) ∈ vGW := vgw 85 (by decide +kernel) (by decide +kernel)
theorem q_86 : (Cond.code yX1_init cX1_init 1 none) ∈ vGW := vgw 86 (by decide +kernel) (by decide +kernel)
theorem q_87 : (Cond.methodLink "Bytewell$Reader" 1 ⟨"java/lang/Object", "<init>", "()V"⟩) ∈ vGW := vgw 87 (by decide +kernel) (by decide +kernel)
theorem q_88 : (Cond.classLink "Bytewell$Reader" 7 "Bytewell$Row") ∈ vGW := vgw 88 (by decide +kernel) (by decide +kernel)
theorem q_89 : (Cond.methodLink "Bytewell$Reader" 9 yX2_init) ∈ vGW := vgw 89 (by decide +kernel) (by decide +kernel)
theorem q_90 : (Cond.fieldLink "Bytewell$Reader" 12 "Bytewell$Reader" "row" "LBytewell$Row;") ∈ vGW := vgw 90 (by decide +kernel) (by decide +kernel)
theorem q_91 : (Cond.fieldLink "Bytewell$Reader" 18 "Bytewell$Reader" "started" "Z") ∈ vGW := vgw 91 (by decide +kernel) (by decide +kernel)
theorem q_92 : (Cond.fieldLink "Bytewell$Reader" 22 "Bytewell$Reader" "place" "I") ∈ vGW := vgw 92 (by decide +kernel) (by decide +kernel)
theorem q_93 : (Cond.fieldLink "Bytewell$Reader" 39 "Bytewell$Reader" "markedPlace" "I") ∈ vGW := vgw 93 (by decide +kernel) (by decide +kernel)
theorem q_94 : (Cond.fieldLink "Bytewell$Reader" 26 "Bytewell$Reader" "told" "I") ∈ vGW := vgw 94 (by decide +kernel) (by decide +kernel)
theorem q_95 : (Cond.fieldLink "Bytewell$Reader" 42 "Bytewell$Reader" "markedTold" "I") ∈ vGW := vgw 95 (by decide +kernel) (by decide +kernel)
theorem q_96 : (Cond.lays "Bytewell$Reader" "Bytewell$Reader" "row" "LBytewell$Row;") ∈ vGW := vgw 96 (by decide +kernel) (by decide +kernel)
theorem q_97 : (Cond.soleField "Bytewell$Reader" "row") ∈ vGW := vgw 97 (by decide +kernel) (by decide +kernel)
theorem q_98 : (Cond.lays "Bytewell$Reader" "Bytewell$Reader" "started" "Z") ∈ vGW := vgw 98 (by decide +kernel) (by decide +kernel)
theorem q_99 : (Cond.soleField "Bytewell$Reader" "started") ∈ vGW := vgw 99 (by decide +kernel) (by decide +kernel)
theorem q_100 : (Cond.lays "Bytewell$Reader" "Bytewell$Reader" "place" "I") ∈ vGW := vgw 100 (by decide +kernel) (by decide +kernel)
theorem q_101 : (Cond.soleField "Bytewell$Reader" "place") ∈ vGW := vgw 101 (by decide +kernel) (by decide +kernel)
theorem q_102 : (Cond.lays "Bytewell$Reader" "Bytewell$Reader" "markedPlace" "I") ∈ vGW := vgw 102 (by decide +kernel) (by decide +kernel)
theorem q_103 : (Cond.soleField "Bytewell$Reader" "markedPlace") ∈ vGW := vgw 103 (by decide +kernel) (by decide +kernel)
theorem q_104 : (Cond.lays "Bytewell$Reader" "Bytewell$Reader" "told" "I") ∈ vGW := vgw 104 (by decide +kernel) (by decide +kernel)
theorem q_105 : (Cond.soleField "Bytewell$Reader" "told") ∈ vGW := vgw 105 (by decide +kernel) (by decide +kernel)
theorem q_106 : (Cond.lays "Bytewell$Reader" "Bytewell$Reader" "markedTold" "I") ∈ vGW := vgw 106 (by decide +kernel) (by decide +kernel)
theorem q_107 : (Cond.soleField "Bytewell$Reader" "markedTold") ∈ vGW := vgw 107 (by decide +kernel) (by decide +kernel)
theorem q_108 : (Cond.superclass "Bytewell$Reader" "java/lang/Object") ∈ vGW := vgw 108 (by decide +kernel) (by decide +kernel)
theorem q_109 : (Cond.fieldLink "Bytewell" 11 "Bytewell" "rows" "[LBytewell$Row;") ∈ vGW := vgw 109 (by decide +kernel) (by decide +kernel)
theorem q_110 : (Cond.fieldLink "Bytewell" 20 "Bytewell" "gatherers" "[LBytewell$Gatherer;") ∈ vGW := vgw 110 (by decide +kernel) (by decide +kernel)
theorem q_111 : (Cond.fieldLink "Bytewell" 27 "Bytewell" "readers" "[LBytewell$Reader;") ∈ vGW := vgw 111 (by decide +kernel) (by decide +kernel)
theorem q_112 : (Cond.fieldLink "Bytewell" 32 "Bytewell" "trialReader" "LBytewell$Reader;") ∈ vGW := vgw 112 (by decide +kernel) (by decide +kernel)
theorem q_113 : (Cond.fieldLink "Bytewell" 36 "Bytewell" "trialGatherer" "LBytewell$Gatherer;") ∈ vGW := vgw 113 (by decide +kernel) (by decide +kernel)
theorem q_114 : (Cond.laysFinal "Bytewell" "Bytewell" "rows" "[LBytewell$Row;") ∈ vGW := vgw 114 (by decide +kernel) (by decide +kernel)
theorem q_115 : (Cond.soleField "Bytewell" "rows") ∈ vGW := vgw 115 (by decide +kernel) (by decide +kernel)
theorem q_116 : (Cond.laysFinal "Bytewell" "Bytewell" "gatherers" "[LBytewell$Gatherer;") ∈ vGW := vgw 116 (by decide +kernel) (by decide +kernel)
theorem q_117 : (Cond.soleField "Bytewell" "gatherers") ∈ vGW := vgw 117 (by decide +kernel) (by decide +kernel)
theorem q_118 : (Cond.laysFinal "Bytewell" "Bytewell" "readers" "[LBytewell$Reader;") ∈ vGW := vgw 118 (by decide +kernel) (by decide +kernel)
theorem q_119 : (Cond.soleField "Bytewell" "readers") ∈ vGW := vgw 119 (by decide +kernel) (by decide +kernel)
theorem q_120 : (Cond.laysFinal "Bytewell" "Bytewell" "trialReader" "LBytewell$Reader;") ∈ vGW := vgw 120 (by decide +kernel) (by decide +kernel)
theorem q_121 : (Cond.soleField "Bytewell" "trialReader") ∈ vGW := vgw 121 (by decide +kernel) (by decide +kernel)
theorem q_122 : (Cond.laysFinal "Bytewell" "Bytewell" "trialGatherer" "LBytewell$Gatherer;") ∈ vGW := vgw 122 (by decide +kernel) (by decide +kernel)
theorem q_123 : (Cond.soleField "Bytewell" "trialGatherer") ∈ vGW := vgw 123 (by decide +kernel) (by decide +kernel)
theorem q_124 : (Cond.superclass "Bytewell" "java/lang/Object") ∈ vGW := vgw 124 (by decide +kernel) (by decide +kernel)
theorem q_125 : (Cond.methodLink "BytewellLaw" 243 yX3_checksum) ∈ vGW := vgw 125 (by decide +kernel) (by decide +kernel)
theorem q_126 : (Cond.instanceMethod yX3_checksum) ∈ vGW := vgw 126 (by decide +kernel) (by decide +kernel)
theorem q_127 : (Cond.selects "Bytewell" yX3_checksum yX3_checksum) ∈ vGW := vgw 127 (by decide +kernel) (by decide +kernel)
theorem q_128 : (Cond.code yX3_checksum cX3_checksum 4 (some .long)) ∈ vGW := vgw 128 (by decide +kernel) (by decide +kernel)
theorem q_129 : (Cond.constantLong "Bytewell" 182 (7 : Int64)) ∈ vGW := vgw 129 (by decide +kernel) (by decide +kernel)
theorem q_130 : (Cond.constantLong "Bytewell" 184 (31 : Int64)) ∈ vGW := vgw 130 (by decide +kernel) (by decide +kernel)
theorem q_131 : (Cond.methodLink "Bytewell" 51 yX2_count) ∈ vGW := vgw 131 (by decide +kernel) (by decide +kernel)
theorem q_132 : (Cond.instanceMethod yX2_count) ∈ vGW := vgw 132 (by decide +kernel) (by decide +kernel)
theorem q_133 : (Cond.selects "Bytewell$Row" yX2_count yX2_count) ∈ vGW := vgw 133 (by decide +kernel) (by decide +kernel)
theorem q_134 : (Cond.code yX2_count cX2_count 1 (some .int)) ∈ vGW := vgw 134 (by decide +kernel) (by decide +kernel)
theorem q_135 : (Cond.methodLink "Bytewell" 186 yX2_addedTo) ∈ vGW := vgw 135 (by decide +kernel) (by decide +kernel)
theorem q_136 : (Cond.instanceMethod yX2_addedTo) ∈ vGW := vgw 136 (by decide +kernel) (by decide +kernel)
theorem q_137 : (Cond.selects "Bytewell$Row" yX2_addedTo yX2_addedTo) ∈ vGW := vgw 137 (by decide +kernel) (by decide +kernel)
theorem q_138 : (Cond.code yX2_addedTo cX2_addedTo 7 (some .long)) ∈ vGW := vgw 138 (by decide +kernel) (by decide +kernel)
theorem q_139 : (Cond.constantLong "Bytewell$Row" 37 (31 : Int64)) ∈ vGW := vgw 139 (by decide +kernel) (by decide +kernel)
theorem q_140 : (Cond.methodLink "Bytewell$Row" 23 yX2_byteAt) ∈ vGW := vgw 140 (by decide +kernel) (by decide +kernel)
theorem q_141 : (Cond.instanceMethod yX2_byteAt) ∈ vGW := vgw 141 (by decide +kernel) (by decide +kernel)
theorem q_142 : (Cond.selects "Bytewell$Row" yX2_byteAt yX2_byteAt) ∈ vGW := vgw 142 (by decide +kernel) (by decide +kernel)
theorem q_143 : (Cond.code yX2_byteAt cX2_byteAt 2 (some .int)) ∈ vGW := vgw 143 (by decide +kernel) (by decide +kernel)
theorem q_144 : (Cond.methodLink "Bytewell$Row" 19 yX2_has) ∈ vGW := vgw 144 (by decide +kernel) (by decide +kernel)
theorem q_145 : (Cond.instanceMethod yX2_has) ∈ vGW := vgw 145 (by decide +kernel) (by decide +kernel)
theorem q_146 : (Cond.selects "Bytewell$Row" yX2_has yX2_has) ∈ vGW := vgw 146 (by decide +kernel) (by decide +kernel)
theorem q_147 : (Cond.code yX2_has cX2_has 2 (some .boolean)) ∈ vGW := vgw 147 (by decide +kernel) (by decide +kernel)
theorem q_148 : (Cond.methodLink "Bytewell" 78 yX0_count) ∈ vGW := vgw 148 (by decide +kernel) (by decide +kernel)
theorem q_149 : (Cond.instanceMethod yX0_count) ∈ vGW := vgw 149 (by decide +kernel) (by decide +kernel)
theorem q_150 : (Cond.selects "Bytewell$Gatherer" yX0_count yX0_count) ∈ vGW := vgw 150 (by decide +kernel) (by decide +kernel)
theorem q_151 : (Cond.code yX0_count cX0_count 1 (some .int)) ∈ vGW := vgw 151 (by decide +kernel) (by decide +kernel)
theorem q_152 : (Cond.methodLink "Bytewell" 190 yX0_addedTo) ∈ vGW := vgw 152 (by decide +kernel) (by decide +kernel)
theorem q_153 : (Cond.instanceMethod yX0_addedTo) ∈ vGW := vgw 153 (by decide +kernel) (by decide +kernel)
theorem q_154 : (Cond.selects "Bytewell$Gatherer" yX0_addedTo yX0_addedTo) ∈ vGW := vgw 154 (by decide +kernel) (by decide +kernel)
theorem q_155 : (Cond.code yX0_addedTo cX0_addedTo 3 (some .long)) ∈ vGW := vgw 155 (by decide +kernel) (by decide +kernel)
theorem q_156 : (Cond.methodLink "Bytewell$Gatherer" 39 yX2_addedTo) ∈ vGW := vgw 156 (by decide +kernel) (by decide +kernel)
theorem q_157 : (Cond.methodLink "Bytewell" 103 yX1_isStarted) ∈ vGW := vgw 157 (by decide +kernel) (by decide +kernel)
theorem q_158 : (Cond.instanceMethod yX1_isStarted) ∈ vGW := vgw 158 (by decide +kernel) (by decide +kernel)
theorem q_159 : (Cond.selects "Bytewell$Reader" yX1_isStarted yX1_isStarted) ∈ vGW := vgw 159 (by decide +kernel) (by decide +kernel)
theorem q_160 : (Cond.code yX1_isStarted cX1_isStarted 1 (some .boolean)) ∈ vGW := vgw 160 (by decide +kernel) (by decide +kernel)
theorem q_161 : (Cond.methodLink "Bytewell" 100 yX1_remaining) ∈ vGW := vgw 161 (by decide +kernel) (by decide +kernel)
theorem q_162 : (Cond.instanceMethod yX1_remaining) ∈ vGW := vgw 162 (by decide +kernel) (by decide +kernel)
theorem q_163 : (Cond.selects "Bytewell$Reader" yX1_remaining yX1_remaining) ∈ vGW := vgw 163 (by decide +kernel) (by decide +kernel)
theorem q_164 : (Cond.code yX1_remaining cX1_remaining 1 (some .int)) ∈ vGW := vgw 164 (by decide +kernel) (by decide +kernel)
theorem q_165 : (Cond.methodLink "Bytewell$Reader" 32 yX2_count) ∈ vGW := vgw 165 (by decide +kernel) (by decide +kernel)
theorem q_166 : (Cond.methodLink "BytewellLaw" 248 yX3_isTrue) ∈ vGW := vgw 166 (by decide +kernel) (by decide +kernel)
theorem q_167 : (Cond.instanceMethod yX3_isTrue) ∈ vGW := vgw 167 (by decide +kernel) (by decide +kernel)
theorem q_168 : (Cond.selects "Bytewell" yX3_isTrue yX3_isTrue) ∈ vGW := vgw 168 (by decide +kernel) (by decide +kernel)
theorem q_169 : (Cond.code yX3_isTrue cX3_isTrue 2 (some .boolean)) ∈ vGW := vgw 169 (by decide +kernel) (by decide +kernel)
theorem q_170 : (Cond.methodLink "Bytewell" 193 yX1_hasToldAll) ∈ vGW := vgw 170 (by decide +kernel) (by decide +kernel)
theorem q_171 : (Cond.instanceMethod yX1_hasToldAll) ∈ vGW := vgw 171 (by decide +kernel) (by decide +kernel)
theorem q_172 : (Cond.selects "Bytewell$Reader" yX1_hasToldAll yX1_hasToldAll) ∈ vGW := vgw 172 (by decide +kernel) (by decide +kernel)
theorem q_173 : (Cond.code yX1_hasToldAll cX1_hasToldAll 1 (some .boolean)) ∈ vGW := vgw 173 (by decide +kernel) (by decide +kernel)
theorem q_174 : (Cond.methodLink "Bytewell$Reader" 36 yX1_remaining) ∈ vGW := vgw 174 (by decide +kernel) (by decide +kernel)
theorem q_175 : (Cond.methodLink "Bytewell" 196 yX3_isReadBack) ∈ vGW := vgw 175 (by decide +kernel) (by decide +kernel)
theorem t_176 : (Cond.privateMethod yX3_isReadBack) ∈ lw_tbl := List.mem_of_getElem? (i := 176) (by decide +kernel)
theorem q_177 : (Cond.instanceMethod yX3_isReadBack) ∈ vGW := vgw 177 (by decide +kernel) (by decide +kernel)
theorem q_178 : (Cond.code yX3_isReadBack cX3_isReadBack 3 (some .boolean)) ∈ vGW := vgw 178 (by decide +kernel) (by decide +kernel)
theorem q_179 : (Cond.methodLink "Bytewell" 88 yX0_copy) ∈ vGW := vgw 179 (by decide +kernel) (by decide +kernel)
theorem q_180 : (Cond.instanceMethod yX0_copy) ∈ vGW := vgw 180 (by decide +kernel) (by decide +kernel)
theorem q_181 : (Cond.selects "Bytewell$Gatherer" yX0_copy yX0_copy) ∈ vGW := vgw 181 (by decide +kernel) (by decide +kernel)
theorem q_182 : (Cond.code yX0_copy cX0_copy 2 (some (.object "Bytewell$Row"))) ∈ vGW := vgw 182 (by decide +kernel) (by decide +kernel)
theorem q_183 : (Cond.methodLink "Bytewell$Gatherer" 35 yX2_copyTo) ∈ vGW := vgw 183 (by decide +kernel) (by decide +kernel)
theorem q_184 : (Cond.instanceMethod yX2_copyTo) ∈ vGW := vgw 184 (by decide +kernel) (by decide +kernel)
theorem q_185 : (Cond.selects "Bytewell$Row" yX2_copyTo yX2_copyTo) ∈ vGW := vgw 185 (by decide +kernel) (by decide +kernel)
theorem q_186 : (Cond.code yX2_copyTo cX2_copyTo 5 none) ∈ vGW := vgw 186 (by decide +kernel) (by decide +kernel)
theorem q_187 : (Cond.methodLink "Bytewell$Row" 27 yX2_hasPart) ∈ vGW := vgw 187 (by decide +kernel) (by decide +kernel)
theorem q_188 : (Cond.instanceMethod yX2_hasPart) ∈ vGW := vgw 188 (by decide +kernel) (by decide +kernel)
theorem q_189 : (Cond.selects "Bytewell$Row" yX2_hasPart yX2_hasPart) ∈ vGW := vgw 189 (by decide +kernel) (by decide +kernel)
theorem q_190 : (Cond.code yX2_hasPart cX2_hasPart 3 (some .boolean)) ∈ vGW := vgw 190 (by decide +kernel) (by decide +kernel)
theorem q_191 : (Cond.methodLink "Bytewell$Row" 31 ⟨"java/lang/System", "arraycopy", "(Ljava/lang/Object;ILjava/lang/Object;II)V"⟩) ∈ vGW := vgw 191 (by decide +kernel) (by decide +kernel)
theorem q_192 : (Cond.static ⟨"java/lang/System", "arraycopy", "(Ljava/lang/Object;ILjava/lang/Object;II)V"⟩) ∈ vGW := vgw 192 (by decide +kernel) (by decide +kernel)
theorem q_193 : (Cond.native ⟨"java/lang/System", "arraycopy", "(Ljava/lang/Object;ILjava/lang/Object;II)V"⟩) ∈ vGW := vgw 193 (by decide +kernel) (by decide +kernel)
theorem q_194 : (Cond.methodLink "Bytewell" 96 yX1_start) ∈ vGW := vgw 194 (by decide +kernel) (by decide +kernel)
theorem q_195 : (Cond.instanceMethod yX1_start) ∈ vGW := vgw 195 (by decide +kernel) (by decide +kernel)
theorem q_196 : (Cond.selects "Bytewell$Reader" yX1_start yX1_start) ∈ vGW := vgw 196 (by decide +kernel) (by decide +kernel)
theorem q_197 : (Cond.code yX1_start cX1_start 2 none) ∈ vGW := vgw 197 (by decide +kernel) (by decide +kernel)
theorem q_198 : (Cond.methodLink "Bytewell$Reader" 29 yX1_setMark) ∈ vGW := vgw 198 (by decide +kernel) (by decide +kernel)
theorem q_199 : (Cond.instanceMethod yX1_setMark) ∈ vGW := vgw 199 (by decide +kernel) (by decide +kernel)
theorem q_200 : (Cond.selects "Bytewell$Reader" yX1_setMark yX1_setMark) ∈ vGW := vgw 200 (by decide +kernel) (by decide +kernel)
theorem q_201 : (Cond.code yX1_setMark cX1_setMark 1 none) ∈ vGW := vgw 201 (by decide +kernel) (by decide +kernel)
theorem q_202 : (Cond.methodLink "Bytewell" 114 yX1_next) ∈ vGW := vgw 202 (by decide +kernel) (by decide +kernel)
theorem q_203 : (Cond.instanceMethod yX1_next) ∈ vGW := vgw 203 (by decide +kernel) (by decide +kernel)
theorem q_204 : (Cond.selects "Bytewell$Reader" yX1_next yX1_next) ∈ vGW := vgw 204 (by decide +kernel) (by decide +kernel)
theorem q_205 : (Cond.code yX1_next cX1_next 2 (some .int)) ∈ vGW := vgw 205 (by decide +kernel) (by decide +kernel)
theorem q_206 : (Cond.methodLink "Bytewell$Reader" 49 yX1_peek) ∈ vGW := vgw 206 (by decide +kernel) (by decide +kernel)
theorem q_207 : (Cond.instanceMethod yX1_peek) ∈ vGW := vgw 207 (by decide +kernel) (by decide +kernel)
theorem q_208 : (Cond.selects "Bytewell$Reader" yX1_peek yX1_peek) ∈ vGW := vgw 208 (by decide +kernel) (by decide +kernel)
theorem q_209 : (Cond.code yX1_peek cX1_peek 1 (some .int)) ∈ vGW := vgw 209 (by decide +kernel) (by decide +kernel)
theorem q_210 : (Cond.methodLink "Bytewell$Reader" 45 yX2_byteAt) ∈ vGW := vgw 210 (by decide +kernel) (by decide +kernel)
theorem q_211 : (Cond.methodLink "Bytewell$Reader" 52 yX1_pass) ∈ vGW := vgw 211 (by decide +kernel) (by decide +kernel)
theorem q_212 : (Cond.instanceMethod yX1_pass) ∈ vGW := vgw 212 (by decide +kernel) (by decide +kernel)
theorem q_213 : (Cond.selects "Bytewell$Reader" yX1_pass yX1_pass) ∈ vGW := vgw 213 (by decide +kernel) (by decide +kernel)
theorem q_214 : (Cond.code yX1_pass cX1_pass 4 (some .int)) ∈ vGW := vgw 214 (by decide +kernel) (by decide +kernel)
theorem q_215 : (Cond.methodLink "Bytewell$Reader" 62 yX1_asManyAs) ∈ vGW := vgw 215 (by decide +kernel) (by decide +kernel)
theorem q_216 : (Cond.instanceMethod yX1_asManyAs) ∈ vGW := vgw 216 (by decide +kernel) (by decide +kernel)
theorem q_217 : (Cond.selects "Bytewell$Reader" yX1_asManyAs yX1_asManyAs) ∈ vGW := vgw 217 (by decide +kernel) (by decide +kernel)
theorem q_218 : (Cond.code yX1_asManyAs cX1_asManyAs 3 (some .int)) ∈ vGW := vgw 218 (by decide +kernel) (by decide +kernel)
theorem q_219 : (Cond.methodLink "Bytewell$Reader" 56 yJ9_min_f86c9) ∈ vGW := vgw 219 (by decide +kernel) (by decide +kernel)
theorem q_220 : (Cond.static yJ9_min_f86c9) ∈ vGW := vgw 220 (by decide +kernel) (by decide +kernel)
theorem q_221 : (Cond.code yJ9_min_f86c9 cJ9_min_f86c9 4 (some .long)) ∈ vGW := vgw 221 (by decide +kernel) (by decide +kernel)
theorem q_222 : (Cond.methodLink "Bytewell" 203 yX0_numberAt) ∈ vGW := vgw 222 (by decide +kernel) (by decide +kernel)
theorem q_223 : (Cond.instanceMethod yX0_numberAt) ∈ vGW := vgw 223 (by decide +kernel) (by decide +kernel)
theorem q_224 : (Cond.selects "Bytewell$Gatherer" yX0_numberAt yX0_numberAt) ∈ vGW := vgw 224 (by decide +kernel) (by decide +kernel)
theorem q_225 : (Cond.code yX0_numberAt cX0_numberAt 2 (some .int)) ∈ vGW := vgw 225 (by decide +kernel) (by decide +kernel)
theorem q_226 : (Cond.methodLink "Bytewell$Gatherer" 27 yX2_byteAt) ∈ vGW := vgw 226 (by decide +kernel) (by decide +kernel)
theorem q_227 : (Cond.methodLink "Bytewell" 200 yX3_isPouredBack) ∈ vGW := vgw 227 (by decide +kernel) (by decide +kernel)
theorem t_228 : (Cond.privateMethod yX3_isPouredBack) ∈ lw_tbl := List.mem_of_getElem? (i := 228) (by decide +kernel)
theorem q_229 : (Cond.instanceMethod yX3_isPouredBack) ∈ vGW := vgw 229 (by decide +kernel) (by decide +kernel)
theorem q_230 : (Cond.code yX3_isPouredBack cX3_isPouredBack 3 (some .boolean)) ∈ vGW := vgw 230 (by decide +kernel) (by decide +kernel)
theorem q_231 : (Cond.methodLink "Bytewell" 149 yX1_goBack) ∈ vGW := vgw 231 (by decide +kernel) (by decide +kernel)
theorem q_232 : (Cond.instanceMethod yX1_goBack) ∈ vGW := vgw 232 (by decide +kernel) (by decide +kernel)
theorem q_233 : (Cond.selects "Bytewell$Reader" yX1_goBack yX1_goBack) ∈ vGW := vgw 233 (by decide +kernel) (by decide +kernel)
theorem q_234 : (Cond.code yX1_goBack cX1_goBack 1 none) ∈ vGW := vgw 234 (by decide +kernel) (by decide +kernel)
theorem q_235 : (Cond.methodLink "Bytewell" 82 yX0_clear) ∈ vGW := vgw 235 (by decide +kernel) (by decide +kernel)
theorem q_236 : (Cond.instanceMethod yX0_clear) ∈ vGW := vgw 236 (by decide +kernel) (by decide +kernel)
theorem q_237 : (Cond.selects "Bytewell$Gatherer" yX0_clear yX0_clear) ∈ vGW := vgw 237 (by decide +kernel) (by decide +kernel)
theorem q_238 : (Cond.code yX0_clear cX0_clear 1 none) ∈ vGW := vgw 238 (by decide +kernel) (by decide +kernel)
theorem q_239 : (Cond.methodLink "Bytewell" 158 yX3_pourByParts) ∈ vGW := vgw 239 (by decide +kernel) (by decide +kernel)
theorem q_240 : (Cond.static yX3_pourByParts) ∈ vGW := vgw 240 (by decide +kernel) (by decide +kernel)
theorem q_241 : (Cond.code yX3_pourByParts cX3_pourByParts 4 (some .int)) ∈ vGW := vgw 241 (by decide +kernel) (by decide +kernel)
theorem q_242 : (Cond.methodLink "Bytewell" 152 yX1_pourInto) ∈ vGW := vgw 242 (by decide +kernel) (by decide +kernel)
theorem q_243 : (Cond.instanceMethod yX1_pourInto) ∈ vGW := vgw 243 (by decide +kernel) (by decide +kernel)
theorem q_244 : (Cond.selects "Bytewell$Reader" yX1_pourInto yX1_pourInto) ∈ vGW := vgw 244 (by decide +kernel) (by decide +kernel)
theorem q_245 : (Cond.code yX1_pourInto cX1_pourInto 4 (some .int)) ∈ vGW := vgw 245 (by decide +kernel) (by decide +kernel)
theorem q_246 : (Cond.methodLink "Bytewell$Reader" 73 yX0_gatherPart) ∈ vGW := vgw 246 (by decide +kernel) (by decide +kernel)
theorem q_247 : (Cond.instanceMethod yX0_gatherPart) ∈ vGW := vgw 247 (by decide +kernel) (by decide +kernel)
theorem q_248 : (Cond.selects "Bytewell$Gatherer" yX0_gatherPart yX0_gatherPart) ∈ vGW := vgw 248 (by decide +kernel) (by decide +kernel)
theorem q_249 : (Cond.code yX0_gatherPart cX0_gatherPart 4 none) ∈ vGW := vgw 249 (by decide +kernel) (by decide +kernel)
theorem q_250 : (Cond.methodLink "Bytewell" 111 yX1_tell) ∈ vGW := vgw 250 (by decide +kernel) (by decide +kernel)
theorem q_251 : (Cond.instanceMethod yX1_tell) ∈ vGW := vgw 251 (by decide +kernel) (by decide +kernel)
theorem q_252 : (Cond.selects "Bytewell$Reader" yX1_tell yX1_tell) ∈ vGW := vgw 252 (by decide +kernel) (by decide +kernel)
theorem q_253 : (Cond.code yX1_tell cX1_tell 2 (some .int)) ∈ vGW := vgw 253 (by decide +kernel) (by decide +kernel)
theorem q_254 : (Cond.methodLink "BytewellLaw" 131 yL_make) ∈ vGW := vgw 254 (by decide +kernel) (by decide +kernel)
theorem q_255 : (Cond.static yL_make) ∈ vGW := vgw 255 (by decide +kernel) (by decide +kernel)
theorem q_256 : (Cond.codeWith yL_make cL_make 5 (some .int) [(0, 10, 13, 13), (0, 10, 17, 15)]) ∈ vGW := vgw 256 (by decide +kernel) (by decide +kernel)
theorem q_257 : (Cond.classLink "BytewellLaw" 13 "java/lang/IndexOutOfBoundsException") ∈ vGW := vgw 257 (by decide +kernel) (by decide +kernel)
theorem q_258 : (Cond.instantiable "java/lang/ArrayIndexOutOfBoundsException" 6) ∈ vGW := vgw 258 (by decide +kernel) (by decide +kernel)
theorem q_259 : (Cond.instanceMethod yJx00060_init_a7421) ∈ vGW := vgw 259 (by decide +kernel) (by decide +kernel)
theorem q_260 : (Cond.code yJx00060_init_a7421 cJx00060_init_a7421 2 none) ∈ vGW := vgw 260 (by decide +kernel) (by decide +kernel)
theorem q_261 : (Cond.methodLink "java/lang/ArrayIndexOutOfBoundsException" 7 ⟨"java/lang/IndexOutOfBoundsException", "<init>", "(Ljava/lang/String;)V"⟩) ∈ vGW := vgw 261 (by decide +kernel) (by decide +kernel)
theorem q_262 : (Cond.instanceMethod ⟨"java/lang/IndexOutOfBoundsException", "<init>", "(Ljava/lang/String;)V"⟩) ∈ vGW := vgw 262 (by decide +kernel) (by decide +kernel)
theorem q_263 : (Cond.code ⟨"java/lang/IndexOutOfBoundsException", "<init>", "(Ljava/lang/String;)V"⟩ prog_13_method_2_code 2 none) ∈ vGW := vgw 263 (by decide +kernel) (by decide +kernel)
theorem q_264 : (Cond.methodLink "java/lang/IndexOutOfBoundsException" 7 ⟨"java/lang/RuntimeException", "<init>", "(Ljava/lang/String;)V"⟩) ∈ vGW := vgw 264 (by decide +kernel) (by decide +kernel)
theorem q_265 : (Cond.instanceMethod ⟨"java/lang/RuntimeException", "<init>", "(Ljava/lang/String;)V"⟩) ∈ vGW := vgw 265 (by decide +kernel) (by decide +kernel)
theorem q_266 : (Cond.code ⟨"java/lang/RuntimeException", "<init>", "(Ljava/lang/String;)V"⟩ prog_15_method_2_code 2 none) ∈ vGW := vgw 266 (by decide +kernel) (by decide +kernel)
theorem q_267 : (Cond.methodLink "java/lang/RuntimeException" 7 ⟨"java/lang/Exception", "<init>", "(Ljava/lang/String;)V"⟩) ∈ vGW := vgw 267 (by decide +kernel) (by decide +kernel)
theorem q_268 : (Cond.instanceMethod ⟨"java/lang/Exception", "<init>", "(Ljava/lang/String;)V"⟩) ∈ vGW := vgw 268 (by decide +kernel) (by decide +kernel)
theorem q_269 : (Cond.code ⟨"java/lang/Exception", "<init>", "(Ljava/lang/String;)V"⟩ prog_10_method_2_code 2 none) ∈ vGW := vgw 269 (by decide +kernel) (by decide +kernel)
theorem q_270 : (Cond.methodLink "java/lang/Exception" 7 ⟨"java/lang/Throwable", "<init>", "(Ljava/lang/String;)V"⟩) ∈ vGW := vgw 270 (by decide +kernel) (by decide +kernel)
theorem q_271 : (Cond.instanceMethod ⟨"java/lang/Throwable", "<init>", "(Ljava/lang/String;)V"⟩) ∈ vGW := vgw 271 (by decide +kernel) (by decide +kernel)
theorem q_272 : (Cond.code ⟨"java/lang/Throwable", "<init>", "(Ljava/lang/String;)V"⟩ prog_18_method_2_code 2 none) ∈ vGW := vgw 272 (by decide +kernel) (by decide +kernel)
theorem q_273 : (Cond.methodLink "java/lang/Throwable" 1 ⟨"java/lang/Object", "<init>", "()V"⟩) ∈ vGW := vgw 273 (by decide +kernel) (by decide +kernel)
theorem q_274 : (Cond.fieldLink "java/lang/Throwable" 13 "java/lang/Throwable" "UNASSIGNED_STACK" "[Ljava/lang/StackTraceElement;") ∈ vGW := vgw 274 (by decide +kernel) (by decide +kernel)
theorem t_275 : (Cond.laysStatic "java/lang/Throwable" "UNASSIGNED_STACK" "[Ljava/lang/StackTraceElement;") ∈ lw_tbl := List.mem_of_getElem? (i := 275) (by decide +kernel)
theorem q_276 : (Cond.fieldLink "java/lang/Throwable" 20 "java/lang/Throwable" "SUPPRESSED_SENTINEL" "Ljava/util/List;") ∈ vGW := vgw 276 (by decide +kernel) (by decide +kernel)
theorem t_277 : (Cond.laysStatic "java/lang/Throwable" "SUPPRESSED_SENTINEL" "Ljava/util/List;") ∈ lw_tbl := List.mem_of_getElem? (i := 277) (by decide +kernel)
theorem q_278 : (Cond.methodLink "java/lang/Throwable" 27 ⟨"java/lang/Throwable", "fillInStackTrace", "()Ljava/lang/Throwable;"⟩) ∈ vGW := vgw 278 (by decide +kernel) (by decide +kernel)
theorem q_279 : (Cond.instanceMethod ⟨"java/lang/Throwable", "fillInStackTrace", "()Ljava/lang/Throwable;"⟩) ∈ vGW := vgw 279 (by decide +kernel) (by decide +kernel)
theorem q_280 : (Cond.sameMethod "java/lang/Throwable" "java/lang/Throwable" "fillInStackTrace" "()Ljava/lang/Throwable;") ∈ vGW := vgw 280 (by decide +kernel) (by decide +kernel)
theorem q_281 : (Cond.selects "java/lang/ArithmeticException" ⟨"java/lang/Throwable", "fillInStackTrace", "()Ljava/lang/Throwable;"⟩ ⟨"java/lang/Throwable", "fillInStackTrace", "()Ljava/lang/Throwable;"⟩) ∈ vGW := vgw 281 (by decide +kernel) (by decide +kernel)
theorem q_282 : (Cond.selects "java/lang/ArrayIndexOutOfBoundsException" ⟨"java/lang/Throwable", "fillInStackTrace", "()Ljava/lang/Throwable;"⟩ ⟨"java/lang/Throwable", "fillInStackTrace", "()Ljava/lang/Throwable;"⟩) ∈ vGW := vgw 282 (by decide +kernel) (by decide +kernel)
theorem q_283 : (Cond.selects "java/lang/IllegalArgumentException" ⟨"java/lang/Throwable", "fillInStackTrace", "()Ljava/lang/Throwable;"⟩ ⟨"java/lang/Throwable", "fillInStackTrace", "()Ljava/lang/Throwable;"⟩) ∈ vGW := vgw 283 (by decide +kernel) (by decide +kernel)
theorem q_284 : (Cond.selects "java/lang/IllegalStateException" ⟨"java/lang/Throwable", "fillInStackTrace", "()Ljava/lang/Throwable;"⟩ ⟨"java/lang/Throwable", "fillInStackTrace", "()Ljava/lang/Throwable;"⟩) ∈ vGW := vgw 284 (by decide +kernel) (by decide +kernel)
theorem q_285 : (Cond.selects "java/lang/IndexOutOfBoundsException" ⟨"java/lang/Throwable", "fillInStackTrace", "()Ljava/lang/Throwable;"⟩ ⟨"java/lang/Throwable", "fillInStackTrace", "()Ljava/lang/Throwable;"⟩) ∈ vGW := vgw 285 (by decide +kernel) (by decide +kernel)
theorem q_286 : (Cond.selects "java/lang/UnsupportedOperationException" ⟨"java/lang/Throwable", "fillInStackTrace", "()Ljava/lang/Throwable;"⟩ ⟨"java/lang/Throwable", "fillInStackTrace", "()Ljava/lang/Throwable;"⟩) ∈ vGW := vgw 286 (by decide +kernel) (by decide +kernel)
theorem q_287 : (Cond.selects "java/util/NoSuchElementException" ⟨"java/lang/Throwable", "fillInStackTrace", "()Ljava/lang/Throwable;"⟩ ⟨"java/lang/Throwable", "fillInStackTrace", "()Ljava/lang/Throwable;"⟩) ∈ vGW := vgw 287 (by decide +kernel) (by decide +kernel)
theorem q_288 : (Cond.codeSync ⟨"java/lang/Throwable", "fillInStackTrace", "()Ljava/lang/Throwable;"⟩ prog_18_method_18_code 1 (some (.object "java/lang/Throwable"))) ∈ vGW := vgw 288 (by decide +kernel) (by decide +kernel)
theorem q_289 : (Cond.methodLink "java/lang/Throwable" 202 ⟨"java/lang/Throwable", "fillInStackTrace", "(I)Ljava/lang/Throwable;"⟩) ∈ vGW := vgw 289 (by decide +kernel) (by decide +kernel)
theorem t_290 : (Cond.privateMethod ⟨"java/lang/Throwable", "fillInStackTrace", "(I)Ljava/lang/Throwable;"⟩) ∈ lw_tbl := List.mem_of_getElem? (i := 290) (by decide +kernel)
theorem q_291 : (Cond.instanceMethod ⟨"java/lang/Throwable", "fillInStackTrace", "(I)Ljava/lang/Throwable;"⟩) ∈ vGW := vgw 291 (by decide +kernel) (by decide +kernel)
theorem q_292 : (Cond.instantiable "java/lang/Throwable" 6) ∈ vGW := vgw 292 (by decide +kernel) (by decide +kernel)
theorem q_293 : (Cond.native ⟨"java/lang/Throwable", "fillInStackTrace", "(I)Ljava/lang/Throwable;"⟩) ∈ vGW := vgw 293 (by decide +kernel) (by decide +kernel)
theorem q_294 : (Cond.fieldLink "java/lang/Throwable" 198 "java/lang/Throwable" "backtrace" "Ljava/lang/Object;") ∈ vGW := vgw 294 (by decide +kernel) (by decide +kernel)
theorem q_295 : (Cond.fieldLink "java/lang/Throwable" 31 "java/lang/Throwable" "detailMessage" "Ljava/lang/String;") ∈ vGW := vgw 295 (by decide +kernel) (by decide +kernel)
theorem q_296 : (Cond.fieldLink "java/lang/Throwable" 7 "java/lang/Throwable" "cause" "Ljava/lang/Throwable;") ∈ vGW := vgw 296 (by decide +kernel) (by decide +kernel)
theorem q_297 : (Cond.fieldLink "java/lang/Throwable" 17 "java/lang/Throwable" "stackTrace" "[Ljava/lang/StackTraceElement;") ∈ vGW := vgw 297 (by decide +kernel) (by decide +kernel)
theorem q_298 : (Cond.fieldLink "java/lang/Throwable" 24 "java/lang/Throwable" "suppressedExceptions" "Ljava/util/List;") ∈ vGW := vgw 298 (by decide +kernel) (by decide +kernel)
theorem q_299 : (Cond.lays "java/lang/ArrayIndexOutOfBoundsException" "java/lang/Throwable" "backtrace" "Ljava/lang/Object;") ∈ vGW := vgw 299 (by decide +kernel) (by decide +kernel)
theorem q_300 : (Cond.soleField "java/lang/Throwable" "backtrace") ∈ vGW := vgw 300 (by decide +kernel) (by decide +kernel)
theorem q_301 : (Cond.lays "java/lang/ArrayIndexOutOfBoundsException" "java/lang/Throwable" "detailMessage" "Ljava/lang/String;") ∈ vGW := vgw 301 (by decide +kernel) (by decide +kernel)
theorem q_302 : (Cond.soleField "java/lang/Throwable" "detailMessage") ∈ vGW := vgw 302 (by decide +kernel) (by decide +kernel)
theorem q_303 : (Cond.lays "java/lang/ArrayIndexOutOfBoundsException" "java/lang/Throwable" "cause" "Ljava/lang/Throwable;") ∈ vGW := vgw 303 (by decide +kernel) (by decide +kernel)
theorem q_304 : (Cond.soleField "java/lang/Throwable" "cause") ∈ vGW := vgw 304 (by decide +kernel) (by decide +kernel)
theorem q_305 : (Cond.lays "java/lang/ArrayIndexOutOfBoundsException" "java/lang/Throwable" "stackTrace" "[Ljava/lang/StackTraceElement;") ∈ vGW := vgw 305 (by decide +kernel) (by decide +kernel)
theorem q_306 : (Cond.soleField "java/lang/Throwable" "stackTrace") ∈ vGW := vgw 306 (by decide +kernel) (by decide +kernel)
theorem q_307 : (Cond.lays "java/lang/ArrayIndexOutOfBoundsException" "java/lang/Throwable" "depth" "I") ∈ vGW := vgw 307 (by decide +kernel) (by decide +kernel)
theorem q_308 : (Cond.soleField "java/lang/Throwable" "depth") ∈ vGW := vgw 308 (by decide +kernel) (by decide +kernel)
theorem q_309 : (Cond.lays "java/lang/ArrayIndexOutOfBoundsException" "java/lang/Throwable" "suppressedExceptions" "Ljava/util/List;") ∈ vGW := vgw 309 (by decide +kernel) (by decide +kernel)
theorem q_310 : (Cond.soleField "java/lang/Throwable" "suppressedExceptions") ∈ vGW := vgw 310 (by decide +kernel) (by decide +kernel)
theorem q_311 : (Cond.superclass "java/lang/ArrayIndexOutOfBoundsException" "java/lang/IndexOutOfBoundsException") ∈ vGW := vgw 311 (by decide +kernel) (by decide +kernel)
theorem t_312 : (Cond.castable "java/lang/ArrayIndexOutOfBoundsException" "java/lang/ArrayIndexOutOfBoundsException") ∈ lw_tbl := List.mem_of_getElem? (i := 312) (by decide +kernel)
theorem t_313 : (Cond.declares ⟨"java/lang/IndexOutOfBoundsException", "<init>", "()V"⟩) ∈ lw_tbl := List.mem_of_getElem? (i := 313) (by decide +kernel)
theorem t_314 : (Cond.declares ⟨"java/lang/IndexOutOfBoundsException", "<init>", "(Ljava/lang/String;)V"⟩) ∈ lw_tbl := List.mem_of_getElem? (i := 314) (by decide +kernel)
theorem t_315 : (Cond.declares ⟨"java/lang/RuntimeException", "<init>", "()V"⟩) ∈ lw_tbl := List.mem_of_getElem? (i := 315) (by decide +kernel)
theorem t_316 : (Cond.declares ⟨"java/lang/RuntimeException", "<init>", "(Ljava/lang/String;)V"⟩) ∈ lw_tbl := List.mem_of_getElem? (i := 316) (by decide +kernel)
theorem t_317 : (Cond.declares ⟨"java/lang/Exception", "<init>", "()V"⟩) ∈ lw_tbl := List.mem_of_getElem? (i := 317) (by decide +kernel)
theorem t_318 : (Cond.declares ⟨"java/lang/Exception", "<init>", "(Ljava/lang/String;)V"⟩) ∈ lw_tbl := List.mem_of_getElem? (i := 318) (by decide +kernel)
theorem t_319 : (Cond.declares ⟨"java/lang/Throwable", "<init>", "()V"⟩) ∈ lw_tbl := List.mem_of_getElem? (i := 319) (by decide +kernel)
theorem t_320 : (Cond.declares ⟨"java/lang/Throwable", "<init>", "(Ljava/lang/String;)V"⟩) ∈ lw_tbl := List.mem_of_getElem? (i := 320) (by decide +kernel)
theorem q_321 : (Cond.selects "java/lang/ArrayIndexOutOfBoundsException" ⟨"java/lang/Throwable", "fillInStackTrace", "(I)Ljava/lang/Throwable;"⟩ ⟨"java/lang/Throwable", "fillInStackTrace", "(I)Ljava/lang/Throwable;"⟩) ∈ vGW := vgw 321 (by decide +kernel) (by decide +kernel)
theorem q_322 : (Cond.lays "java/lang/Throwable" "java/lang/Throwable" "cause" "Ljava/lang/Throwable;") ∈ vGW := vgw 322 (by decide +kernel) (by decide +kernel)
theorem q_323 : (Cond.lays "java/lang/Throwable" "java/lang/Throwable" "stackTrace" "[Ljava/lang/StackTraceElement;") ∈ vGW := vgw 323 (by decide +kernel) (by decide +kernel)
theorem q_324 : (Cond.lays "java/lang/Throwable" "java/lang/Throwable" "suppressedExceptions" "Ljava/util/List;") ∈ vGW := vgw 324 (by decide +kernel) (by decide +kernel)
theorem q_325 : (Cond.lays "java/lang/Throwable" "java/lang/Throwable" "detailMessage" "Ljava/lang/String;") ∈ vGW := vgw 325 (by decide +kernel) (by decide +kernel)
theorem q_326 : (Cond.lays "java/lang/Throwable" "java/lang/Throwable" "backtrace" "Ljava/lang/Object;") ∈ vGW := vgw 326 (by decide +kernel) (by decide +kernel)
theorem q_327 : (Cond.fieldLink "java/lang/Throwable" 198 "java/lang/Throwable" "backtrace" "Ljava/lang/Object;") ∈ vGW := vgw 327 (by decide +kernel) (by decide +kernel)
theorem q_328 : (Cond.superclass "java/lang/Throwable" "java/lang/Object") ∈ vGW := vgw 328 (by decide +kernel) (by decide +kernel)
theorem q_329 : (Cond.instanceMethod ⟨"java/lang/Throwable", "<init>", "()V"⟩) ∈ vGW := vgw 329 (by decide +kernel) (by decide +kernel)
theorem q_330 : (Cond.code ⟨"java/lang/Throwable", "<init>", "()V"⟩ prog_18_method_1_code 1 none) ∈ vGW := vgw 330 (by decide +kernel) (by decide +kernel)
theorem q_331 : (Cond.instantiable "java/lang/String" 4) ∈ vGW := vgw 331 (by decide +kernel) (by decide +kernel)
theorem q_332 : (Cond.laysFinal "java/lang/String" "java/lang/String" "value" "[B") ∈ vGW := vgw 332 (by decide +kernel) (by decide +kernel)
theorem q_333 : (Cond.soleField "java/lang/String" "value") ∈ vGW := vgw 333 (by decide +kernel) (by decide +kernel)
theorem q_334 : (Cond.laysFinal "java/lang/String" "java/lang/String" "coder" "B") ∈ vGW := vgw 334 (by decide +kernel) (by decide +kernel)
theorem q_335 : (Cond.soleField "java/lang/String" "coder") ∈ vGW := vgw 335 (by decide +kernel) (by decide +kernel)
theorem q_336 : (Cond.classLink "BytewellLaw" 15 "java/lang/IllegalArgumentException") ∈ vGW := vgw 336 (by decide +kernel) (by decide +kernel)
theorem q_337 : (Cond.methodLink "BytewellLaw" 7 yX3_make) ∈ vGW := vgw 337 (by decide +kernel) (by decide +kernel)
theorem q_338 : (Cond.instanceMethod yX3_make) ∈ vGW := vgw 338 (by decide +kernel) (by decide +kernel)
theorem q_339 : (Cond.selects "Bytewell" yX3_make yX3_make) ∈ vGW := vgw 339 (by decide +kernel) (by decide +kernel)
theorem q_340 : (Cond.code yX3_make cX3_make 4 (some .int)) ∈ vGW := vgw 340 (by decide +kernel) (by decide +kernel)
theorem q_341 : (Cond.methodLink "Bytewell" 40 yX3_rowAt) ∈ vGW := vgw 341 (by decide +kernel) (by decide +kernel)
theorem t_342 : (Cond.privateMethod yX3_rowAt) ∈ lw_tbl := List.mem_of_getElem? (i := 342) (by decide +kernel)
theorem q_343 : (Cond.instanceMethod yX3_rowAt) ∈ vGW := vgw 343 (by decide +kernel) (by decide +kernel)
theorem q_344 : (Cond.code yX3_rowAt cX3_rowAt 2 (some (.object "Bytewell$Row"))) ∈ vGW := vgw 344 (by decide +kernel) (by decide +kernel)
theorem q_345 : (Cond.methodLink "Bytewell" 85 yX3_needRow) ∈ vGW := vgw 345 (by decide +kernel) (by decide +kernel)
theorem t_346 : (Cond.privateMethod yX3_needRow) ∈ lw_tbl := List.mem_of_getElem? (i := 346) (by decide +kernel)
theorem q_347 : (Cond.instanceMethod yX3_needRow) ∈ vGW := vgw 347 (by decide +kernel) (by decide +kernel)
theorem q_348 : (Cond.code yX3_needRow cX3_needRow 2 none) ∈ vGW := vgw 348 (by decide +kernel) (by decide +kernel)
theorem q_349 : (Cond.classLink "Bytewell" 206 "java/lang/IndexOutOfBoundsException") ∈ vGW := vgw 349 (by decide +kernel) (by decide +kernel)
theorem q_350 : (Cond.instantiable "java/lang/IndexOutOfBoundsException" 6) ∈ vGW := vgw 350 (by decide +kernel) (by decide +kernel)
theorem t_351 : (Cond.castable "java/lang/IndexOutOfBoundsException" "java/lang/IndexOutOfBoundsException") ∈ lw_tbl := List.mem_of_getElem? (i := 351) (by decide +kernel)
theorem q_352 : (Cond.selects "java/lang/IndexOutOfBoundsException" ⟨"java/lang/Throwable", "fillInStackTrace", "(I)Ljava/lang/Throwable;"⟩ ⟨"java/lang/Throwable", "fillInStackTrace", "(I)Ljava/lang/Throwable;"⟩) ∈ vGW := vgw 352 (by decide +kernel) (by decide +kernel)
theorem q_353 : (Cond.lays "java/lang/IndexOutOfBoundsException" "java/lang/Throwable" "cause" "Ljava/lang/Throwable;") ∈ vGW := vgw 353 (by decide +kernel) (by decide +kernel)
theorem q_354 : (Cond.lays "java/lang/IndexOutOfBoundsException" "java/lang/Throwable" "stackTrace" "[Ljava/lang/StackTraceElement;") ∈ vGW := vgw 354 (by decide +kernel) (by decide +kernel)
theorem q_355 : (Cond.lays "java/lang/IndexOutOfBoundsException" "java/lang/Throwable" "suppressedExceptions" "Ljava/util/List;") ∈ vGW := vgw 355 (by decide +kernel) (by decide +kernel)
theorem q_356 : (Cond.lays "java/lang/IndexOutOfBoundsException" "java/lang/Throwable" "detailMessage" "Ljava/lang/String;") ∈ vGW := vgw 356 (by decide +kernel) (by decide +kernel)
theorem q_357 : (Cond.lays "java/lang/IndexOutOfBoundsException" "java/lang/Throwable" "backtrace" "Ljava/lang/Object;") ∈ vGW := vgw 357 (by decide +kernel) (by decide +kernel)
theorem t_358 : (Cond.stringRef "Bytewell" 208 "there is no such row") ∈ lw_tbl := List.mem_of_getElem? (i := 358) (by decide +kernel)
theorem q_359 : (Cond.methodLink "Bytewell" 210 ⟨"java/lang/IndexOutOfBoundsException", "<init>", "(Ljava/lang/String;)V"⟩) ∈ vGW := vgw 359 (by decide +kernel) (by decide +kernel)
theorem q_360 : (Cond.lays "java/lang/IndexOutOfBoundsException" "java/lang/Throwable" "depth" "I") ∈ vGW := vgw 360 (by decide +kernel) (by decide +kernel)
theorem q_361 : (Cond.superclass "java/lang/IndexOutOfBoundsException" "java/lang/RuntimeException") ∈ vGW := vgw 361 (by decide +kernel) (by decide +kernel)
theorem q_362 : (Cond.classLink "Bytewell" 44 "java/lang/IllegalArgumentException") ∈ vGW := vgw 362 (by decide +kernel) (by decide +kernel)
theorem q_363 : (Cond.instantiable "java/lang/IllegalArgumentException" 6) ∈ vGW := vgw 363 (by decide +kernel) (by decide +kernel)
theorem t_364 : (Cond.castable "java/lang/IllegalArgumentException" "java/lang/IllegalArgumentException") ∈ lw_tbl := List.mem_of_getElem? (i := 364) (by decide +kernel)
theorem q_365 : (Cond.selects "java/lang/IllegalArgumentException" ⟨"java/lang/Throwable", "fillInStackTrace", "(I)Ljava/lang/Throwable;"⟩ ⟨"java/lang/Throwable", "fillInStackTrace", "(I)Ljava/lang/Throwable;"⟩) ∈ vGW := vgw 365 (by decide +kernel) (by decide +kernel)
theorem q_366 : (Cond.lays "java/lang/IllegalArgumentException" "java/lang/Throwable" "cause" "Ljava/lang/Throwable;") ∈ vGW := vgw 366 (by decide +kernel) (by decide +kernel)
theorem q_367 : (Cond.lays "java/lang/IllegalArgumentException" "java/lang/Throwable" "stackTrace" "[Ljava/lang/StackTraceElement;") ∈ vGW := vgw 367 (by decide +kernel) (by decide +kernel)
theorem q_368 : (Cond.lays "java/lang/IllegalArgumentException" "java/lang/Throwable" "suppressedExceptions" "Ljava/util/List;") ∈ vGW := vgw 368 (by decide +kernel) (by decide +kernel)
theorem q_369 : (Cond.lays "java/lang/IllegalArgumentException" "java/lang/Throwable" "detailMessage" "Ljava/lang/String;") ∈ vGW := vgw 369 (by decide +kernel) (by decide +kernel)
theorem q_370 : (Cond.lays "java/lang/IllegalArgumentException" "java/lang/Throwable" "backtrace" "Ljava/lang/Object;") ∈ vGW := vgw 370 (by decide +kernel) (by decide +kernel)
theorem t_371 : (Cond.stringRef "Bytewell" 46 "a row has 0 to 256 bytes") ∈ lw_tbl := List.mem_of_getElem? (i := 371) (by decide +kernel)
theorem q_372 : (Cond.methodLink "Bytewell" 48 ⟨"java/lang/IllegalArgumentException", "<init>", "(Ljava/lang/String;)V"⟩) ∈ vGW := vgw 372 (by decide +kernel) (by decide +kernel)
theorem q_373 : (Cond.instanceMethod ⟨"java/lang/IllegalArgumentException", "<init>", "(Ljava/lang/String;)V"⟩) ∈ vGW := vgw 373 (by decide +kernel) (by decide +kernel)
theorem q_374 : (Cond.code ⟨"java/lang/IllegalArgumentException", "<init>", "(Ljava/lang/String;)V"⟩ prog_11_method_2_code 2 none) ∈ vGW := vgw 374 (by decide +kernel) (by decide +kernel)
theorem q_375 : (Cond.methodLink "java/lang/IllegalArgumentException" 7 ⟨"java/lang/RuntimeException", "<init>", "(Ljava/lang/String;)V"⟩) ∈ vGW := vgw 375 (by decide +kernel) (by decide +kernel)
theorem q_376 : (Cond.lays "java/lang/IllegalArgumentException" "java/lang/Throwable" "depth" "I") ∈ vGW := vgw 376 (by decide +kernel) (by decide +kernel)
theorem q_377 : (Cond.superclass "java/lang/IllegalArgumentException" "java/lang/RuntimeException") ∈ vGW := vgw 377 (by decide +kernel) (by decide +kernel)
theorem q_378 : (Cond.methodLink "BytewellLaw" 141 yL_lend) ∈ vGW := vgw 378 (by decide +kernel) (by decide +kernel)
theorem q_379 : (Cond.static yL_lend) ∈ vGW := vgw 379 (by decide +kernel) (by decide +kernel)
theorem q_380 : (Cond.codeWith yL_lend cL_lend 5 (some .int) [(0, 10, 13, 13)]) ∈ vGW := vgw 380 (by decide +kernel) (by decide +kernel)
theorem q_381 : (Cond.methodLink "BytewellLaw" 17 yX3_lend) ∈ vGW := vgw 381 (by decide +kernel) (by decide +kernel)
theorem q_382 : (Cond.instanceMethod yX3_lend) ∈ vGW := vgw 382 (by decide +kernel) (by decide +kernel)
theorem q_383 : (Cond.selects "Bytewell" yX3_lend yX3_lend) ∈ vGW := vgw 383 (by decide +kernel) (by decide +kernel)
theorem q_384 : (Cond.code yX3_lend cX3_lend 5 (some .int)) ∈ vGW := vgw 384 (by decide +kernel) (by decide +kernel)
theorem q_385 : (Cond.methodLink "BytewellLaw" 144 yL_length) ∈ vGW := vgw 385 (by decide +kernel) (by decide +kernel)
theorem q_386 : (Cond.static yL_length) ∈ vGW := vgw 386 (by decide +kernel) (by decide +kernel)
theorem q_387 : (Cond.codeWith yL_length cL_length 4 (some .int) [(0, 9, 12, 13)]) ∈ vGW := vgw 387 (by decide +kernel) (by decide +kernel)
theorem q_388 : (Cond.methodLink "BytewellLaw" 20 yX3_length) ∈ vGW := vgw 388 (by decide +kernel) (by decide +kernel)
theorem q_389 : (Cond.instanceMethod yX3_length) ∈ vGW := vgw 389 (by decide +kernel) (by decide +kernel)
theorem q_390 : (Cond.selects "Bytewell" yX3_length yX3_length) ∈ vGW := vgw 390 (by decide +kernel) (by decide +kernel)
theorem q_391 : (Cond.code yX3_length cX3_length 2 (some .int)) ∈ vGW := vgw 391 (by decide +kernel) (by decide +kernel)
theorem q_392 : (Cond.methodLink "BytewellLaw" 148 yL_get) ∈ vGW := vgw 392 (by decide +kernel) (by decide +kernel)
theorem q_393 : (Cond.static yL_get) ∈ vGW := vgw 393 (by decide +kernel) (by decide +kernel)
theorem q_394 : (Cond.codeWith yL_get cL_get 5 (some .int) [(0, 10, 13, 13)]) ∈ vGW := vgw 394 (by decide +kernel) (by decide +kernel)
theorem q_395 : (Cond.methodLink "BytewellLaw" 24 yX3_get) ∈ vGW := vgw 395 (by decide +kernel) (by decide +kernel)
theorem q_396 : (Cond.instanceMethod yX3_get) ∈ vGW := vgw 396 (by decide +kernel) (by decide +kernel)
theorem q_397 : (Cond.selects "Bytewell" yX3_get yX3_get) ∈ vGW := vgw 397 (by decide +kernel) (by decide +kernel)
theorem q_398 : (Cond.code yX3_get cX3_get 4 (some .int)) ∈ vGW := vgw 398 (by decide +kernel) (by decide +kernel)
theorem q_399 : (Cond.methodLink "Bytewell" 55 yX3_needPlaces) ∈ vGW := vgw 399 (by decide +kernel) (by decide +kernel)
theorem q_400 : (Cond.static yX3_needPlaces) ∈ vGW := vgw 400 (by decide +kernel) (by decide +kernel)
theorem q_401 : (Cond.code yX3_needPlaces cX3_needPlaces 3 none) ∈ vGW := vgw 401 (by decide +kernel) (by decide +kernel)
theorem q_402 : (Cond.methodLink "Bytewell" 215 yX2_hasPart) ∈ vGW := vgw 402 (by decide +kernel) (by decide +kernel)
theorem t_403 : (Cond.stringRef "Bytewell" 219 "the row has not all of these places") ∈ lw_tbl := List.mem_of_getElem? (i := 403) (by decide +kernel)
theorem q_404 : (Cond.methodLink "Bytewell" 59 yX2_byteAt) ∈ vGW := vgw 404 (by decide +kernel) (by decide +kernel)
theorem q_405 : (Cond.methodLink "BytewellLaw" 151 yL_put) ∈ vGW := vgw 405 (by decide +kernel) (by decide +kernel)
theorem q_406 : (Cond.static yL_put) ∈ vGW := vgw 406 (by decide +kernel) (by decide +kernel)
theorem q_407 : (Cond.codeWith yL_put cL_put 6 (some .int) [(0, 12, 15, 13)]) ∈ vGW := vgw 407 (by decide +kernel) (by decide +kernel)
theorem q_408 : (Cond.methodLink "BytewellLaw" 27 yX3_put) ∈ vGW := vgw 408 (by decide +kernel) (by decide +kernel)
theorem q_409 : (Cond.instanceMethod yX3_put) ∈ vGW := vgw 409 (by decide +kernel) (by decide +kernel)
theorem q_410 : (Cond.selects "Bytewell" yX3_put yX3_put) ∈ vGW := vgw 410 (by decide +kernel) (by decide +kernel)
theorem q_411 : (Cond.code yX3_put cX3_put 5 (some .int)) ∈ vGW := vgw 411 (by decide +kernel) (by decide +kernel)
theorem q_412 : (Cond.methodLink "Bytewell" 63 yX2_exchange) ∈ vGW := vgw 412 (by decide +kernel) (by decide +kernel)
theorem q_413 : (Cond.instanceMethod yX2_exchange) ∈ vGW := vgw 413 (by decide +kernel) (by decide +kernel)
theorem q_414 : (Cond.selects "Bytewell$Row" yX2_exchange yX2_exchange) ∈ vGW := vgw 414 (by decide +kernel) (by decide +kernel)
theorem q_415 : (Cond.code yX2_exchange cX2_exchange 4 (some .int)) ∈ vGW := vgw 415 (by decide +kernel) (by decide +kernel)
theorem q_416 : (Cond.methodLink "BytewellLaw" 155 yL_fill) ∈ vGW := vgw 416 (by decide +kernel) (by decide +kernel)
theorem q_417 : (Cond.static yL_fill) ∈ vGW := vgw 417 (by decide +kernel) (by decide +kernel)
theorem q_418 : (Cond.codeWith yL_fill cL_fill 8 (some .int) [(0, 16, 19, 13)]) ∈ vGW := vgw 418 (by decide +kernel) (by decide +kernel)
theorem q_419 : (Cond.methodLink "BytewellLaw" 31 yX3_fill) ∈ vGW := vgw 419 (by decide +kernel) (by decide +kernel)
theorem q_420 : (Cond.instanceMethod yX3_fill) ∈ vGW := vgw 420 (by decide +kernel) (by decide +kernel)
theorem q_421 : (Cond.selects "Bytewell" yX3_fill yX3_fill) ∈ vGW := vgw 421 (by decide +kernel) (by decide +kernel)
theorem q_422 : (Cond.code yX3_fill cX3_fill 10 (some .int)) ∈ vGW := vgw 422 (by decide +kernel) (by decide +kernel)
theorem q_423 : (Cond.methodLink "BytewellLaw" 159 yL_isLike) ∈ vGW := vgw 423 (by decide +kernel) (by decide +kernel)
theorem q_424 : (Cond.static yL_isLike) ∈ vGW := vgw 424 (by decide +kernel) (by decide +kernel)
theorem q_425 : (Cond.codeWith yL_isLike cL_isLike 5 (some .int) [(0, 17, 20, 13)]) ∈ vGW := vgw 425 (by decide +kernel) (by decide +kernel)
theorem q_426 : (Cond.methodLink "BytewellLaw" 35 yX3_isLike) ∈ vGW := vgw 426 (by decide +kernel) (by decide +kernel)
theorem q_427 : (Cond.instanceMethod yX3_isLike) ∈ vGW := vgw 427 (by decide +kernel) (by decide +kernel)
theorem q_428 : (Cond.selects "Bytewell" yX3_isLike yX3_isLike) ∈ vGW := vgw 428 (by decide +kernel) (by decide +kernel)
theorem q_429 : (Cond.code yX3_isLike cX3_isLike 6 (some .boolean)) ∈ vGW := vgw 429 (by decide +kernel) (by decide +kernel)
theorem q_430 : (Cond.methodLink "BytewellLaw" 162 yL_write) ∈ vGW := vgw 430 (by decide +kernel) (by decide +kernel)
theorem q_431 : (Cond.static yL_write) ∈ vGW := vgw 431 (by decide +kernel) (by decide +kernel)
theorem q_432 : (Cond.codeWith yL_write cL_write 5 (some .int) [(0, 10, 13, 13), (0, 10, 17, 42)]) ∈ vGW := vgw 432 (by decide +kernel) (by decide +kernel)
theorem q_433 : (Cond.classLink "BytewellLaw" 42 "java/lang/IllegalStateException") ∈ vGW := vgw 433 (by decide +kernel) (by decide +kernel)
theorem q_434 : (Cond.methodLink "BytewellLaw" 39 yX3_write) ∈ vGW := vgw 434 (by decide +kernel) (by decide +kernel)
theorem q_435 : (Cond.instanceMethod yX3_write) ∈ vGW := vgw 435 (by decide +kernel) (by decide +kernel)
theorem q_436 : (Cond.selects "Bytewell" yX3_write yX3_write) ∈ vGW := vgw 436 (by decide +kernel) (by decide +kernel)
theorem q_437 : (Cond.code yX3_write cX3_write 4 (some .int)) ∈ vGW := vgw 437 (by decide +kernel) (by decide +kernel)
theorem q_438 : (Cond.methodLink "Bytewell" 67 yX3_gathererAt) ∈ vGW := vgw 438 (by decide +kernel) (by decide +kernel)
theorem t_439 : (Cond.privateMethod yX3_gathererAt) ∈ lw_tbl := List.mem_of_getElem? (i := 439) (by decide +kernel)
theorem q_440 : (Cond.instanceMethod yX3_gathererAt) ∈ vGW := vgw 440 (by decide +kernel) (by decide +kernel)
theorem q_441 : (Cond.code yX3_gathererAt cX3_gathererAt 2 (some (.object "Bytewell$Gatherer"))) ∈ vGW := vgw 441 (by decide +kernel) (by decide +kernel)
theorem t_442 : (Cond.stringRef "Bytewell" 211 "there is no such gatherer") ∈ lw_tbl := List.mem_of_getElem? (i := 442) (by decide +kernel)
theorem q_443 : (Cond.methodLink "Bytewell" 71 yX3_needRoom) ∈ vGW := vgw 443 (by decide +kernel) (by decide +kernel)
theorem q_444 : (Cond.static yX3_needRoom) ∈ vGW := vgw 444 (by decide +kernel) (by decide +kernel)
theorem q_445 : (Cond.code yX3_needRoom cX3_needRoom 2 none) ∈ vGW := vgw 445 (by decide +kernel) (by decide +kernel)
theorem q_446 : (Cond.methodLink "Bytewell" 221 yX0_room) ∈ vGW := vgw 446 (by decide +kernel) (by decide +kernel)
theorem q_447 : (Cond.instanceMethod yX0_room) ∈ vGW := vgw 447 (by decide +kernel) (by decide +kernel)
theorem q_448 : (Cond.selects "Bytewell$Gatherer" yX0_room yX0_room) ∈ vGW := vgw 448 (by decide +kernel) (by decide +kernel)
theorem q_449 : (Cond.code yX0_room cX0_room 1 (some .int)) ∈ vGW := vgw 449 (by decide +kernel) (by decide +kernel)
theorem q_450 : (Cond.methodLink "Bytewell$Gatherer" 24 yX2_count) ∈ vGW := vgw 450 (by decide +kernel) (by decide +kernel)
theorem q_451 : (Cond.classLink "Bytewell" 224 "java/lang/IllegalStateException") ∈ vGW := vgw 451 (by decide +kernel) (by decide +kernel)
theorem q_452 : (Cond.instantiable "java/lang/IllegalStateException" 6) ∈ vGW := vgw 452 (by decide +kernel) (by decide +kernel)
theorem t_453 : (Cond.castable "java/lang/IllegalStateException" "java/lang/IllegalStateException") ∈ lw_tbl := List.mem_of_getElem? (i := 453) (by decide +kernel)
theorem q_454 : (Cond.selects "java/lang/IllegalStateException" ⟨"java/lang/Throwable", "fillInStackTrace", "(I)Ljava/lang/Throwable;"⟩ ⟨"java/lang/Throwable", "fillInStackTrace", "(I)Ljava/lang/Throwable;"⟩) ∈ vGW := vgw 454 (by decide +kernel) (by decide +kernel)
theorem q_455 : (Cond.lays "java/lang/IllegalStateException" "java/lang/Throwable" "cause" "Ljava/lang/Throwable;") ∈ vGW := vgw 455 (by decide +kernel) (by decide +kernel)
theorem q_456 : (Cond.lays "java/lang/IllegalStateException" "java/lang/Throwable" "stackTrace" "[Ljava/lang/StackTraceElement;") ∈ vGW := vgw 456 (by decide +kernel) (by decide +kernel)
theorem q_457 : (Cond.lays "java/lang/IllegalStateException" "java/lang/Throwable" "suppressedExceptions" "Ljava/util/List;") ∈ vGW := vgw 457 (by decide +kernel) (by decide +kernel)
theorem q_458 : (Cond.lays "java/lang/IllegalStateException" "java/lang/Throwable" "detailMessage" "Ljava/lang/String;") ∈ vGW := vgw 458 (by decide +kernel) (by decide +kernel)
theorem q_459 : (Cond.lays "java/lang/IllegalStateException" "java/lang/Throwable" "backtrace" "Ljava/lang/Object;") ∈ vGW := vgw 459 (by decide +kernel) (by decide +kernel)
theorem t_460 : (Cond.stringRef "Bytewell" 226 "a gatherer has at most 256 bytes") ∈ lw_tbl := List.mem_of_getElem? (i := 460) (by decide +kernel)
theorem q_461 : (Cond.methodLink "Bytewell" 228 ⟨"java/lang/IllegalStateException", "<init>", "(Ljava/lang/String;)V"⟩) ∈ vGW := vgw 461 (by decide +kernel) (by decide +kernel)
theorem q_462 : (Cond.instanceMethod ⟨"java/lang/IllegalStateException", "<init>", "(Ljava/lang/String;)V"⟩) ∈ vGW := vgw 462 (by decide +kernel) (by decide +kernel)
theorem q_463 : (Cond.code ⟨"java/lang/IllegalStateException", "<init>", "(Ljava/lang/String;)V"⟩ prog_12_method_2_code 2 none) ∈ vGW := vgw 463 (by decide +kernel) (by decide +kernel)
theorem q_464 : (Cond.methodLink "java/lang/IllegalStateException" 7 ⟨"java/lang/RuntimeException", "<init>", "(Ljava/lang/String;)V"⟩) ∈ vGW := vgw 464 (by decide +kernel) (by decide +kernel)
theorem q_465 : (Cond.lays "java/lang/IllegalStateException" "java/lang/Throwable" "depth" "I") ∈ vGW := vgw 465 (by decide +kernel) (by decide +kernel)
theorem q_466 : (Cond.superclass "java/lang/IllegalStateException" "java/lang/RuntimeException") ∈ vGW := vgw 466 (by decide +kernel) (by decide +kernel)
theorem q_467 : (Cond.methodLink "Bytewell" 75 yX0_gather) ∈ vGW := vgw 467 (by decide +kernel) (by decide +kernel)
theorem q_468 : (Cond.instanceMethod yX0_gather) ∈ vGW := vgw 468 (by decide +kernel) (by decide +kernel)
theorem q_469 : (Cond.selects "Bytewell$Gatherer" yX0_gather yX0_gather) ∈ vGW := vgw 469 (by decide +kernel) (by decide +kernel)
theorem q_470 : (Cond.code yX0_gather cX0_gather 2 none) ∈ vGW := vgw 470 (by decide +kernel) (by decide +kernel)
theorem q_471 : (Cond.methodLink "Bytewell$Gatherer" 31 yX2_exchange) ∈ vGW := vgw 471 (by decide +kernel) (by decide +kernel)
theorem q_472 : (Cond.methodLink "BytewellLaw" 165 yL_writePart) ∈ vGW := vgw 472 (by decide +kernel) (by decide +kernel)
theorem q_473 : (Cond.static yL_writePart) ∈ vGW := vgw 473 (by decide +kernel) (by decide +kernel)
theorem q_474 : (Cond.codeWith yL_writePart cL_writePart 7 (some .int) [(0, 14, 17, 13), (0, 14, 21, 42)]) ∈ vGW := vgw 474 (by decide +kernel) (by decide +kernel)
theorem q_475 : (Cond.methodLink "BytewellLaw" 44 yX3_writePart) ∈ vGW := vgw 475 (by decide +kernel) (by decide +kernel)
theorem q_476 : (Cond.instanceMethod yX3_writePart) ∈ vGW := vgw 476 (by decide +kernel) (by decide +kernel)
theorem q_477 : (Cond.selects "Bytewell" yX3_writePart yX3_writePart) ∈ vGW := vgw 477 (by decide +kernel) (by decide +kernel)
theorem q_478 : (Cond.code yX3_writePart cX3_writePart 7 (some .int)) ∈ vGW := vgw 478 (by decide +kernel) (by decide +kernel)
theorem q_479 : (Cond.methodLink "Bytewell" 79 yX0_gatherPart) ∈ vGW := vgw 479 (by decide +kernel) (by decide +kernel)
theorem q_480 : (Cond.methodLink "BytewellLaw" 169 yL_writeRow) ∈ vGW := vgw 480 (by decide +kernel) (by decide +kernel)
theorem q_481 : (Cond.static yL_writeRow) ∈ vGW := vgw 481 (by decide +kernel) (by decide +kernel)
theorem q_482 : (Cond.codeWith yL_writeRow cL_writeRow 5 (some .int) [(0, 10, 13, 13), (0, 10, 17, 42)]) ∈ vGW := vgw 482 (by decide +kernel) (by decide +kernel)
theorem q_483 : (Cond.methodLink "BytewellLaw" 48 yX3_writeRow) ∈ vGW := vgw 483 (by decide +kernel) (by decide +kernel)
theorem q_484 : (Cond.instanceMethod yX3_writeRow) ∈ vGW := vgw 484 (by decide +kernel) (by decide +kernel)
theorem q_485 : (Cond.selects "Bytewell" yX3_writeRow yX3_writeRow) ∈ vGW := vgw 485 (by decide +kernel) (by decide +kernel)
theorem q_486 : (Cond.code yX3_writeRow cX3_writeRow 5 (some .int)) ∈ vGW := vgw 486 (by decide +kernel) (by decide +kernel)
theorem q_487 : (Cond.methodLink "BytewellLaw" 172 yL_writeNumber) ∈ vGW := vgw 487 (by decide +kernel) (by decide +kernel)
theorem q_488 : (Cond.static yL_writeNumber) ∈ vGW := vgw 488 (by decide +kernel) (by decide +kernel)
theorem q_489 : (Cond.codeWith yL_writeNumber cL_writeNumber 5 (some .int) [(0, 10, 13, 13), (0, 10, 17, 42)]) ∈ vGW := vgw 489 (by decide +kernel) (by decide +kernel)
theorem q_490 : (Cond.methodLink "BytewellLaw" 51 yX3_writeNumber) ∈ vGW := vgw 490 (by decide +kernel) (by decide +kernel)
theorem q_491 : (Cond.instanceMethod yX3_writeNumber) ∈ vGW := vgw 491 (by decide +kernel) (by decide +kernel)
theorem q_492 : (Cond.selects "Bytewell" yX3_writeNumber yX3_writeNumber) ∈ vGW := vgw 492 (by decide +kernel) (by decide +kernel)
theorem q_493 : (Cond.code yX3_writeNumber cX3_writeNumber 5 (some .int)) ∈ vGW := vgw 493 (by decide +kernel) (by decide +kernel)
theorem q_494 : (Cond.methodLink "BytewellLaw" 175 yL_size) ∈ vGW := vgw 494 (by decide +kernel) (by decide +kernel)
theorem q_495 : (Cond.static yL_size) ∈ vGW := vgw 495 (by decide +kernel) (by decide +kernel)
theorem q_496 : (Cond.codeWith yL_size cL_size 4 (some .int) [(0, 9, 12, 13)]) ∈ vGW := vgw 496 (by decide +kernel) (by decide +kernel)
theorem q_497 : (Cond.methodLink "BytewellLaw" 54 yX3_size) ∈ vGW := vgw 497 (by decide +kernel) (by decide +kernel)
theorem q_498 : (Cond.instanceMethod yX3_size) ∈ vGW := vgw 498 (by decide +kernel) (by decide +kernel)
theorem q_499 : (Cond.selects "Bytewell" yX3_size yX3_size) ∈ vGW := vgw 499 (by decide +kernel) (by decide +kernel)
theorem q_500 : (Cond.code yX3_size cX3_size 2 (some .int)) ∈ vGW := vgw 500 (by decide +kernel) (by decide +kernel)
theorem q_501 : (Cond.methodLink "BytewellLaw" 178 yL_empty) ∈ vGW := vgw 501 (by decide +kernel) (by decide +kernel)
theorem q_502 : (Cond.static yL_empty) ∈ vGW := vgw 502 (by decide +kernel) (by decide +kernel)
theorem q_503 : (Cond.codeWith yL_empty cL_empty 4 (some .int) [(0, 9, 12, 13)]) ∈ vGW := vgw 503 (by decide +kernel) (by decide +kernel)
theorem q_504 : (Cond.methodLink "BytewellLaw" 57 yX3_empty) ∈ vGW := vgw 504 (by decide +kernel) (by decide +kernel)
theorem q_505 : (Cond.instanceMethod yX3_empty) ∈ vGW := vgw 505 (by decide +kernel) (by decide +kernel)
theorem q_506 : (Cond.selects "Bytewell" yX3_empty yX3_empty) ∈ vGW := vgw 506 (by decide +kernel) (by decide +kernel)
theorem q_507 : (Cond.code yX3_empty cX3_empty 4 (some .int)) ∈ vGW := vgw 507 (by decide +kernel) (by decide +kernel)
theorem q_508 : (Cond.methodLink "BytewellLaw" 181 yL_take) ∈ vGW := vgw 508 (by decide +kernel) (by decide +kernel)
theorem q_509 : (Cond.static yL_take) ∈ vGW := vgw 509 (by decide +kernel) (by decide +kernel)
theorem q_510 : (Cond.codeWith yL_take cL_take 5 (some .int) [(0, 10, 13, 13)]) ∈ vGW := vgw 510 (by decide +kernel) (by decide +kernel)
theorem q_511 : (Cond.methodLink "BytewellLaw" 60 yX3_take) ∈ vGW := vgw 511 (by decide +kernel) (by decide +kernel)
theorem q_512 : (Cond.instanceMethod yX3_take) ∈ vGW := vgw 512 (by decide +kernel) (by decide +kernel)
theorem q_513 : (Cond.selects "Bytewell" yX3_take yX3_take) ∈ vGW := vgw 513 (by decide +kernel) (by decide +kernel)
theorem q_514 : (Cond.code yX3_take cX3_take 5 (some .int)) ∈ vGW := vgw 514 (by decide +kernel) (by decide +kernel)
theorem q_515 : (Cond.methodLink "BytewellLaw" 184 yL_open) ∈ vGW := vgw 515 (by decide +kernel) (by decide +kernel)
theorem q_516 : (Cond.static yL_open) ∈ vGW := vgw 516 (by decide +kernel) (by decide +kernel)
theorem q_517 : (Cond.codeWith yL_open cL_open 5 (some .int) [(0, 10, 13, 13)]) ∈ vGW := vgw 517 (by decide +kernel) (by decide +kernel)
theorem q_518 : (Cond.methodLink "BytewellLaw" 63 yX3_open) ∈ vGW := vgw 518 (by decide +kernel) (by decide +kernel)
theorem q_519 : (Cond.instanceMethod yX3_open) ∈ vGW := vgw 519 (by decide +kernel) (by decide +kernel)
theorem q_520 : (Cond.selects "Bytewell" yX3_open yX3_open) ∈ vGW := vgw 520 (by decide +kernel) (by decide +kernel)
theorem q_521 : (Cond.code yX3_open cX3_open 4 (some .int)) ∈ vGW := vgw 521 (by decide +kernel) (by decide +kernel)
theorem q_522 : (Cond.methodLink "Bytewell" 92 yX3_readerAt) ∈ vGW := vgw 522 (by decide +kernel) (by decide +kernel)
theorem t_523 : (Cond.privateMethod yX3_readerAt) ∈ lw_tbl := List.mem_of_getElem? (i := 523) (by decide +kernel)
theorem q_524 : (Cond.instanceMethod yX3_readerAt) ∈ vGW := vgw 524 (by decide +kernel) (by decide +kernel)
theorem q_525 : (Cond.code yX3_readerAt cX3_readerAt 2 (some (.object "Bytewell$Reader"))) ∈ vGW := vgw 525 (by decide +kernel) (by decide +kernel)
theorem t_526 : (Cond.stringRef "Bytewell" 213 "there is no such reader") ∈ lw_tbl := List.mem_of_getElem? (i := 526) (by decide +kernel)
theorem q_527 : (Cond.methodLink "BytewellLaw" 187 yL_isOpen) ∈ vGW := vgw 527 (by decide +kernel) (by decide +kernel)
theorem q_528 : (Cond.static yL_isOpen) ∈ vGW := vgw 528 (by decide +kernel) (by decide +kernel)
theorem q_529 : (Cond.codeWith yL_isOpen cL_isOpen 4 (some .int) [(0, 16, 19, 13)]) ∈ vGW := vgw 529 (by decide +kernel) (by decide +kernel)
theorem q_530 : (Cond.methodLink "BytewellLaw" 66 yX3_isOpen) ∈ vGW := vgw 530 (by decide +kernel) (by decide +kernel)
theorem q_531 : (Cond.instanceMethod yX3_isOpen) ∈ vGW := vgw 531 (by decide +kernel) (by decide +kernel)
theorem q_532 : (Cond.selects "Bytewell" yX3_isOpen yX3_isOpen) ∈ vGW := vgw 532 (by decide +kernel) (by decide +kernel)
theorem q_533 : (Cond.code yX3_isOpen cX3_isOpen 2 (some .boolean)) ∈ vGW := vgw 533 (by decide +kernel) (by decide +kernel)
theorem q_534 : (Cond.methodLink "BytewellLaw" 190 yL_read) ∈ vGW := vgw 534 (by decide +kernel) (by decide +kernel)
theorem q_535 : (Cond.static yL_read) ∈ vGW := vgw 535 (by decide +kernel) (by decide +kernel)
theorem q_536 : (Cond.codeWith yL_read cL_read 4 (some .int) [(0, 9, 12, 13), (0, 9, 15, 73)]) ∈ vGW := vgw 536 (by decide +kernel) (by decide +kernel)
theorem q_537 : (Cond.classLink "BytewellLaw" 73 "java/lang/UnsupportedOperationException") ∈ vGW := vgw 537 (by decide +kernel) (by decide +kernel)
theorem q_538 : (Cond.methodLink "BytewellLaw" 70 yX3_read) ∈ vGW := vgw 538 (by decide +kernel) (by decide +kernel)
theorem q_539 : (Cond.instanceMethod yX3_read) ∈ vGW := vgw 539 (by decide +kernel) (by decide +kernel)
theorem q_540 : (Cond.selects "Bytewell" yX3_read yX3_read) ∈ vGW := vgw 540 (by decide +kernel) (by decide +kernel)
theorem q_541 : (Cond.code yX3_read cX3_read 3 (some .int)) ∈ vGW := vgw 541 (by decide +kernel) (by decide +kernel)
theorem q_542 : (Cond.methodLink "Bytewell" 107 yX3_needOpen) ∈ vGW := vgw 542 (by decide +kernel) (by decide +kernel)
theorem q_543 : (Cond.static yX3_needOpen) ∈ vGW := vgw 543 (by decide +kernel) (by decide +kernel)
theorem q_544 : (Cond.code yX3_needOpen cX3_needOpen 1 none) ∈ vGW := vgw 544 (by decide +kernel) (by decide +kernel)
theorem q_545 : (Cond.classLink "Bytewell" 231 "java/lang/UnsupportedOperationException") ∈ vGW := vgw 545 (by decide +kernel) (by decide +kernel)
theorem q_546 : (Cond.instantiable "java/lang/UnsupportedOperationException" 6) ∈ vGW := vgw 546 (by decide +kernel) (by decide +kernel)
theorem t_547 : (Cond.castable "java/lang/UnsupportedOperationException" "java/lang/UnsupportedOperationException") ∈ lw_tbl := List.mem_of_getElem? (i := 547) (by decide +kernel)
theorem q_548 : (Cond.selects "java/lang/UnsupportedOperationException" ⟨"java/lang/Throwable", "fillInStackTrace", "(I)Ljava/lang/Throwable;"⟩ ⟨"java/lang/Throwable", "fillInStackTrace", "(I)Ljava/lang/Throwable;"⟩) ∈ vGW := vgw 548 (by decide +kernel) (by decide +kernel)
theorem q_549 : (Cond.lays "java/lang/UnsupportedOperationException" "java/lang/Throwable" "cause" "Ljava/lang/Throwable;") ∈ vGW := vgw 549 (by decide +kernel) (by decide +kernel)
theorem q_550 : (Cond.lays "java/lang/UnsupportedOperationException" "java/lang/Throwable" "stackTrace" "[Ljava/lang/StackTraceElement;") ∈ vGW := vgw 550 (by decide +kernel) (by decide +kernel)
theorem q_551 : (Cond.lays "java/lang/UnsupportedOperationException" "java/lang/Throwable" "suppressedExceptions" "Ljava/util/List;") ∈ vGW := vgw 551 (by decide +kernel) (by decide +kernel)
theorem q_552 : (Cond.lays "java/lang/UnsupportedOperationException" "java/lang/Throwable" "detailMessage" "Ljava/lang/String;") ∈ vGW := vgw 552 (by decide +kernel) (by decide +kernel)
theorem q_553 : (Cond.lays "java/lang/UnsupportedOperationException" "java/lang/Throwable" "backtrace" "Ljava/lang/Object;") ∈ vGW := vgw 553 (by decide +kernel) (by decide +kernel)
theorem t_554 : (Cond.stringRef "Bytewell" 233 "the reader is not open") ∈ lw_tbl := List.mem_of_getElem? (i := 554) (by decide +kernel)
theorem q_555 : (Cond.methodLink "Bytewell" 235 ⟨"java/lang/UnsupportedOperationException", "<init>", "(Ljava/lang/String;)V"⟩) ∈ vGW := vgw 555 (by decide +kernel) (by decide +kernel)
theorem q_556 : (Cond.instanceMethod ⟨"java/lang/UnsupportedOperationException", "<init>", "(Ljava/lang/String;)V"⟩) ∈ vGW := vgw 556 (by decide +kernel) (by decide +kernel)
theorem q_557 : (Cond.code ⟨"java/lang/UnsupportedOperationException", "<init>", "(Ljava/lang/String;)V"⟩ prog_19_method_2_code 2 none) ∈ vGW := vgw 557 (by decide +kernel) (by decide +kernel)
theorem q_558 : (Cond.methodLink "java/lang/UnsupportedOperationException" 7 ⟨"java/lang/RuntimeException", "<init>", "(Ljava/lang/String;)V"⟩) ∈ vGW := vgw 558 (by decide +kernel) (by decide +kernel)
theorem q_559 : (Cond.lays "java/lang/UnsupportedOperationException" "java/lang/Throwable" "depth" "I") ∈ vGW := vgw 559 (by decide +kernel) (by decide +kernel)
theorem q_560 : (Cond.superclass "java/lang/UnsupportedOperationException" "java/lang/RuntimeException") ∈ vGW := vgw 560 (by decide +kernel) (by decide +kernel)
theorem q_561 : (Cond.methodLink "BytewellLaw" 193 yL_readPart) ∈ vGW := vgw 561 (by decide +kernel) (by decide +kernel)
theorem q_562 : (Cond.static yL_readPart) ∈ vGW := vgw 562 (by decide +kernel) (by decide +kernel)
theorem q_563 : (Cond.codeWith yL_readPart cL_readPart 7 (some .int) [(0, 14, 17, 13), (0, 14, 21, 73)]) ∈ vGW := vgw 563 (by decide +kernel) (by decide +kernel)
theorem q_564 : (Cond.methodLink "BytewellLaw" 75 yX3_readPart) ∈ vGW := vgw 564 (by decide +kernel) (by decide +kernel)
theorem q_565 : (Cond.instanceMethod yX3_readPart) ∈ vGW := vgw 565 (by decide +kernel) (by decide +kernel)
theorem q_566 : (Cond.selects "Bytewell" yX3_readPart yX3_readPart) ∈ vGW := vgw 566 (by decide +kernel) (by decide +kernel)
theorem q_567 : (Cond.code yX3_readPart cX3_readPart 7 (some .int)) ∈ vGW := vgw 567 (by decide +kernel) (by decide +kernel)
theorem q_568 : (Cond.methodLink "Bytewell" 117 yX1_moveInto) ∈ vGW := vgw 568 (by decide +kernel) (by decide +kernel)
theorem q_569 : (Cond.instanceMethod yX1_moveInto) ∈ vGW := vgw 569 (by decide +kernel) (by decide +kernel)
theorem q_570 : (Cond.selects "Bytewell$Reader" yX1_moveInto yX1_moveInto) ∈ vGW := vgw 570 (by decide +kernel) (by decide +kernel)
theorem q_571 : (Cond.code yX1_moveInto cX1_moveInto 5 (some .int)) ∈ vGW := vgw 571 (by decide +kernel) (by decide +kernel)
theorem q_572 : (Cond.methodLink "Bytewell$Reader" 65 yX2_copyTo) ∈ vGW := vgw 572 (by decide +kernel) (by decide +kernel)
theorem q_573 : (Cond.methodLink "BytewellLaw" 196 yL_readFull) ∈ vGW := vgw 573 (by decide +kernel) (by decide +kernel)
theorem q_574 : (Cond.static yL_readFull) ∈ vGW := vgw 574 (by decide +kernel) (by decide +kernel)
theorem q_575 : (Cond.codeWith yL_readFull cL_readFull 7 (some .int) [(0, 14, 17, 13), (0, 14, 21, 73), (0, 14, 25, 15)]) ∈ vGW := vgw 575 (by decide +kernel) (by decide +kernel)
theorem q_576 : (Cond.methodLink "BytewellLaw" 78 yX3_readFull) ∈ vGW := vgw 576 (by decide +kernel) (by decide +kernel)
theorem q_577 : (Cond.instanceMethod yX3_readFull) ∈ vGW := vgw 577 (by decide +kernel) (by decide +kernel)
theorem q_578 : (Cond.selects "Bytewell" yX3_readFull yX3_readFull) ∈ vGW := vgw 578 (by decide +kernel) (by decide +kernel)
theorem q_579 : (Cond.code yX3_readFull cX3_readFull 7 (some .int)) ∈ vGW := vgw 579 (by decide +kernel) (by decide +kernel)
theorem q_580 : (Cond.methodLink "Bytewell" 121 yX1_isOver) ∈ vGW := vgw 580 (by decide +kernel) (by decide +kernel)
theorem q_581 : (Cond.instanceMethod yX1_isOver) ∈ vGW := vgw 581 (by decide +kernel) (by decide +kernel)
theorem q_582 : (Cond.selects "Bytewell$Reader" yX1_isOver yX1_isOver) ∈ vGW := vgw 582 (by decide +kernel) (by decide +kernel)
theorem q_583 : (Cond.code yX1_isOver cX1_isOver 2 (some .boolean)) ∈ vGW := vgw 583 (by decide +kernel) (by decide +kernel)
theorem t_584 : (Cond.stringRef "Bytewell" 125 "the row is what the reader reads") ∈ lw_tbl := List.mem_of_getElem? (i := 584) (by decide +kernel)
theorem q_585 : (Cond.methodLink "BytewellLaw" 199 yL_readSome) ∈ vGW := vgw 585 (by decide +kernel) (by decide +kernel)
theorem q_586 : (Cond.static yL_readSome) ∈ vGW := vgw 586 (by decide +kernel) (by decide +kernel)
theorem q_587 : (Cond.codeWith yL_readSome cL_readSome 6 (some .int) [(0, 12, 15, 13), (0, 12, 19, 15), (0, 12, 23, 73)]) ∈ vGW := vgw 587 (by decide +kernel) (by decide +kernel)
theorem q_588 : (Cond.methodLink "BytewellLaw" 81 yX3_readSome) ∈ vGW := vgw 588 (by decide +kernel) (by decide +kernel)
theorem q_589 : (Cond.instanceMethod yX3_readSome) ∈ vGW := vgw 589 (by decide +kernel) (by decide +kernel)
theorem q_590 : (Cond.selects "Bytewell" yX3_readSome yX3_readSome) ∈ vGW := vgw 590 (by decide +kernel) (by decide +kernel)
theorem q_591 : (Cond.code yX3_readSome cX3_readSome 5 (some .int)) ∈ vGW := vgw 591 (by decide +kernel) (by decide +kernel)
theorem q_592 : (Cond.methodLink "Bytewell" 127 yX3_needWanted) ∈ vGW := vgw 592 (by decide +kernel) (by decide +kernel)
theorem q_593 : (Cond.static yX3_needWanted) ∈ vGW := vgw 593 (by decide +kernel) (by decide +kernel)
theorem q_594 : (Cond.code yX3_needWanted cX3_needWanted 2 none) ∈ vGW := vgw 594 (by decide +kernel) (by decide +kernel)
theorem t_595 : (Cond.stringRef "Bytewell" 229 "fewer than 0 are wanted") ∈ lw_tbl := List.mem_of_getElem? (i := 595) (by decide +kernel)
theorem q_596 : (Cond.methodLink "Bytewell" 131 yX1_nextRow) ∈ vGW := vgw 596 (by decide +kernel) (by decide +kernel)
theorem q_597 : (Cond.instanceMethod yX1_nextRow) ∈ vGW := vgw 597 (by decide +kernel) (by decide +kernel)
theorem q_598 : (Cond.selects "Bytewell$Reader" yX1_nextRow yX1_nextRow) ∈ vGW := vgw 598 (by decide +kernel) (by decide +kernel)
theorem q_599 : (Cond.code yX1_nextRow cX1_nextRow 3 (some (.object "Bytewell$Row"))) ∈ vGW := vgw 599 (by decide +kernel) (by decide +kernel)
theorem q_600 : (Cond.methodLink "Bytewell$Reader" 69 yX1_moveInto) ∈ vGW := vgw 600 (by decide +kernel) (by decide +kernel)
theorem q_601 : (Cond.methodLink "BytewellLaw" 202 yL_readNumber) ∈ vGW := vgw 601 (by decide +kernel) (by decide +kernel)
theorem q_602 : (Cond.static yL_readNumber) ∈ vGW := vgw 602 (by decide +kernel) (by decide +kernel)
theorem q_603 : (Cond.codeWith yL_readNumber cL_readNumber 4 (some .int) [(0, 9, 12, 13), (0, 9, 15, 73), (0, 9, 18, 87)]) ∈ vGW := vgw 603 (by decide +kernel) (by decide +kernel)
theorem q_604 : (Cond.classLink "BytewellLaw" 87 "java/util/NoSuchElementException") ∈ vGW := vgw 604 (by decide +kernel) (by decide +kernel)
theorem q_605 : (Cond.methodLink "BytewellLaw" 84 yX3_readNumber) ∈ vGW := vgw 605 (by decide +kernel) (by decide +kernel)
theorem q_606 : (Cond.instanceMethod yX3_readNumber) ∈ vGW := vgw 606 (by decide +kernel) (by decide +kernel)
theorem q_607 : (Cond.selects "Bytewell" yX3_readNumber yX3_readNumber) ∈ vGW := vgw 607 (by decide +kernel) (by decide +kernel)
theorem q_608 : (Cond.code yX3_readNumber cX3_readNumber 5 (some .int)) ∈ vGW := vgw 608 (by decide +kernel) (by decide +kernel)
theorem q_609 : (Cond.classLink "Bytewell" 134 "java/util/NoSuchElementException") ∈ vGW := vgw 609 (by decide +kernel) (by decide +kernel)
theorem q_610 : (Cond.instantiable "java/util/NoSuchElementException" 6) ∈ vGW := vgw 610 (by decide +kernel) (by decide +kernel)
theorem t_611 : (Cond.castable "java/util/NoSuchElementException" "java/util/NoSuchElementException") ∈ lw_tbl := List.mem_of_getElem? (i := 611) (by decide +kernel)
theorem q_612 : (Cond.selects "java/util/NoSuchElementException" ⟨"java/lang/Throwable", "fillInStackTrace", "(I)Ljava/lang/Throwable;"⟩ ⟨"java/lang/Throwable", "fillInStackTrace", "(I)Ljava/lang/Throwable;"⟩) ∈ vGW := vgw 612 (by decide +kernel) (by decide +kernel)
theorem q_613 : (Cond.lays "java/util/NoSuchElementException" "java/lang/Throwable" "cause" "Ljava/lang/Throwable;") ∈ vGW := vgw 613 (by decide +kernel) (by decide +kernel)
theorem q_614 : (Cond.lays "java/util/NoSuchElementException" "java/lang/Throwable" "stackTrace" "[Ljava/lang/StackTraceElement;") ∈ vGW := vgw 614 (by decide +kernel) (by decide +kernel)
theorem q_615 : (Cond.lays "java/util/NoSuchElementException" "java/lang/Throwable" "suppressedExceptions" "Ljava/util/List;") ∈ vGW := vgw 615 (by decide +kernel) (by decide +kernel)
theorem q_616 : (Cond.lays "java/util/NoSuchElementException" "java/lang/Throwable" "detailMessage" "Ljava/lang/String;") ∈ vGW := vgw 616 (by decide +kernel) (by decide +kernel)
theorem q_617 : (Cond.lays "java/util/NoSuchElementException" "java/lang/Throwable" "backtrace" "Ljava/lang/Object;") ∈ vGW := vgw 617 (by decide +kernel) (by decide +kernel)
theorem t_618 : (Cond.stringRef "Bytewell" 136 "fewer than four bytes are left") ∈ lw_tbl := List.mem_of_getElem? (i := 618) (by decide +kernel)
theorem q_619 : (Cond.methodLink "Bytewell" 138 ⟨"java/util/NoSuchElementException", "<init>", "(Ljava/lang/String;)V"⟩) ∈ vGW := vgw 619 (by decide +kernel) (by decide +kernel)
theorem q_620 : (Cond.instanceMethod ⟨"java/util/NoSuchElementException", "<init>", "(Ljava/lang/String;)V"⟩) ∈ vGW := vgw 620 (by decide +kernel) (by decide +kernel)
theorem q_621 : (Cond.code ⟨"java/util/NoSuchElementException", "<init>", "(Ljava/lang/String;)V"⟩ prog_20_method_4_code 2 none) ∈ vGW := vgw 621 (by decide +kernel) (by decide +kernel)
theorem q_622 : (Cond.methodLink "java/util/NoSuchElementException" 13 ⟨"java/lang/RuntimeException", "<init>", "(Ljava/lang/String;)V"⟩) ∈ vGW := vgw 622 (by decide +kernel) (by decide +kernel)
theorem q_623 : (Cond.lays "java/util/NoSuchElementException" "java/lang/Throwable" "depth" "I") ∈ vGW := vgw 623 (by decide +kernel) (by decide +kernel)
theorem q_624 : (Cond.superclass "java/util/NoSuchElementException" "java/lang/RuntimeException") ∈ vGW := vgw 624 (by decide +kernel) (by decide +kernel)
theorem q_625 : (Cond.methodLink "BytewellLaw" 205 yL_readLine) ∈ vGW := vgw 625 (by decide +kernel) (by decide +kernel)
theorem q_626 : (Cond.static yL_readLine) ∈ vGW := vgw 626 (by decide +kernel) (by decide +kernel)
theorem q_627 : (Cond.codeWith yL_readLine cL_readLine 5 (some .int) [(0, 10, 13, 13), (0, 10, 17, 73)]) ∈ vGW := vgw 627 (by decide +kernel) (by decide +kernel)
theorem q_628 : (Cond.methodLink "BytewellLaw" 89 yX3_readLine) ∈ vGW := vgw 628 (by decide +kernel) (by decide +kernel)
theorem q_629 : (Cond.instanceMethod yX3_readLine) ∈ vGW := vgw 629 (by decide +kernel) (by decide +kernel)
theorem q_630 : (Cond.selects "Bytewell" yX3_readLine yX3_readLine) ∈ vGW := vgw 630 (by decide +kernel) (by decide +kernel)
theorem q_631 : (Cond.code yX3_readLine cX3_readLine 5 (some .int)) ∈ vGW := vgw 631 (by decide +kernel) (by decide +kernel)
theorem q_632 : (Cond.methodLink "Bytewell" 139 yX1_distanceTo) ∈ vGW := vgw 632 (by decide +kernel) (by decide +kernel)
theorem q_633 : (Cond.instanceMethod yX1_distanceTo) ∈ vGW := vgw 633 (by decide +kernel) (by decide +kernel)
theorem q_634 : (Cond.selects "Bytewell$Reader" yX1_distanceTo yX1_distanceTo) ∈ vGW := vgw 634 (by decide +kernel) (by decide +kernel)
theorem q_635 : (Cond.code yX1_distanceTo cX1_distanceTo 4 (some .int)) ∈ vGW := vgw 635 (by decide +kernel) (by decide +kernel)
theorem q_636 : (Cond.methodLink "Bytewell" 142 yX1_pass) ∈ vGW := vgw 636 (by decide +kernel) (by decide +kernel)
theorem q_637 : (Cond.methodLink "BytewellLaw" 208 yL_find) ∈ vGW := vgw 637 (by decide +kernel) (by decide +kernel)
theorem q_638 : (Cond.static yL_find) ∈ vGW := vgw 638 (by decide +kernel) (by decide +kernel)
theorem q_639 : (Cond.codeWith yL_find cL_find 5 (some .int) [(0, 10, 13, 13), (0, 10, 17, 73)]) ∈ vGW := vgw 639 (by decide +kernel) (by decide +kernel)
theorem q_640 : (Cond.methodLink "BytewellLaw" 92 yX3_find) ∈ vGW := vgw 640 (by decide +kernel) (by decide +kernel)
theorem q_641 : (Cond.instanceMethod yX3_find) ∈ vGW := vgw 641 (by decide +kernel) (by decide +kernel)
theorem q_642 : (Cond.selects "Bytewell" yX3_find yX3_find) ∈ vGW := vgw 642 (by decide +kernel) (by decide +kernel)
theorem q_643 : (Cond.code yX3_find cX3_find 5 (some .int)) ∈ vGW := vgw 643 (by decide +kernel) (by decide +kernel)
theorem q_644 : (Cond.methodLink "BytewellLaw" 213 yL_skip) ∈ vGW := vgw 644 (by decide +kernel) (by decide +kernel)
theorem q_645 : (Cond.static yL_skip) ∈ vGW := vgw 645 (by decide +kernel) (by decide +kernel)
theorem q_646 : (Cond.codeWith yL_skip cL_skip 6 (some .int) [(0, 10, 13, 13), (0, 10, 17, 15), (0, 10, 21, 73)]) ∈ vGW := vgw 646 (by decide +kernel) (by decide +kernel)
theorem q_647 : (Cond.methodLink "BytewellLaw" 95 yX3_skip) ∈ vGW := vgw 647 (by decide +kernel) (by decide +kernel)
theorem q_648 : (Cond.instanceMethod yX3_skip) ∈ vGW := vgw 648 (by decide +kernel) (by decide +kernel)
theorem q_649 : (Cond.selects "Bytewell" yX3_skip yX3_skip) ∈ vGW := vgw 649 (by decide +kernel) (by decide +kernel)
theorem q_650 : (Cond.code yX3_skip cX3_skip 5 (some .long)) ∈ vGW := vgw 650 (by decide +kernel) (by decide +kernel)
theorem q_651 : (Cond.methodLink "BytewellLaw" 217 yL_left) ∈ vGW := vgw 651 (by decide +kernel) (by decide +kernel)
theorem q_652 : (Cond.static yL_left) ∈ vGW := vgw 652 (by decide +kernel) (by decide +kernel)
theorem q_653 : (Cond.codeWith yL_left cL_left 4 (some .int) [(0, 9, 12, 13), (0, 9, 15, 73)]) ∈ vGW := vgw 653 (by decide +kernel) (by decide +kernel)
theorem q_654 : (Cond.methodLink "BytewellLaw" 99 yX3_left) ∈ vGW := vgw 654 (by decide +kernel) (by decide +kernel)
theorem q_655 : (Cond.instanceMethod yX3_left) ∈ vGW := vgw 655 (by decide +kernel) (by decide +kernel)
theorem q_656 : (Cond.selects "Bytewell" yX3_left yX3_left) ∈ vGW := vgw 656 (by decide +kernel) (by decide +kernel)
theorem q_657 : (Cond.code yX3_left cX3_left 3 (some .int)) ∈ vGW := vgw 657 (by decide +kernel) (by decide +kernel)
theorem q_658 : (Cond.methodLink "BytewellLaw" 220 yL_mark) ∈ vGW := vgw 658 (by decide +kernel) (by decide +kernel)
theorem q_659 : (Cond.static yL_mark) ∈ vGW := vgw 659 (by decide +kernel) (by decide +kernel)
theorem q_660 : (Cond.codeWith yL_mark cL_mark 5 (some .int) [(0, 10, 13, 13), (0, 10, 17, 73)]) ∈ vGW := vgw 660 (by decide +kernel) (by decide +kernel)
theorem q_661 : (Cond.methodLink "BytewellLaw" 102 yX3_mark) ∈ vGW := vgw 661 (by decide +kernel) (by decide +kernel)
theorem q_662 : (Cond.instanceMethod yX3_mark) ∈ vGW := vgw 662 (by decide +kernel) (by decide +kernel)
theorem q_663 : (Cond.selects "Bytewell" yX3_mark yX3_mark) ∈ vGW := vgw 663 (by decide +kernel) (by decide +kernel)
theorem q_664 : (Cond.code yX3_mark cX3_mark 4 (some .int)) ∈ vGW := vgw 664 (by decide +kernel) (by decide +kernel)
theorem q_665 : (Cond.methodLink "Bytewell" 146 yX1_setMark) ∈ vGW := vgw 665 (by decide +kernel) (by decide +kernel)
theorem q_666 : (Cond.methodLink "BytewellLaw" 223 yL_back) ∈ vGW := vgw 666 (by decide +kernel) (by decide +kernel)
theorem q_667 : (Cond.static yL_back) ∈ vGW := vgw 667 (by decide +kernel) (by decide +kernel)
theorem q_668 : (Cond.codeWith yL_back cL_back 4 (some .int) [(0, 9, 12, 13), (0, 9, 15, 73)]) ∈ vGW := vgw 668 (by decide +kernel) (by decide +kernel)
theorem q_669 : (Cond.methodLink "BytewellLaw" 105 yX3_back) ∈ vGW := vgw 669 (by decide +kernel) (by decide +kernel)
theorem q_670 : (Cond.instanceMethod yX3_back) ∈ vGW := vgw 670 (by decide +kernel) (by decide +kernel)
theorem q_671 : (Cond.selects "Bytewell" yX3_back yX3_back) ∈ vGW := vgw 671 (by decide +kernel) (by decide +kernel)
theorem q_672 : (Cond.code yX3_back cX3_back 3 (some .int)) ∈ vGW := vgw 672 (by decide +kernel) (by decide +kernel)
theorem q_673 : (Cond.methodLink "BytewellLaw" 226 yL_pour) ∈ vGW := vgw 673 (by decide +kernel) (by decide +kernel)
theorem q_674 : (Cond.static yL_pour) ∈ vGW := vgw 674 (by decide +kernel) (by decide +kernel)
theorem q_675 : (Cond.codeWith yL_pour cL_pour 5 (some .int) [(0, 10, 13, 13), (0, 10, 17, 73), (0, 10, 21, 42)]) ∈ vGW := vgw 675 (by decide +kernel) (by decide +kernel)
theorem q_676 : (Cond.methodLink "BytewellLaw" 108 yX3_pour) ∈ vGW := vgw 676 (by decide +kernel) (by decide +kernel)
theorem q_677 : (Cond.instanceMethod yX3_pour) ∈ vGW := vgw 677 (by decide +kernel) (by decide +kernel)
theorem q_678 : (Cond.selects "Bytewell" yX3_pour yX3_pour) ∈ vGW := vgw 678 (by decide +kernel) (by decide +kernel)
theorem q_679 : (Cond.code yX3_pour cX3_pour 5 (some .int)) ∈ vGW := vgw 679 (by decide +kernel) (by decide +kernel)
theorem q_680 : (Cond.methodLink "BytewellLaw" 229 yL_pourParts) ∈ vGW := vgw 680 (by decide +kernel) (by decide +kernel)
theorem q_681 : (Cond.static yL_pourParts) ∈ vGW := vgw 681 (by decide +kernel) (by decide +kernel)
theorem q_682 : (Cond.codeWith yL_pourParts cL_pourParts 6 (some .int) [(0, 12, 15, 13), (0, 12, 19, 15), (0, 12, 23, 73), (0, 12, 27, 42)]) ∈ vGW := vgw 682 (by decide +kernel) (by decide +kernel)
theorem q_683 : (Cond.methodLink "BytewellLaw" 111 yX3_pourParts) ∈ vGW := vgw 683 (by decide +kernel) (by decide +kernel)
theorem q_684 : (Cond.instanceMethod yX3_pourParts) ∈ vGW := vgw 684 (by decide +kernel) (by decide +kernel)
theorem q_685 : (Cond.selects "Bytewell" yX3_pourParts yX3_pourParts) ∈ vGW := vgw 685 (by decide +kernel) (by decide +kernel)
theorem q_686 : (Cond.code yX3_pourParts cX3_pourParts 6 (some .int)) ∈ vGW := vgw 686 (by decide +kernel) (by decide +kernel)
theorem t_687 : (Cond.stringRef "Bytewell" 156 "a part has 1 to 64 bytes") ∈ lw_tbl := List.mem_of_getElem? (i := 687) (by decide +kernel)
theorem q_688 : (Cond.methodLink "BytewellLaw" 232 yL_alike) ∈ vGW := vgw 688 (by decide +kernel) (by decide +kernel)
theorem q_689 : (Cond.static yL_alike) ∈ vGW := vgw 689 (by decide +kernel) (by decide +kernel)
theorem q_690 : (Cond.codeWith yL_alike cL_alike 5 (some .int) [(0, 10, 13, 13), (0, 10, 17, 15), (0, 10, 21, 73)]) ∈ vGW := vgw 690 (by decide +kernel) (by decide +kernel)
theorem q_691 : (Cond.methodLink "BytewellLaw" 114 yX3_alike) ∈ vGW := vgw 691 (by decide +kernel) (by decide +kernel)
theorem q_692 : (Cond.instanceMethod yX3_alike) ∈ vGW := vgw 692 (by decide +kernel) (by decide +kernel)
theorem q_693 : (Cond.selects "Bytewell" yX3_alike yX3_alike) ∈ vGW := vgw 693 (by decide +kernel) (by decide +kernel)
theorem q_694 : (Cond.code yX3_alike cX3_alike 7 (some .int)) ∈ vGW := vgw 694 (by decide +kernel) (by decide +kernel)
theorem t_695 : (Cond.stringRef "Bytewell" 162 "a reader is not compared with itself") ∈ lw_tbl := List.mem_of_getElem? (i := 695) (by decide +kernel)
theorem q_696 : (Cond.methodLink "Bytewell" 164 yJ9_min_7cf53) ∈ vGW := vgw 696 (by decide +kernel) (by decide +kernel)
theorem q_697 : (Cond.static yJ9_min_7cf53) ∈ vGW := vgw 697 (by decide +kernel) (by decide +kernel)
theorem q_698 : (Cond.code yJ9_min_7cf53 cJ9_min_7cf53 2 (some .int)) ∈ vGW := vgw 698 (by decide +kernel) (by decide +kernel)
theorem q_699 : (Cond.methodLink "Bytewell" 169 yX1_peek) ∈ vGW := vgw 699 (by decide +kernel) (by decide +kernel)
theorem q_700 : (Cond.methodLink "BytewellLaw" 235 yL_leftShare) ∈ vGW := vgw 700 (by decide +kernel) (by decide +kernel)
theorem q_701 : (Cond.static yL_leftShare) ∈ vGW := vgw 701 (by decide +kernel) (by decide +kernel)
theorem q_702 : (Cond.codeWith yL_leftShare cL_leftShare 4 (some .int) [(0, 9, 12, 13), (0, 9, 15, 73), (0, 9, 18, 121)]) ∈ vGW := vgw 702 (by decide +kernel) (by decide +kernel)
theorem q_703 : (Cond.classLink "BytewellLaw" 121 "java/lang/ArithmeticException") ∈ vGW := vgw 703 (by decide +kernel) (by decide +kernel)
theorem q_704 : (Cond.instantiable "java/lang/ArithmeticException" 6) ∈ vGW := vgw 704 (by decide +kernel) (by decide +kernel)
theorem q_705 : (Cond.instanceMethod ⟨"java/lang/ArithmeticException", "<init>", "(Ljava/lang/String;)V"⟩) ∈ vGW := vgw 705 (by decide +kernel) (by decide +kernel)
theorem q_706 : (Cond.code ⟨"java/lang/ArithmeticException", "<init>", "(Ljava/lang/String;)V"⟩ prog_8_method_2_code 2 none) ∈ vGW := vgw 706 (by decide +kernel) (by decide +kernel)
theorem q_707 : (Cond.methodLink "java/lang/ArithmeticException" 7 ⟨"java/lang/RuntimeException", "<init>", "(Ljava/lang/String;)V"⟩) ∈ vGW := vgw 707 (by decide +kernel) (by decide +kernel)
theorem q_708 : (Cond.lays "java/lang/ArithmeticException" "java/lang/Throwable" "backtrace" "Ljava/lang/Object;") ∈ vGW := vgw 708 (by decide +kernel) (by decide +kernel)
theorem q_709 : (Cond.lays "java/lang/ArithmeticException" "java/lang/Throwable" "detailMessage" "Ljava/lang/String;") ∈ vGW := vgw 709 (by decide +kernel) (by decide +kernel)
theorem q_710 : (Cond.lays "java/lang/ArithmeticException" "java/lang/Throwable" "cause" "Ljava/lang/Throwable;") ∈ vGW := vgw 710 (by decide +kernel) (by decide +kernel)
theorem q_711 : (Cond.lays "java/lang/ArithmeticException" "java/lang/Throwable" "stackTrace" "[Ljava/lang/StackTraceElement;") ∈ vGW := vgw 711 (by decide +kernel) (by decide +kernel)
theorem q_712 : (Cond.lays "java/lang/ArithmeticException" "java/lang/Throwable" "depth" "I") ∈ vGW := vgw 712 (by decide +kernel) (by decide +kernel)
theorem q_713 : (Cond.lays "java/lang/ArithmeticException" "java/lang/Throwable" "suppressedExceptions" "Ljava/util/List;") ∈ vGW := vgw 713 (by decide +kernel) (by decide +kernel)
theorem q_714 : (Cond.superclass "java/lang/ArithmeticException" "java/lang/RuntimeException") ∈ vGW := vgw 714 (by decide +kernel) (by decide +kernel)
theorem t_715 : (Cond.castable "java/lang/ArithmeticException" "java/lang/ArithmeticException") ∈ lw_tbl := List.mem_of_getElem? (i := 715) (by decide +kernel)
theorem q_716 : (Cond.selects "java/lang/ArithmeticException" ⟨"java/lang/Throwable", "fillInStackTrace", "(I)Ljava/lang/Throwable;"⟩ ⟨"java/lang/Throwable", "fillInStackTrace", "(I)Ljava/lang/Throwable;"⟩) ∈ vGW := vgw 716 (by decide +kernel) (by decide +kernel)
theorem q_717 : (Cond.methodLink "BytewellLaw" 117 yX3_leftShare) ∈ vGW := vgw 717 (by decide +kernel) (by decide +kernel)
theorem q_718 : (Cond.instanceMethod yX3_leftShare) ∈ vGW := vgw 718 (by decide +kernel) (by decide +kernel)
theorem q_719 : (Cond.selects "Bytewell" yX3_leftShare yX3_leftShare) ∈ vGW := vgw 719 (by decide +kernel) (by decide +kernel)
theorem q_720 : (Cond.code yX3_leftShare cX3_leftShare 4 (some .float)) ∈ vGW := vgw 720 (by decide +kernel) (by decide +kernel)
theorem q_721 : (Cond.methodLink "Bytewell" 172 yX1_whole) ∈ vGW := vgw 721 (by decide +kernel) (by decide +kernel)
theorem q_722 : (Cond.instanceMethod yX1_whole) ∈ vGW := vgw 722 (by decide +kernel) (by decide +kernel)
theorem q_723 : (Cond.selects "Bytewell$Reader" yX1_whole yX1_whole) ∈ vGW := vgw 723 (by decide +kernel) (by decide +kernel)
theorem q_724 : (Cond.code yX1_whole cX1_whole 1 (some .int)) ∈ vGW := vgw 724 (by decide +kernel) (by decide +kernel)
theorem q_725 : (Cond.classLink "Bytewell" 175 "java/lang/ArithmeticException") ∈ vGW := vgw 725 (by decide +kernel) (by decide +kernel)
theorem t_726 : (Cond.stringRef "Bytewell" 177 "an empty array has no share") ∈ lw_tbl := List.mem_of_getElem? (i := 726) (by decide +kernel)
theorem q_727 : (Cond.methodLink "Bytewell" 179 ⟨"java/lang/ArithmeticException", "<init>", "(Ljava/lang/String;)V"⟩) ∈ vGW := vgw 727 (by decide +kernel) (by decide +kernel)
theorem q_728 : (Cond.methodLink "BytewellLaw" 239 yL_meanSize) ∈ vGW := vgw 728 (by decide +kernel) (by decide +kernel)
theorem q_729 : (Cond.static yL_meanSize) ∈ vGW := vgw 729 (by decide +kernel) (by decide +kernel)
theorem q_730 : (Cond.codeWith yL_meanSize cL_meanSize 3 (some .int) [(0, 7, 10, 121)]) ∈ vGW := vgw 730 (by decide +kernel) (by decide +kernel)
theorem q_731 : (Cond.methodLink "BytewellLaw" 123 yX3_meanSize) ∈ vGW := vgw 731 (by decide +kernel) (by decide +kernel)
theorem q_732 : (Cond.instanceMethod yX3_meanSize) ∈ vGW := vgw 732 (by decide +kernel) (by decide +kernel)
theorem q_733 : (Cond.selects "Bytewell" yX3_meanSize yX3_meanSize) ∈ vGW := vgw 733 (by decide +kernel) (by decide +kernel)
theorem q_734 : (Cond.code yX3_meanSize cX3_meanSize 4 (some .double)) ∈ vGW := vgw 734 (by decide +kernel) (by decide +kernel)
theorem t_735 : (Cond.stringRef "Bytewell" 180 "no gatherer has bytes") ∈ lw_tbl := List.mem_of_getElem? (i := 735) (by decide +kernel)
theorem q_736 : (Cond.classLink "BytewellLaw" 128 "BytewellModel") ∈ vGW := vgw 736 (by decide +kernel) (by decide +kernel)
theorem q_737 : (Cond.instantiable "BytewellModel" 10) ∈ vGW := vgw 737 (by decide +kernel) (by decide +kernel)
theorem q_738 : (Cond.methodLink "BytewellLaw" 130 yX4_init) ∈ vGW := vgw 738 (by decide +kernel) (by decide +kernel)
theorem q_739 : (Cond.instanceMethod yX4_init) ∈ vGW := vgw 739 (by decide +kernel) (by decide +kernel)
theorem q_740 : (Cond.code yX4_init cX4_init 2 none) ∈ vGW := vgw 740 (by decide +kernel) (by decide +kernel)
theorem q_741 : (Cond.methodLink "BytewellModel" 1 ⟨"java/lang/Object", "<init>", "()V"⟩) ∈ vGW := vgw 741 (by decide +kernel) (by decide +kernel)
theorem q_742 : (Cond.fieldLink "BytewellModel" 7 "BytewellModel" "bytes" "[I") ∈ vGW := vgw 742 (by decide +kernel) (by decide +kernel)
theorem q_743 : (Cond.fieldLink "BytewellModel" 13 "BytewellModel" "lengths" "[I") ∈ vGW := vgw 743 (by decide +kernel) (by decide +kernel)
theorem q_744 : (Cond.fieldLink "BytewellModel" 16 "BytewellModel" "rooms" "[I") ∈ vGW := vgw 744 (by decide +kernel) (by decide +kernel)
theorem q_745 : (Cond.fieldLink "BytewellModel" 19 "BytewellModel" "reads" "[I") ∈ vGW := vgw 745 (by decide +kernel) (by decide +kernel)
theorem q_746 : (Cond.fieldLink "BytewellModel" 22 "BytewellModel" "places" "[I") ∈ vGW := vgw 746 (by decide +kernel) (by decide +kernel)
theorem q_747 : (Cond.fieldLink "BytewellModel" 25 "BytewellModel" "marks" "[I") ∈ vGW := vgw 747 (by decide +kernel) (by decide +kernel)
theorem q_748 : (Cond.fieldLink "BytewellModel" 28 "BytewellModel" "gathered" "[I") ∈ vGW := vgw 748 (by decide +kernel) (by decide +kernel)
theorem q_749 : (Cond.fieldLink "BytewellModel" 31 "BytewellModel" "sizes" "[I") ∈ vGW := vgw 749 (by decide +kernel) (by decide +kernel)
theorem q_750 : (Cond.fieldLink "BytewellModel" 34 "BytewellModel" "kept" "[I") ∈ vGW := vgw 750 (by decide +kernel) (by decide +kernel)
theorem q_751 : (Cond.fieldLink "BytewellModel" 37 "BytewellModel" "thrown" "I") ∈ vGW := vgw 751 (by decide +kernel) (by decide +kernel)
theorem q_752 : (Cond.lays "BytewellModel" "BytewellModel" "bytes" "[I") ∈ vGW := vgw 752 (by decide +kernel) (by decide +kernel)
theorem q_753 : (Cond.soleField "BytewellModel" "bytes") ∈ vGW := vgw 753 (by decide +kernel) (by decide +kernel)
theorem q_754 : (Cond.lays "BytewellModel" "BytewellModel" "lengths" "[I") ∈ vGW := vgw 754 (by decide +kernel) (by decide +kernel)
theorem q_755 : (Cond.soleField "BytewellModel" "lengths") ∈ vGW := vgw 755 (by decide +kernel) (by decide +kernel)
theorem q_756 : (Cond.lays "BytewellModel" "BytewellModel" "rooms" "[I") ∈ vGW := vgw 756 (by decide +kernel) (by decide +kernel)
theorem q_757 : (Cond.soleField "BytewellModel" "rooms") ∈ vGW := vgw 757 (by decide +kernel) (by decide +kernel)
theorem q_758 : (Cond.lays "BytewellModel" "BytewellModel" "reads" "[I") ∈ vGW := vgw 758 (by decide +kernel) (by decide +kernel)
theorem q_759 : (Cond.soleField "BytewellModel" "reads") ∈ vGW := vgw 759 (by decide +kernel) (by decide +kernel)
theorem q_760 : (Cond.lays "BytewellModel" "BytewellModel" "places" "[I") ∈ vGW := vgw 760 (by decide +kernel) (by decide +kernel)
theorem q_761 : (Cond.soleField "BytewellModel" "places") ∈ vGW := vgw 761 (by decide +kernel) (by decide +kernel)
theorem q_762 : (Cond.lays "BytewellModel" "BytewellModel" "marks" "[I") ∈ vGW := vgw 762 (by decide +kernel) (by decide +kernel)
theorem q_763 : (Cond.soleField "BytewellModel" "marks") ∈ vGW := vgw 763 (by decide +kernel) (by decide +kernel)
theorem q_764 : (Cond.lays "BytewellModel" "BytewellModel" "gathered" "[I") ∈ vGW := vgw 764 (by decide +kernel) (by decide +kernel)
theorem q_765 : (Cond.soleField "BytewellModel" "gathered") ∈ vGW := vgw 765 (by decide +kernel) (by decide +kernel)
theorem q_766 : (Cond.lays "BytewellModel" "BytewellModel" "sizes" "[I") ∈ vGW := vgw 766 (by decide +kernel) (by decide +kernel)
theorem q_767 : (Cond.soleField "BytewellModel" "sizes") ∈ vGW := vgw 767 (by decide +kernel) (by decide +kernel)
theorem q_768 : (Cond.lays "BytewellModel" "BytewellModel" "kept" "[I") ∈ vGW := vgw 768 (by decide +kernel) (by decide +kernel)
theorem q_769 : (Cond.soleField "BytewellModel" "kept") ∈ vGW := vgw 769 (by decide +kernel) (by decide +kernel)
theorem q_770 : (Cond.lays "BytewellModel" "BytewellModel" "thrown" "I") ∈ vGW := vgw 770 (by decide +kernel) (by decide +kernel)
theorem q_771 : (Cond.soleField "BytewellModel" "thrown") ∈ vGW := vgw 771 (by decide +kernel) (by decide +kernel)
theorem q_772 : (Cond.superclass "BytewellModel" "java/lang/Object") ∈ vGW := vgw 772 (by decide +kernel) (by decide +kernel)
theorem q_773 : (Cond.arrayClass .int) ∈ vGW := vgw 773 (by decide +kernel) (by decide +kernel)
theorem q_774 : (Cond.methodLink "BytewellLaw" 137 yX4_thrown) ∈ vGW := vgw 774 (by decide +kernel) (by decide +kernel)
theorem q_775 : (Cond.instanceMethod yX4_thrown) ∈ vGW := vgw 775 (by decide +kernel) (by decide +kernel)
theorem q_776 : (Cond.selects "BytewellModel" yX4_thrown yX4_thrown) ∈ vGW := vgw 776 (by decide +kernel) (by decide +kernel)
theorem q_777 : (Cond.code yX4_thrown cX4_thrown 1 (some .int)) ∈ vGW := vgw 777 (by decide +kernel) (by decide +kernel)
theorem q_778 : (Cond.methodLink "BytewellLaw" 136 yX4_make) ∈ vGW := vgw 778 (by decide +kernel) (by decide +kernel)
theorem q_779 : (Cond.instanceMethod yX4_make) ∈ vGW := vgw 779 (by decide +kernel) (by decide +kernel)
theorem q_780 : (Cond.selects "BytewellModel" yX4_make yX4_make) ∈ vGW := vgw 780 (by decide +kernel) (by decide +kernel)
theorem q_781 : (Cond.code yX4_make cX4_make 5 (some .int)) ∈ vGW := vgw 781 (by decide +kernel) (by decide +kernel)
theorem q_782 : (Cond.methodLink "BytewellModel" 41 yX4_isRow) ∈ vGW := vgw 782 (by decide +kernel) (by decide +kernel)
theorem t_783 : (Cond.privateMethod yX4_isRow) ∈ lw_tbl := List.mem_of_getElem? (i := 783) (by decide +kernel)
theorem q_784 : (Cond.instanceMethod yX4_isRow) ∈ vGW := vgw 784 (by decide +kernel) (by decide +kernel)
theorem q_785 : (Cond.code yX4_isRow cX4_isRow 2 (some .boolean)) ∈ vGW := vgw 785 (by decide +kernel) (by decide +kernel)
theorem q_786 : (Cond.methodLink "BytewellModel" 53 yX4_isWrong) ∈ vGW := vgw 786 (by decide +kernel) (by decide +kernel)
theorem t_787 : (Cond.privateMethod yX4_isWrong) ∈ lw_tbl := List.mem_of_getElem? (i := 787) (by decide +kernel)
theorem q_788 : (Cond.instanceMethod yX4_isWrong) ∈ vGW := vgw 788 (by decide +kernel) (by decide +kernel)
theorem q_789 : (Cond.code yX4_isWrong cX4_isWrong 2 (some .boolean)) ∈ vGW := vgw 789 (by decide +kernel) (by decide +kernel)
theorem q_790 : (Cond.methodLink "BytewellModel" 45 yX4_long0) ∈ vGW := vgw 790 (by decide +kernel) (by decide +kernel)
theorem t_791 : (Cond.privateMethod yX4_long0) ∈ lw_tbl := List.mem_of_getElem? (i := 791) (by decide +kernel)
theorem q_792 : (Cond.instanceMethod yX4_long0) ∈ vGW := vgw 792 (by decide +kernel) (by decide +kernel)
theorem q_793 : (Cond.code yX4_long0 cX4_long0 2 (some .int)) ∈ vGW := vgw 793 (by decide +kernel) (by decide +kernel)
theorem q_794 : (Cond.methodLink "BytewellModel" 56 yX4_becomes) ∈ vGW := vgw 794 (by decide +kernel) (by decide +kernel)
theorem t_795 : (Cond.privateMethod yX4_becomes) ∈ lw_tbl := List.mem_of_getElem? (i := 795) (by decide +kernel)
theorem q_796 : (Cond.instanceMethod yX4_becomes) ∈ vGW := vgw 796 (by decide +kernel) (by decide +kernel)
theorem q_797 : (Cond.code yX4_becomes cX4_becomes 5 none) ∈ vGW := vgw 797 (by decide +kernel) (by decide +kernel)
theorem q_798 : (Cond.methodLink "BytewellModel" 49 yX4_free) ∈ vGW := vgw 798 (by decide +kernel) (by decide +kernel)
theorem t_799 : (Cond.privateMethod yX4_free) ∈ lw_tbl := List.mem_of_getElem? (i := 799) (by decide +kernel)
theorem q_800 : (Cond.instanceMethod yX4_free) ∈ vGW := vgw 800 (by decide +kernel) (by decide +kernel)
theorem q_801 : (Cond.code yX4_free cX4_free 4 (some .int)) ∈ vGW := vgw 801 (by decide +kernel) (by decide +kernel)
theorem q_802 : (Cond.methodLink "BytewellLaw" 143 yX4_lend) ∈ vGW := vgw 802 (by decide +kernel) (by decide +kernel)
theorem q_803 : (Cond.instanceMethod yX4_lend) ∈ vGW := vgw 803 (by decide +kernel) (by decide +kernel)
theorem q_804 : (Cond.selects "BytewellModel" yX4_lend yX4_lend) ∈ vGW := vgw 804 (by decide +kernel) (by decide +kernel)
theorem q_805 : (Cond.code yX4_lend cX4_lend 4 (some .int)) ∈ vGW := vgw 805 (by decide +kernel) (by decide +kernel)
theorem q_806 : (Cond.methodLink "BytewellLaw" 147 yX4_length) ∈ vGW := vgw 806 (by decide +kernel) (by decide +kernel)
theorem q_807 : (Cond.instanceMethod yX4_length) ∈ vGW := vgw 807 (by decide +kernel) (by decide +kernel)
theorem q_808 : (Cond.selects "BytewellModel" yX4_length yX4_length) ∈ vGW := vgw 808 (by decide +kernel) (by decide +kernel)
theorem q_809 : (Cond.code yX4_length cX4_length 2 (some .int)) ∈ vGW := vgw 809 (by decide +kernel) (by decide +kernel)
theorem q_810 : (Cond.methodLink "BytewellLaw" 150 yX4_get) ∈ vGW := vgw 810 (by decide +kernel) (by decide +kernel)
theorem q_811 : (Cond.instanceMethod yX4_get) ∈ vGW := vgw 811 (by decide +kernel) (by decide +kernel)
theorem q_812 : (Cond.selects "BytewellModel" yX4_get yX4_get) ∈ vGW := vgw 812 (by decide +kernel) (by decide +kernel)
theorem q_813 : (Cond.code yX4_get cX4_get 3 (some .int)) ∈ vGW := vgw 813 (by decide +kernel) (by decide +kernel)
theorem q_814 : (Cond.methodLink "BytewellModel" 60 yX4_isPart) ∈ vGW := vgw 814 (by decide +kernel) (by decide +kernel)
theorem t_815 : (Cond.privateMethod yX4_isPart) ∈ lw_tbl := List.mem_of_getElem? (i := 815) (by decide +kernel)
theorem q_816 : (Cond.instanceMethod yX4_isPart) ∈ vGW := vgw 816 (by decide +kernel) (by decide +kernel)
theorem q_817 : (Cond.code yX4_isPart cX4_isPart 4 (some .boolean)) ∈ vGW := vgw 817 (by decide +kernel) (by decide +kernel)
theorem q_818 : (Cond.methodLink "BytewellLaw" 154 yX4_put) ∈ vGW := vgw 818 (by decide +kernel) (by decide +kernel)
theorem q_819 : (Cond.instanceMethod yX4_put) ∈ vGW := vgw 819 (by decide +kernel) (by decide +kernel)
theorem q_820 : (Cond.selects "BytewellModel" yX4_put yX4_put) ∈ vGW := vgw 820 (by decide +kernel) (by decide +kernel)
theorem q_821 : (Cond.code yX4_put cX4_put 6 (some .int)) ∈ vGW := vgw 821 (by decide +kernel) (by decide +kernel)
theorem q_822 : (Cond.methodLink "BytewellModel" 64 yX4_low) ∈ vGW := vgw 822 (by decide +kernel) (by decide +kernel)
theorem t_823 : (Cond.privateMethod yX4_low) ∈ lw_tbl := List.mem_of_getElem? (i := 823) (by decide +kernel)
theorem q_824 : (Cond.instanceMethod yX4_low) ∈ vGW := vgw 824 (by decide +kernel) (by decide +kernel)
theorem q_825 : (Cond.code yX4_low cX4_low 3 (some .int)) ∈ vGW := vgw 825 (by decide +kernel) (by decide +kernel)
theorem q_826 : (Cond.methodLink "BytewellLaw" 158 yX4_fill) ∈ vGW := vgw 826 (by decide +kernel) (by decide +kernel)
theorem q_827 : (Cond.instanceMethod yX4_fill) ∈ vGW := vgw 827 (by decide +kernel) (by decide +kernel)
theorem q_828 : (Cond.selects "BytewellModel" yX4_fill yX4_fill) ∈ vGW := vgw 828 (by decide +kernel) (by decide +kernel)
theorem q_829 : (Cond.code yX4_fill cX4_fill 9 (some .int)) ∈ vGW := vgw 829 (by decide +kernel) (by decide +kernel)
theorem q_830 : (Cond.methodLink "BytewellLaw" 161 yX4_isLike) ∈ vGW := vgw 830 (by decide +kernel) (by decide +kernel)
theorem q_831 : (Cond.instanceMethod yX4_isLike) ∈ vGW := vgw 831 (by decide +kernel) (by decide +kernel)
theorem q_832 : (Cond.selects "BytewellModel" yX4_isLike yX4_isLike) ∈ vGW := vgw 832 (by decide +kernel) (by decide +kernel)
theorem q_833 : (Cond.code yX4_isLike cX4_isLike 5 (some .boolean)) ∈ vGW := vgw 833 (by decide +kernel) (by decide +kernel)
theorem q_834 : (Cond.methodLink "BytewellLaw" 164 yX4_write) ∈ vGW := vgw 834 (by decide +kernel) (by decide +kernel)
theorem q_835 : (Cond.instanceMethod yX4_write) ∈ vGW := vgw 835 (by decide +kernel) (by decide +kernel)
theorem q_836 : (Cond.selects "BytewellModel" yX4_write yX4_write) ∈ vGW := vgw 836 (by decide +kernel) (by decide +kernel)
theorem q_837 : (Cond.code yX4_write cX4_write 3 (some .int)) ∈ vGW := vgw 837 (by decide +kernel) (by decide +kernel)
theorem q_838 : (Cond.methodLink "BytewellModel" 67 yX4_isOther) ∈ vGW := vgw 838 (by decide +kernel) (by decide +kernel)
theorem t_839 : (Cond.privateMethod yX4_isOther) ∈ lw_tbl := List.mem_of_getElem? (i := 839) (by decide +kernel)
theorem q_840 : (Cond.instanceMethod yX4_isOther) ∈ vGW := vgw 840 (by decide +kernel) (by decide +kernel)
theorem q_841 : (Cond.code yX4_isOther cX4_isOther 2 (some .boolean)) ∈ vGW := vgw 841 (by decide +kernel) (by decide +kernel)
theorem q_842 : (Cond.methodLink "BytewellModel" 70 yX4_isFull) ∈ vGW := vgw 842 (by decide +kernel) (by decide +kernel)
theorem t_843 : (Cond.privateMethod yX4_isFull) ∈ lw_tbl := List.mem_of_getElem? (i := 843) (by decide +kernel)
theorem q_844 : (Cond.instanceMethod yX4_isFull) ∈ vGW := vgw 844 (by decide +kernel) (by decide +kernel)
theorem q_845 : (Cond.code yX4_isFull cX4_isFull 3 (some .boolean)) ∈ vGW := vgw 845 (by decide +kernel) (by decide +kernel)
theorem q_846 : (Cond.methodLink "BytewellModel" 74 yX4_adds) ∈ vGW := vgw 846 (by decide +kernel) (by decide +kernel)
theorem t_847 : (Cond.privateMethod yX4_adds) ∈ lw_tbl := List.mem_of_getElem? (i := 847) (by decide +kernel)
theorem q_848 : (Cond.instanceMethod yX4_adds) ∈ vGW := vgw 848 (by decide +kernel) (by decide +kernel)
theorem q_849 : (Cond.code yX4_adds cX4_adds 3 none) ∈ vGW := vgw 849 (by decide +kernel) (by decide +kernel)
theorem q_850 : (Cond.methodLink "BytewellLaw" 168 yX4_writePart) ∈ vGW := vgw 850 (by decide +kernel) (by decide +kernel)
theorem q_851 : (Cond.instanceMethod yX4_writePart) ∈ vGW := vgw 851 (by decide +kernel) (by decide +kernel)
theorem q_852 : (Cond.selects "BytewellModel" yX4_writePart yX4_writePart) ∈ vGW := vgw 852 (by decide +kernel) (by decide +kernel)
theorem q_853 : (Cond.code yX4_writePart cX4_writePart 6 (some .int)) ∈ vGW := vgw 853 (by decide +kernel) (by decide +kernel)
theorem q_854 : (Cond.methodLink "BytewellLaw" 171 yX4_writeRow) ∈ vGW := vgw 854 (by decide +kernel) (by decide +kernel)
theorem q_855 : (Cond.instanceMethod yX4_writeRow) ∈ vGW := vgw 855 (by decide +kernel) (by decide +kernel)
theorem q_856 : (Cond.selects "BytewellModel" yX4_writeRow yX4_writeRow) ∈ vGW := vgw 856 (by decide +kernel) (by decide +kernel)
theorem q_857 : (Cond.code yX4_writeRow cX4_writeRow 3 (some .int)) ∈ vGW := vgw 857 (by decide +kernel) (by decide +kernel)
theorem q_858 : (Cond.methodLink "BytewellModel" 77 yX4_writePart) ∈ vGW := vgw 858 (by decide +kernel) (by decide +kernel)
theorem q_859 : (Cond.methodLink "BytewellLaw" 174 yX4_writeNumber) ∈ vGW := vgw 859 (by decide +kernel) (by decide +kernel)
theorem q_860 : (Cond.instanceMethod yX4_writeNumber) ∈ vGW := vgw 860 (by decide +kernel) (by decide +kernel)
theorem q_861 : (Cond.selects "BytewellModel" yX4_writeNumber yX4_writeNumber) ∈ vGW := vgw 861 (by decide +kernel) (by decide +kernel)
theorem q_862 : (Cond.code yX4_writeNumber cX4_writeNumber 4 (some .int)) ∈ vGW := vgw 862 (by decide +kernel) (by decide +kernel)
theorem q_863 : (Cond.methodLink "BytewellLaw" 177 yX4_size) ∈ vGW := vgw 863 (by decide +kernel) (by decide +kernel)
theorem q_864 : (Cond.instanceMethod yX4_size) ∈ vGW := vgw 864 (by decide +kernel) (by decide +kernel)
theorem q_865 : (Cond.selects "BytewellModel" yX4_size yX4_size) ∈ vGW := vgw 865 (by decide +kernel) (by decide +kernel)
theorem q_866 : (Cond.code yX4_size cX4_size 2 (some .int)) ∈ vGW := vgw 866 (by decide +kernel) (by decide +kernel)
theorem q_867 : (Cond.methodLink "BytewellLaw" 180 yX4_empty) ∈ vGW := vgw 867 (by decide +kernel) (by decide +kernel)
theorem q_868 : (Cond.instanceMethod yX4_empty) ∈ vGW := vgw 868 (by decide +kernel) (by decide +kernel)
theorem q_869 : (Cond.selects "BytewellModel" yX4_empty yX4_empty) ∈ vGW := vgw 869 (by decide +kernel) (by decide +kernel)
theorem q_870 : (Cond.code yX4_empty cX4_empty 3 (some .int)) ∈ vGW := vgw 870 (by decide +kernel) (by decide +kernel)
theorem q_871 : (Cond.methodLink "BytewellLaw" 183 yX4_take) ∈ vGW := vgw 871 (by decide +kernel) (by decide +kernel)
theorem q_872 : (Cond.instanceMethod yX4_take) ∈ vGW := vgw 872 (by decide +kernel) (by decide +kernel)
theorem q_873 : (Cond.selects "BytewellModel" yX4_take yX4_take) ∈ vGW := vgw 873 (by decide +kernel) (by decide +kernel)
theorem q_874 : (Cond.code yX4_take cX4_take 4 (some .int)) ∈ vGW := vgw 874 (by decide +kernel) (by decide +kernel)
theorem q_875 : (Cond.methodLink "BytewellLaw" 186 yX4_open) ∈ vGW := vgw 875 (by decide +kernel) (by decide +kernel)
theorem q_876 : (Cond.instanceMethod yX4_open) ∈ vGW := vgw 876 (by decide +kernel) (by decide +kernel)
theorem q_877 : (Cond.selects "BytewellModel" yX4_open yX4_open) ∈ vGW := vgw 877 (by decide +kernel) (by decide +kernel)
theorem q_878 : (Cond.code yX4_open cX4_open 3 (some .int)) ∈ vGW := vgw 878 (by decide +kernel) (by decide +kernel)
theorem q_879 : (Cond.methodLink "BytewellModel" 81 yX4_leftOf) ∈ vGW := vgw 879 (by decide +kernel) (by decide +kernel)
theorem t_880 : (Cond.privateMethod yX4_leftOf) ∈ lw_tbl := List.mem_of_getElem? (i := 880) (by decide +kernel)
theorem q_881 : (Cond.instanceMethod yX4_leftOf) ∈ vGW := vgw 881 (by decide +kernel) (by decide +kernel)
theorem q_882 : (Cond.code yX4_leftOf cX4_leftOf 2 (some .int)) ∈ vGW := vgw 882 (by decide +kernel) (by decide +kernel)
theorem q_883 : (Cond.methodLink "BytewellLaw" 189 yX4_isOpen) ∈ vGW := vgw 883 (by decide +kernel) (by decide +kernel)
theorem q_884 : (Cond.instanceMethod yX4_isOpen) ∈ vGW := vgw 884 (by decide +kernel) (by decide +kernel)
theorem q_885 : (Cond.selects "BytewellModel" yX4_isOpen yX4_isOpen) ∈ vGW := vgw 885 (by decide +kernel) (by decide +kernel)
theorem q_886 : (Cond.code yX4_isOpen cX4_isOpen 2 (some .boolean)) ∈ vGW := vgw 886 (by decide +kernel) (by decide +kernel)
theorem q_887 : (Cond.methodLink "BytewellLaw" 192 yX4_read) ∈ vGW := vgw 887 (by decide +kernel) (by decide +kernel)
theorem q_888 : (Cond.instanceMethod yX4_read) ∈ vGW := vgw 888 (by decide +kernel) (by decide +kernel)
theorem q_889 : (Cond.selects "BytewellModel" yX4_read yX4_read) ∈ vGW := vgw 889 (by decide +kernel) (by decide +kernel)
theorem q_890 : (Cond.code yX4_read cX4_read 2 (some .int)) ∈ vGW := vgw 890 (by decide +kernel) (by decide +kernel)
theorem q_891 : (Cond.methodLink "BytewellModel" 84 yX4_isShut) ∈ vGW := vgw 891 (by decide +kernel) (by decide +kernel)
theorem t_892 : (Cond.privateMethod yX4_isShut) ∈ lw_tbl := List.mem_of_getElem? (i := 892) (by decide +kernel)
theorem q_893 : (Cond.instanceMethod yX4_isShut) ∈ vGW := vgw 893 (by decide +kernel) (by decide +kernel)
theorem q_894 : (Cond.code yX4_isShut cX4_isShut 2 (some .boolean)) ∈ vGW := vgw 894 (by decide +kernel) (by decide +kernel)
theorem q_895 : (Cond.methodLink "BytewellLaw" 195 yX4_readPart) ∈ vGW := vgw 895 (by decide +kernel) (by decide +kernel)
theorem q_896 : (Cond.instanceMethod yX4_readPart) ∈ vGW := vgw 896 (by decide +kernel) (by decide +kernel)
theorem q_897 : (Cond.selects "BytewellModel" yX4_readPart yX4_readPart) ∈ vGW := vgw 897 (by decide +kernel) (by decide +kernel)
theorem q_898 : (Cond.code yX4_readPart cX4_readPart 5 (some .int)) ∈ vGW := vgw 898 (by decide +kernel) (by decide +kernel)
theorem q_899 : (Cond.methodLink "BytewellModel" 97 yX4_lays) ∈ vGW := vgw 899 (by decide +kernel) (by decide +kernel)
theorem t_900 : (Cond.privateMethod yX4_lays) ∈ lw_tbl := List.mem_of_getElem? (i := 900) (by decide +kernel)
theorem q_901 : (Cond.instanceMethod yX4_lays) ∈ vGW := vgw 901 (by decide +kernel) (by decide +kernel)
theorem q_902 : (Cond.code yX4_lays cX4_lays 7 (some .int)) ∈ vGW := vgw 902 (by decide +kernel) (by decide +kernel)
theorem q_903 : (Cond.methodLink "BytewellModel" 94 yX4_keeps) ∈ vGW := vgw 903 (by decide +kernel) (by decide +kernel)
theorem t_904 : (Cond.privateMethod yX4_keeps) ∈ lw_tbl := List.mem_of_getElem? (i := 904) (by decide +kernel)
theorem q_905 : (Cond.instanceMethod yX4_keeps) ∈ vGW := vgw 905 (by decide +kernel) (by decide +kernel)
theorem q_906 : (Cond.code yX4_keeps cX4_keeps 5 (some .int)) ∈ vGW := vgw 906 (by decide +kernel) (by decide +kernel)
theorem q_907 : (Cond.methodLink "BytewellModel" 87 yX4_lesser) ∈ vGW := vgw 907 (by decide +kernel) (by decide +kernel)
theorem t_908 : (Cond.privateMethod yX4_lesser) ∈ lw_tbl := List.mem_of_getElem? (i := 908) (by decide +kernel)
theorem q_909 : (Cond.instanceMethod yX4_lesser) ∈ vGW := vgw 909 (by decide +kernel) (by decide +kernel)
theorem q_910 : (Cond.code yX4_lesser cX4_lesser 3 (some .int)) ∈ vGW := vgw 910 (by decide +kernel) (by decide +kernel)
theorem q_911 : (Cond.methodLink "BytewellModel" 91 yX4_next) ∈ vGW := vgw 911 (by decide +kernel) (by decide +kernel)
theorem t_912 : (Cond.privateMethod yX4_next) ∈ lw_tbl := List.mem_of_getElem? (i := 912) (by decide +kernel)
theorem q_913 : (Cond.instanceMethod yX4_next) ∈ vGW := vgw 913 (by decide +kernel) (by decide +kernel)
theorem q_914 : (Cond.code yX4_next cX4_next 2 (some .int)) ∈ vGW := vgw 914 (by decide +kernel) (by decide +kernel)
theorem q_915 : (Cond.methodLink "BytewellLaw" 198 yX4_readFull) ∈ vGW := vgw 915 (by decide +kernel) (by decide +kernel)
theorem q_916 : (Cond.instanceMethod yX4_readFull) ∈ vGW := vgw 916 (by decide +kernel) (by decide +kernel)
theorem q_917 : (Cond.selects "BytewellModel" yX4_readFull yX4_readFull) ∈ vGW := vgw 917 (by decide +kernel) (by decide +kernel)
theorem q_918 : (Cond.code yX4_readFull cX4_readFull 5 (some .int)) ∈ vGW := vgw 918 (by decide +kernel) (by decide +kernel)
theorem q_919 : (Cond.methodLink "BytewellLaw" 201 yX4_readSome) ∈ vGW := vgw 919 (by decide +kernel) (by decide +kernel)
theorem q_920 : (Cond.instanceMethod yX4_readSome) ∈ vGW := vgw 920 (by decide +kernel) (by decide +kernel)
theorem q_921 : (Cond.selects "BytewellModel" yX4_readSome yX4_readSome) ∈ vGW := vgw 921 (by decide +kernel) (by decide +kernel)
theorem q_922 : (Cond.code yX4_readSome cX4_readSome 5 (some .int)) ∈ vGW := vgw 922 (by decide +kernel) (by decide +kernel)
theorem q_923 : (Cond.methodLink "BytewellLaw" 204 yX4_readNumber) ∈ vGW := vgw 923 (by decide +kernel) (by decide +kernel)
theorem q_924 : (Cond.instanceMethod yX4_readNumber) ∈ vGW := vgw 924 (by decide +kernel) (by decide +kernel)
theorem q_925 : (Cond.selects "BytewellModel" yX4_readNumber yX4_readNumber) ∈ vGW := vgw 925 (by decide +kernel) (by decide +kernel)
theorem q_926 : (Cond.code yX4_readNumber cX4_readNumber 4 (some .int)) ∈ vGW := vgw 926 (by decide +kernel) (by decide +kernel)
theorem q_927 : (Cond.methodLink "BytewellLaw" 207 yX4_readLine) ∈ vGW := vgw 927 (by decide +kernel) (by decide +kernel)
theorem q_928 : (Cond.instanceMethod yX4_readLine) ∈ vGW := vgw 928 (by decide +kernel) (by decide +kernel)
theorem q_929 : (Cond.selects "BytewellModel" yX4_readLine yX4_readLine) ∈ vGW := vgw 929 (by decide +kernel) (by decide +kernel)
theorem q_930 : (Cond.code yX4_readLine cX4_readLine 4 (some .int)) ∈ vGW := vgw 930 (by decide +kernel) (by decide +kernel)
theorem q_931 : (Cond.methodLink "BytewellLaw" 210 yX4_find) ∈ vGW := vgw 931 (by decide +kernel) (by decide +kernel)
theorem q_932 : (Cond.instanceMethod yX4_find) ∈ vGW := vgw 932 (by decide +kernel) (by decide +kernel)
theorem q_933 : (Cond.selects "BytewellModel" yX4_find yX4_find) ∈ vGW := vgw 933 (by decide +kernel) (by decide +kernel)
theorem q_934 : (Cond.code yX4_find cX4_find 5 (some .int)) ∈ vGW := vgw 934 (by decide +kernel) (by decide +kernel)
theorem q_935 : (Cond.methodLink "BytewellLaw" 216 yX4_skip) ∈ vGW := vgw 935 (by decide +kernel) (by decide +kernel)
theorem q_936 : (Cond.instanceMethod yX4_skip) ∈ vGW := vgw 936 (by decide +kernel) (by decide +kernel)
theorem q_937 : (Cond.selects "BytewellModel" yX4_skip yX4_skip) ∈ vGW := vgw 937 (by decide +kernel) (by decide +kernel)
theorem q_938 : (Cond.code yX4_skip cX4_skip 5 (some .long)) ∈ vGW := vgw 938 (by decide +kernel) (by decide +kernel)
theorem q_939 : (Cond.methodLink "BytewellLaw" 219 yX4_left) ∈ vGW := vgw 939 (by decide +kernel) (by decide +kernel)
theorem q_940 : (Cond.instanceMethod yX4_left) ∈ vGW := vgw 940 (by decide +kernel) (by decide +kernel)
theorem q_941 : (Cond.selects "BytewellModel" yX4_left yX4_left) ∈ vGW := vgw 941 (by decide +kernel) (by decide +kernel)
theorem q_942 : (Cond.code yX4_left cX4_left 2 (some .int)) ∈ vGW := vgw 942 (by decide +kernel) (by decide +kernel)
theorem q_943 : (Cond.methodLink "BytewellLaw" 222 yX4_mark) ∈ vGW := vgw 943 (by decide +kernel) (by decide +kernel)
theorem q_944 : (Cond.instanceMethod yX4_mark) ∈ vGW := vgw 944 (by decide +kernel) (by decide +kernel)
theorem q_945 : (Cond.selects "BytewellModel" yX4_mark yX4_mark) ∈ vGW := vgw 945 (by decide +kernel) (by decide +kernel)
theorem q_946 : (Cond.code yX4_mark cX4_mark 3 (some .int)) ∈ vGW := vgw 946 (by decide +kernel) (by decide +kernel)
theorem q_947 : (Cond.methodLink "BytewellLaw" 225 yX4_back) ∈ vGW := vgw 947 (by decide +kernel) (by decide +kernel)
theorem q_948 : (Cond.instanceMethod yX4_back) ∈ vGW := vgw 948 (by decide +kernel) (by decide +kernel)
theorem q_949 : (Cond.selects "BytewellModel" yX4_back yX4_back) ∈ vGW := vgw 949 (by decide +kernel) (by decide +kernel)
theorem q_950 : (Cond.code yX4_back cX4_back 2 (some .int)) ∈ vGW := vgw 950 (by decide +kernel) (by decide +kernel)
theorem q_951 : (Cond.methodLink "BytewellLaw" 228 yX4_pour) ∈ vGW := vgw 951 (by decide +kernel) (by decide +kernel)
theorem q_952 : (Cond.instanceMethod yX4_pour) ∈ vGW := vgw 952 (by decide +kernel) (by decide +kernel)
theorem q_953 : (Cond.selects "BytewellModel" yX4_pour yX4_pour) ∈ vGW := vgw 953 (by decide +kernel) (by decide +kernel)
theorem q_954 : (Cond.code yX4_pour cX4_pour 5 (some .int)) ∈ vGW := vgw 954 (by decide +kernel) (by decide +kernel)
theorem q_955 : (Cond.methodLink "BytewellLaw" 231 yX4_pourParts) ∈ vGW := vgw 955 (by decide +kernel) (by decide +kernel)
theorem q_956 : (Cond.instanceMethod yX4_pourParts) ∈ vGW := vgw 956 (by decide +kernel) (by decide +kernel)
theorem q_957 : (Cond.selects "BytewellModel" yX4_pourParts yX4_pourParts) ∈ vGW := vgw 957 (by decide +kernel) (by decide +kernel)
theorem q_958 : (Cond.code yX4_pourParts cX4_pourParts 4 (some .int)) ∈ vGW := vgw 958 (by decide +kernel) (by decide +kernel)
theorem q_959 : (Cond.methodLink "BytewellModel" 100 yX4_pour) ∈ vGW := vgw 959 (by decide +kernel) (by decide +kernel)
theorem q_960 : (Cond.methodLink "BytewellLaw" 234 yX4_alike) ∈ vGW := vgw 960 (by decide +kernel) (by decide +kernel)
theorem q_961 : (Cond.instanceMethod yX4_alike) ∈ vGW := vgw 961 (by decide +kernel) (by decide +kernel)
theorem q_962 : (Cond.selects "BytewellModel" yX4_alike yX4_alike) ∈ vGW := vgw 962 (by decide +kernel) (by decide +kernel)
theorem q_963 : (Cond.code yX4_alike cX4_alike 4 (some .int)) ∈ vGW := vgw 963 (by decide +kernel) (by decide +kernel)
theorem q_964 : (Cond.methodLink "BytewellLaw" 238 yX4_leftShare) ∈ vGW := vgw 964 (by decide +kernel) (by decide +kernel)
theorem q_965 : (Cond.instanceMethod yX4_leftShare) ∈ vGW := vgw 965 (by decide +kernel) (by decide +kernel)
theorem q_966 : (Cond.selects "BytewellModel" yX4_leftShare yX4_leftShare) ∈ vGW := vgw 966 (by decide +kernel) (by decide +kernel)
theorem q_967 : (Cond.code yX4_leftShare cX4_leftShare 2 (some .float)) ∈ vGW := vgw 967 (by decide +kernel) (by decide +kernel)
theorem q_968 : (Cond.methodLink "BytewellLaw" 242 yX4_meanSize) ∈ vGW := vgw 968 (by decide +kernel) (by decide +kernel)
theorem q_969 : (Cond.instanceMethod yX4_meanSize) ∈ vGW := vgw 969 (by decide +kernel) (by decide +kernel)
theorem q_970 : (Cond.selects "BytewellModel" yX4_meanSize yX4_meanSize) ∈ vGW := vgw 970 (by decide +kernel) (by decide +kernel)
theorem q_971 : (Cond.code yX4_meanSize cX4_meanSize 4 (some .double)) ∈ vGW := vgw 971 (by decide +kernel) (by decide +kernel)
theorem q_972 : (Cond.methodLink "BytewellLaw" 247 yX4_checksum) ∈ vGW := vgw 972 (by decide +kernel) (by decide +kernel)
theorem q_973 : (Cond.instanceMethod yX4_checksum) ∈ vGW := vgw 973 (by decide +kernel) (by decide +kernel)
theorem q_974 : (Cond.selects "BytewellModel" yX4_checksum yX4_checksum) ∈ vGW := vgw 974 (by decide +kernel) (by decide +kernel)
theorem q_975 : (Cond.code yX4_checksum cX4_checksum 5 (some .long)) ∈ vGW := vgw 975 (by decide +kernel) (by decide +kernel)
theorem q_976 : (Cond.constantLong "BytewellModel" 103 (7 : Int64)) ∈ vGW := vgw 976 (by decide +kernel) (by decide +kernel)
theorem q_977 : (Cond.constantLong "BytewellModel" 105 (31 : Int64)) ∈ vGW := vgw 977 (by decide +kernel) (by decide +kernel)
theorem q_978 : (Cond.methodLink "BytewellLaw" 252 yX4_isTrue) ∈ vGW := vgw 978 (by decide +kernel) (by decide +kernel)
theorem q_979 : (Cond.instanceMethod yX4_isTrue) ∈ vGW := vgw 979 (by decide +kernel) (by decide +kernel)
theorem q_980 : (Cond.selects "BytewellModel" yX4_isTrue yX4_isTrue) ∈ vGW := vgw 980 (by decide +kernel) (by decide +kernel)
theorem q_981 : (Cond.code yX4_isTrue cX4_isTrue 3 (some .boolean)) ∈ vGW := vgw 981 (by decide +kernel) (by decide +kernel)
theorem q_982 : (Cond.constantLong "BytewellLaw" 211 (4294967295 : Int64)) ∈ vGW := vgw 982 (by decide +kernel) (by decide +kernel)
theorem q_983 : (Cond.arrayClass .long) ∈ vGW := vgw 983 (by decide +kernel) (by decide +kernel)
theorem q_984 : (Cond.arrayClass .double) ∈ vGW := vgw 984 (by decide +kernel) (by decide +kernel)
theorem q_985 : (Cond.sameMethod "java/lang/Throwable" "java/lang/Throwable" "fillInStackTrace" "(I)Ljava/lang/Throwable;") ∈ vGW := vgw 985 (by decide +kernel) (by decide +kernel)
theorem t_986 : (Cond.castable "java/lang/ArrayIndexOutOfBoundsException" "java/lang/IndexOutOfBoundsException") ∈ lw_tbl := List.mem_of_getElem? (i := 986) (by decide +kernel)
theorem t_987 : (Cond.castable "Bytewell" "java/lang/Object") ∈ lw_tbl := List.mem_of_getElem? (i := 987) (by decide +kernel)
theorem t_988 : (Cond.castable "Bytewell$Row" "java/lang/Object") ∈ lw_tbl := List.mem_of_getElem? (i := 988) (by decide +kernel)
theorem t_989 : (Cond.castable "Bytewell$Gatherer" "java/lang/Object") ∈ lw_tbl := List.mem_of_getElem? (i := 989) (by decide +kernel)
theorem t_990 : (Cond.castable "Bytewell$Reader" "java/lang/Object") ∈ lw_tbl := List.mem_of_getElem? (i := 990) (by decide +kernel)
theorem t_991 : (Cond.castable "BytewellModel" "java/lang/Object") ∈ lw_tbl := List.mem_of_getElem? (i := 991) (by decide +kernel)
theorem t_992 : (Cond.castable "java/lang/ArrayIndexOutOfBoundsException" "java/lang/Object") ∈ lw_tbl := List.mem_of_getElem? (i := 992) (by decide +kernel)
theorem t_993 : (Cond.castable "java/lang/IndexOutOfBoundsException" "java/lang/Object") ∈ lw_tbl := List.mem_of_getElem? (i := 993) (by decide +kernel)
theorem t_994 : (Cond.castable "java/lang/IllegalArgumentException" "java/lang/Object") ∈ lw_tbl := List.mem_of_getElem? (i := 994) (by decide +kernel)
theorem t_995 : (Cond.castable "java/lang/IllegalStateException" "java/lang/Object") ∈ lw_tbl := List.mem_of_getElem? (i := 995) (by decide +kernel)
theorem t_996 : (Cond.castable "java/lang/UnsupportedOperationException" "java/lang/Object") ∈ lw_tbl := List.mem_of_getElem? (i := 996) (by decide +kernel)
theorem t_997 : (Cond.castable "java/util/NoSuchElementException" "java/lang/Object") ∈ lw_tbl := List.mem_of_getElem? (i := 997) (by decide +kernel)
theorem t_998 : (Cond.castable "java/lang/ArithmeticException" "java/lang/Object") ∈ lw_tbl := List.mem_of_getElem? (i := 998) (by decide +kernel)
theorem t_999 : (Cond.castable "java/lang/Throwable" "java/lang/Object") ∈ lw_tbl := List.mem_of_getElem? (i := 999) (by decide +kernel)
theorem t_1000 : (Cond.castable "java/lang/String" "java/lang/Object") ∈ lw_tbl := List.mem_of_getElem? (i := 1000) (by decide +kernel)
end
section
/-! contracts over whole worlds: a method that is given the world ws comes back with a world and an answer that Post names -/
def vQc (D : va_G) (cl : List vw_C) (sb : Nat) (Post : Option Value → va_W → Prop) : Array Value → State → Outcome → State → Prop := fun _ st oc t => (∃ (v : Option Value) (ws' : va_W), oc = .returned v ∧ Post v ws' ∧ va_P D cl ws' t.heap ∧ va_D (vAb sb) ws') ∧ va_F (vAb sb) st t
def vPre (D : va_G) (cl : List vw_C) (tys : List (ClassId × FieldType)) (sb : Nat) (ws : va_W) : State → Prop := fun U => sb ≤ U.heap.size ∧ va_P D cl ws U.heap ∧ va_D (vAb sb) ws ∧ va_K D cl tys U
def vCt (l : Launch) (y : MethodName) (cc : ByteArray) (nL : Nat) (ret : Option FieldType) (fr lo mc ms : Nat) (D : va_G) (cl : List vw_C) (tys : List (ClassId × FieldType)) (sb : Nat) (av : List Value) (ws : va_W) (Post : Option Value → va_W → Prop) : Prop :=
  Met l y (Cond.code y cc nL ret :: vGW) ({ frames := fr, cells := mc, slots := ms, locals := lo }) (va_Pc av (vPre D cl tys sb ws)) (vQc D cl sb Post) mc ms (vAb sb)
theorem vBlind {D : va_G} {cl : List vw_C} {tys : List (ClassId × FieldType)} {sb : Nat} {ws : va_W} {av : List Value} : FrameBlind (va_Pc av (vPre D cl tys sb ws)) := fun a U g mk q => by
  obtain ⟨q0, q1, qP, qD, qK⟩ := q
  exact ⟨q0, q1, qP, qD, va_K.moved (u := U) (U := U.calling g mk a) (Vm.Alike.refl U.vm) qK⟩
theorem vGsub {c : Cond} {ws : List Cond} (h : ∀ w ∈ ws, w ∈ vGW) : GoodIn (c :: vGW) ws := fun w hw => ⟨List.mem_cons_of_mem _ (h w hw), good_of_word (vGW_good (h w hw)).2⟩
theorem vGV {c : Cond} {y : MethodName} {bytes : ByteArray} {maxL : Nat} {ret : Option FieldType} {own C : String} {idx : Nat} (h1 : Cond.methodLink own idx y ∈ vGW) (h2 : Cond.instanceMethod y ∈ vGW) (h3 : Cond.selects C y y ∈ vGW) (h4 : Cond.initialized C ∈ vGW) (h5 : Cond.code y bytes maxL ret ∈ vGW) : GoodIn (c :: vGW) (wsV own idx C y (Cond.code y bytes maxL ret :: vGW)) := vGsub fun w hw => by
  simp only [wsV, List.cons_append, List.nil_append, List.mem_cons] at hw
  rcases hw with rfl | rfl | rfl | rfl | rfl | hw <;> assumption
theorem vGS {c : Cond} {y : MethodName} {bytes : ByteArray} {maxL : Nat} {ret : Option FieldType} {own : String} {idx : Nat} (h1 : Cond.methodLink own idx y ∈ vGW) (h2 : Cond.static y ∈ vGW) (h4 : Cond.initialized own ∈ vGW) (h5 : Cond.code y bytes maxL ret ∈ vGW) : GoodIn (c :: vGW) (wsS own idx y (Cond.code y bytes maxL ret :: vGW)) := vGsub fun w hw => by
  simp only [wsS, List.cons_append, List.nil_append, List.mem_cons] at hw
  rcases hw with rfl | rfl | rfl | rfl | hw <;> assumption
theorem vGI {c : Cond} {y : MethodName} {bytes : ByteArray} {maxL : Nat} {ret : Option FieldType} (h5 : Cond.code y bytes maxL ret ∈ vGW) : GoodIn (c :: vGW) (Cond.code y bytes maxL ret :: vGW) := vGsub fun w hw => by
  rcases List.mem_cons.mp hw with rfl | hw <;> assumption
theorem vOf {l : Launch} {y : MethodName} {cc : ByteArray} {nL : Nat} {ret : Option FieldType} {fr lo mc ms : Nat} {D : va_G} {cl : List vw_C} {tys : List (ClassId × FieldType)} {sb : Nat} {av : List Value} {ws : va_W} {Post : Option Value → va_W → Prop} (hy : plainName y.cls = true) (hlen : (lg_sl av).length ≤ nL)
    (body : ∀ (p : Program) (e : Env) (s : State) (m : MethodId) (below : List Frame) (meth : Method) (c : Code), vCX p s m av.toArray meth c cc nL y.cls (Cond.code y cc nL ret :: vGW) D cl tys sb → meth.sig.returnType = ret → meth.name = y.name →
      vV p l e ({ frames := fr, cells := mc, slots := ms, locals := lo }) s m av.toArray below meth c nL D cl sb (MQ below (vQc D cl sb Post) av.toArray s mc ms (vAb sb)) ws 0 0 0 (lv_args 0 av) []) : vCt l y cc nL ret fr lo mc ms D cl tys sb av ws Post := by
  refine Met.ofW (cc := cc) (maxL := nL) (ret := ret) hy rfl ?_
  intro p e s m args below meth c s₁ B hml hv
  obtain ⟨rfl, hsz, hP, hD, hK⟩ := hv
  rw [lg_entry_eq]
  exact body p e s m below meth c ⟨B.exec, B.bytes, hml, findClass_of_methodNamed B.named, atoms_spec B.pre, hK, hsz, B.notSynchronized⟩ B.returns (name_of_methodNamed B.named B.method).1 s.heap [] _ hP hD va_S.rf (lv_entry av hlen)
section VCC
variable {p : Program} {l : Launch} {e : Env} {R : Room} {s : State} {m : MethodId} {args : Array Value} {below : List Frame} {meth : Method} {c : Code} {cc : ByteArray} {nL : Nat} {own : String} {Ts : List Cond} {D : va_G} {cl : List vw_C} {tys : List (ClassId × FieldType)} {sb : Nat} {Q : State → Prop} {ws : va_W} {cells slots : Nat} {pc : Nat} {lv : List (Nat × Value)} {rest st : List Value}
/-- from a run to the walk behind it -/
theorem vRunGo {mc ms : Nat} {Post : Option Value → va_W → Prop} {a : Array Value} {H : Heap} {locs : List Loc} {ls : Array Slot} (run : va_Run p l e R s m args below meth c H locs cells slots mc ms (F0 m pc ls st) rest (vQc D cl sb Post a) (vAb sb)) (hS : va_S (vAb sb) s.heap H locs) (hl : lv_has ls nL lv)
    (kk : ∀ (v : Option Value) (ws' : va_W), Post v ws' → vV p l e R s m args below meth c nL D cl sb Q ws' (cells + mc) (slots + ms) (pc + 3) lv (v.toList ++ rest)) : W p l e R s m args below meth c H locs cells slots Q (F0 m pc ls st) := by
  intro T hT Xs
  obtain ⟨v, st₀, t, T', L, h0, X', hL, e1, e2, ⟨⟨v', ws', hv, hp, hP1, hD1⟩, hF⟩, goes⟩ := run T hT Xs
  cases hv
  obtain ⟨k1, k2, k3⟩ := vx_keep (A0 := vAb sb) (A1 := vAb sb) (free := vAb sb) h0 e1 hS (fun _ _ h => h) (fun _ h => h) hL hF
  obtain ⟨t2, a1, b1⟩ := kk v ws' hp T'.heap (locs ++ L) ls (by rw [e1]; exact hP1) hD1 k3 hl T' rfl X'
  exact ⟨t2, goes t2 a1, b1⟩
theorem vCallV (X : vCX p s m args meth c cc nL own Ts D cl tys sb) {y : MethodName} {bytes : ByteArray} {maxL : Nat} {ret : Option FieldType} {fr lo mc ms b index : Nat} {As : List Value} {Post : Option Value → va_W → Prop} (rest : List Value) (hM : vCt l y bytes maxL ret fr lo mc ms D cl tys sb (.ref b :: As) ws Post)
    (hG : GoodIn Ts (wsV own index y.cls y (Cond.code y bytes maxL ret :: vGW))) (hy : y.cls ≠ "java/lang/invoke/MethodHandle" ∧ y.cls ≠ "java/lang/invoke/VarHandle" ∧ (parseMethodDescriptor y.desc).map (fun d => d.parameters.length) = some As.length) (hR : fr + 1 ≤ R.frames ∧ 8 + (maxL + 11) + lo ≤ R.locals)
    (q0 ci : Nat) {q : vw_C} {fs : List Value} (hc : cl[ci]? = some q) (hcq : q.1 = y.cls) (he : ws[q0]? = some (b, .inr (ci, fs))) (hst : st = As.reverse ++ .ref b :: rest) (hroom : (rest.map fun v => v.category).sum ≤ 8) (hd : decode cc pc = .ok (.invokevirtual index, 3)) (hf : cells + mc ≤ R.cells ∧ slots + ms ≤ R.slots)
    (kk : ∀ (v : Option Value) (ws' : va_W), Post v ws' → vV p l e R s m args below meth c nL D cl sb Q ws' (cells + mc) (slots + ms) (pc + 3) lv (v.toList ++ rest)) : vV p l e R s m args below meth c nL D cl sb Q ws cells slots pc lv st := by
  intro H locs ls hP hD hS hl
  obtain ⟨hx, hb, hml, hown, hts, hK, hsb, hlk⟩ := X
  refine vRunGo (lv := lv) (va_runV (g := F0 m pc ls st) (As := As) (rest := rest) (b := b) (C := y.cls) ⟨hx, hb, hml, hown, hts⟩ hM (cwV As.length hts hG rfl rfl rfl ⟨rfl, hy⟩ hR) ⟨vBlind, ?_, fun U hU hW => ⟨rfl, ?_, by rw [hU]; exact hP, hD, va_K.moved hW.alike hK⟩⟩ rfl rfl hl.1 hst (lv_room hroom) hd hf) hS hl kk
  · rw [← hcq]; exact va_recv hK hP hc he
  · rw [hU]; exact Nat.le_trans hsb hS.1
theorem vCallS (X : vCX p s m args meth c cc nL own Ts D cl tys sb) {y : MethodName} {bytes : ByteArray} {maxL : Nat} {ret : Option FieldType} {fr lo mc ms index : Nat} {As : List Value} {Post : Option Value → va_W → Prop} (rest : List Value) (hM : vCt l y bytes maxL ret fr lo mc ms D cl tys sb As ws Post)
    (hG : GoodIn Ts (wsS own index y (Cond.code y bytes maxL ret :: vGW))) (hyo : y.cls = own) (hy : y.cls ≠ "java/lang/invoke/MethodHandle" ∧ y.cls ≠ "java/lang/invoke/VarHandle" ∧ (parseMethodDescriptor y.desc).map (fun d => d.parameters.length) = some As.length) (hR : fr + 1 ≤ R.frames ∧ 8 + (maxL + 11) + lo ≤ R.locals)
    (hst : st = As.reverse ++ rest) (hroom : (rest.map fun v => v.category).sum ≤ 8) (hd : decode cc pc = .ok (.invokestatic index, 3)) (hf : cells + mc ≤ R.cells ∧ slots + ms ≤ R.slots)
    (kk : ∀ (v : Option Value) (ws' : va_W), Post v ws' → vV p l e R s m args below meth c nL D cl sb Q ws' (cells + mc) (slots + ms) (pc + 3) lv (v.toList ++ rest)) : vV p l e R s m args below meth c nL D cl sb Q ws cells slots pc lv st := by
  intro H locs ls hP hD hS hl
  obtain ⟨hx, hb, hml, hown, hts, hK, hsb, hlk⟩ := X
  refine vRunGo (lv := lv) (va_runS (g := F0 m pc ls st) (As := As) (rest := rest) ⟨hx, hb, hml, hown, hts⟩ hM (cwS As.length hts hG rfl rfl rfl ⟨hyo, hy⟩ hR) ⟨vBlind, fun U hU hW => ⟨rfl, ?_, by rw [hU]; exact hP, hD, va_K.moved hW.alike hK⟩⟩ rfl rfl hl.1 hst (lv_room hroom) hd hf) hS hl kk
  rw [hU]; exact Nat.le_trans hsb hS.1
theorem vCallI (X : vCX p s m args meth c cc nL own Ts D cl tys sb) {y : MethodName} {bytes : ByteArray} {maxL : Nat} {fr lo mc ms b index : Nat} {As : List Value} {Post : Option Value → va_W → Prop} (rest : List Value) (hM : vCt l y bytes maxL none fr lo mc ms D cl tys sb (.ref b :: As) ws Post)
    (hG : GoodIn Ts (Cond.code y bytes maxL none :: vGW)) (hn : y.name = "<init>") (h1 : Cond.initialized y.cls ∈ Ts) (h2 : Cond.methodLink own index y ∈ Ts) (h3 : Cond.instanceMethod y ∈ Ts) (hy : y.cls ≠ "java/lang/invoke/MethodHandle" ∧ y.cls ≠ "java/lang/invoke/VarHandle" ∧ (parseMethodDescriptor y.desc).map (fun d => d.parameters.length) = some As.length) (hR : fr + 1 ≤ R.frames ∧ 8 + (maxL + 11) + lo ≤ R.locals)
    (hst : st = As.reverse ++ .ref b :: rest) (hroom : (rest.map fun v => v.category).sum ≤ 8) (hd : decode cc pc = .ok (.invokespecial index, 3)) (hf : cells + mc ≤ R.cells ∧ slots + ms ≤ R.slots)
    (kk : ∀ (v : Option Value) (ws' : va_W), Post v ws' → vV p l e R s m args below meth c nL D cl sb Q ws' (cells + mc) (slots + ms) (pc + 3) lv (v.toList ++ rest)) : vV p l e R s m args below meth c nL D cl sb Q ws cells slots pc lv st := by
  intro H locs ls hP hD hS hl
  obtain ⟨hx, hb, hml, hown, hts, hK, hsb, hlk⟩ := X
  refine vRunGo (lv := lv) (va_runI (g := F0 m pc ls st) (As := As) (rest := rest) (b := b) ⟨hx, hb, hml, hown, hts⟩ hM (cwI As.length hts hG rfl rfl rfl (hts _ h1) (hts _ h2) (hts _ h3) hn hy hR) ⟨vBlind, fun U hU hW => ⟨rfl, ?_, by rw [hU]; exact hP, hD, va_K.moved hW.alike hK⟩⟩ rfl rfl hl.1 hst (lv_room hroom) hd hf) hS hl kk
  rw [hU]; exact Nat.le_trans hsb hS.1
variable {Post : Option Value → va_W → Prop}
theorem vRetI (X : vCX p s m args meth c cc nL own Ts D cl tys sb) (hr : meth.sig.returnType = some .int) {v : Int32} (hd : decode cc pc = .ok (.ireturn, 1)) (hq : Post (some (.int v)) ws) : vV p l e R s m args below meth c nL D cl sb (MQ below (vQc D cl sb Post) args s cells slots (vAb sb)) ws cells slots pc lv [.int v] :=
  fun H locs ls hP hD hS hl => W.iret X.1 X.2.1 hr (fun t ht hW => ⟨⟨_, ws, rfl, hq, by rw [ht]; exact hP, hD⟩, hS.F ht⟩) hS.2.2 hd X.2.2.2.2.2.2.2
theorem vRetZ (X : vCX p s m args meth c cc nL own Ts D cl tys sb) (hr : meth.sig.returnType = some .boolean) {v : Int32} (hn : narrow .boolean (.int v) = .int v) (hd : decode cc pc = .ok (.ireturn, 1)) (hq : Post (some (.int v)) ws) : vV p l e R s m args below meth c nL D cl sb (MQ below (vQc D cl sb Post) args s cells slots (vAb sb)) ws cells slots pc lv [.int v] :=
  fun H locs ls hP hD hS hl => W.zret X.1 X.2.1 hr hn (fun t ht hW => ⟨⟨_, ws, rfl, hq, by rw [ht]; exact hP, hD⟩, hS.F ht⟩) hS.2.2 hd X.2.2.2.2.2.2.2
theorem vRetL (X : vCX p s m args meth c cc nL own Ts D cl tys sb) (hr : meth.sig.returnType = some .long) {v : Int64} (hd : decode cc pc = .ok (.lreturn, 1)) (hq : Post (some (.long v)) ws) : vV p l e R s m args below meth c nL D cl sb (MQ below (vQc D cl sb Post) args s cells slots (vAb sb)) ws cells slots pc lv [.long v] :=
  fun H locs ls hP hD hS hl => W.lret X.1 X.2.1 hr (fun t ht hW => ⟨⟨_, ws, rfl, hq, by rw [ht]; exact hP, hD⟩, hS.F ht⟩) hS.2.2 hd X.2.2.2.2.2.2.2
theorem vRetF (X : vCX p s m args meth c cc nL own Ts D cl tys sb) (hr : meth.sig.returnType = some .float) {v : UInt32} (hd : decode cc pc = .ok (.freturn, 1)) (hq : Post (some (.float v)) ws) : vV p l e R s m args below meth c nL D cl sb (MQ below (vQc D cl sb Post) args s cells slots (vAb sb)) ws cells slots pc lv [.float v] :=
  fun H locs ls hP hD hS hl => W.fret X.1 X.2.1 hr (fun t ht hW => ⟨⟨_, ws, rfl, hq, by rw [ht]; exact hP, hD⟩, hS.F ht⟩) hS.2.2 hd X.2.2.2.2.2.2.2
theorem vRetD (X : vCX p s m args meth c cc nL own Ts D cl tys sb) (hr : meth.sig.returnType = some .double) {v : UInt64} (hd : decode cc pc = .ok (.dreturn, 1)) (hq : Post (some (.double v)) ws) : vV p l e R s m args below meth c nL D cl sb (MQ below (vQc D cl sb Post) args s cells slots (vAb sb)) ws cells slots pc lv [.double v] :=
  fun H locs ls hP hD hS hl => W.dret X.1 X.2.1 hr (fun t ht hW => ⟨⟨_, ws, rfl, hq, by rw [ht]; exact hP, hD⟩, hS.F ht⟩) hS.2.2 hd X.2.2.2.2.2.2.2
theorem vRetA (X : vCX p s m args meth c cc nL own Ts D cl tys sb) {C : String} (hr : meth.sig.returnType = some (.object C)) {v : Nat} (hd : decode cc pc = .ok (.areturn, 1)) (hq : Post (some (.ref v)) ws) : vV p l e R s m args below meth c nL D cl sb (MQ below (vQc D cl sb Post) args s cells slots (vAb sb)) ws cells slots pc lv [.ref v] :=
  fun H locs ls hP hD hS hl => W.aret X.1 X.2.1 hr (Or.inl ⟨_, rfl⟩) (Or.inr ⟨_, rfl⟩) (fun t ht hW => ⟨⟨_, ws, rfl, hq, by rw [ht]; exact hP, hD⟩, hS.F ht⟩) hS.2.2 hd X.2.2.2.2.2.2.2
theorem vRetV (X : vCX p s m args meth c cc nL own Ts D cl tys sb) (hr : meth.sig.returnType = none) (hd : decode cc pc = .ok (.return_, 1)) (hq : Post none ws) : vV p l e R s m args below meth c nL D cl sb (MQ below (vQc D cl sb Post) args s cells slots (vAb sb)) ws cells slots pc lv [] :=
  fun H locs ls hP hD hS hl => W.vret X.1 X.2.1 hr (fun t ht hW => ⟨⟨_, ws, rfl, hq, by rw [ht]; exact hP, hD⟩, hS.F ht⟩) hS.2.2 hd X.2.2.2.2.2.2.2
end VCC
end
section
/-! the model's world: its object and nine rows, at addresses o 0 .. o 9; what they hold as functions of numbers -/
abbrev vCl : List vw_C := [(RX0, TX0, 2), (RX1, TX1, 6), (RX2, TX2, 1), (RX3, TX3, 5), (RX4, TX4, 10)]
abbrev vTy (k : Nat → ClassId) : List (ClassId × FieldType) := [(k 0, .byte), (k 1, .int), (k 2, .object "Bytewell$Gatherer"), (k 3, .object "Bytewell$Reader"), (k 4, .object "Bytewell$Row"), (k 5, .long), (k 6, .double)]
/-- an open place, or -1 -/
def oI (r : Option Nat) : Int32 := match r with
  | none => -1
  | some n => nI n
def up2 (B : Nat → Nat → Int32) (r j : Nat) (x : Int32) : Nat → Nat → Int32 := fun a b => if a = r ∧ b = j then x else B a b
/-- rows of 256, one behind the other -/
def fl2 (B : Nat → Nat → Int32) : Nat → Int32 := fun j => B (j / 256) (j % 256)
abbrev mW (k : Nat → ClassId) (o : Nat → Nat) (B : Nat → Nat → Int32) (Ln Rm : Nat → Nat) (Rd : Nat → Option Nat) (Pl Mk : Nat → Nat) (G : Nat → Nat → Int32) (Sz : Nat → Nat) (Kp : Nat → Int32) (th : Int32) : va_W :=
  [(o 0, .inr (4, [.ref (o 1), .ref (o 2), .ref (o 3), .ref (o 4), .ref (o 5), .ref (o 6), .ref (o 7), .ref (o 8), .ref (o 9), .int th])),
   (o 1, .inl (k 1, 2048, .inl (fl2 B))), (o 2, .inl (k 1, 8, .inl (fun j => nI (Ln j)))), (o 3, .inl (k 1, 4, .inl (fun j => nI (Rm j)))), (o 4, .inl (k 1, 3, .inl (fun j => oI (Rd j)))),
   (o 5, .inl (k 1, 3, .inl (fun j => nI (Pl j)))), (o 6, .inl (k 1, 3, .inl (fun j => nI (Mk j)))), (o 7, .inl (k 1, 768, .inl (fl2 G))), (o 8, .inl (k 1, 3, .inl (fun j => nI (Sz j)))), (o 9, .inl (k 1, 256, .inl Kp))]
theorem fl2_at (B : Nat → Nat → Int32) {j X Y : Nat} (h : j = 256 * X + Y) (hY : Y < 256) : fl2 B j = B X Y := by
  have h1 : j / 256 = X := by omega
  have h2 : j % 256 = Y := by omega
  simp only [fl2, h1, h2]
theorem fl2_up (B : Nat → Nat → Int32) {j X Y : Nat} (x : Int32) (h : j = 256 * X + Y) (hY : Y < 256) : upd (fl2 B) j x = fl2 (up2 B X Y x) := by
  funext q
  simp only [upd, fl2, up2]
  by_cases hq : q = j
  · subst hq
    have h1 : q / 256 = X := by omega
    have h2 : q % 256 = Y := by omega
    simp [h1, h2]
  · have : ¬ (q / 256 = X ∧ q % 256 = Y) := by omega
    simp [hq, this]
theorem nI_up (L : Nat → Nat) (j v : Nat) : upd (fun q => nI (L q)) j (nI v) = fun q => nI ((va_up L j v) q) := by
  funext q
  simp only [upd, va_up]
  by_cases hq : q = j <;> simp [hq]
theorem va_up_eq {α : Type} (L : Nat → α) (j : Nat) (v : α) : va_up L j v j = v := by simp [va_up]
theorem va_up_nq {α : Type} {L : Nat → α} {j q : Nat} (v : α) (h : j ≠ q) : va_up L q v j = L j := by simp [va_up, h]
theorem oI_up (L : Nat → Option Nat) (j v : Nat) : upd (fun q => oI (L q)) j (nI v) = fun q => oI ((va_up L j (some v)) q) := by
  funext q
  simp only [upd, va_up]
  by_cases hq : q = j <;> simp [hq, oI]
theorem oI_some {r : Option Nat} {n : Nat} (h : r = some n) : oI r = nI n := by rw [h]; rfl
theorem oI_none {r : Option Nat} (h : r = none) : oI r = -1 := by rw [h]; rfl
theorem nI_inc (e : Nat) : nI e + Int32.ofInt 1 = nI (e + 1) := nI_1 e
/-- a byte of the lowest 8 bits -/
def lb (x : Int32) : Int32 := x.toInt8.toInt32
abbrev vDet (r : Option Value) (w : va_W) : Option Value → va_W → Prop := fun v ws' => v = r ∧ ws' = w
theorem inM : ∀ w ∈ u_ws RX4 TX4 10, w ∈ vGW := by decide +kernel
theorem inB : ∀ w ∈ u_ws RX3 TX3 5, w ∈ vGW := by decide +kernel
theorem inW : ∀ w ∈ u_ws RX2 TX2 1, w ∈ vGW := by decide +kernel
theorem inR : ∀ w ∈ u_ws RX1 TX1 6, w ∈ vGW := by decide +kernel
theorem inG : ∀ w ∈ u_ws RX0 TX0 2, w ∈ vGW := by decide +kernel
theorem vcons {c : Cond} {ws : List Cond} (h : ∀ w ∈ ws, w ∈ vGW) : ∀ w ∈ ws, w ∈ c :: vGW := fun w hw => List.mem_cons_of_mem _ (h w hw)
section VB
variable {p : Program} {l : Launch} {e : Env} {R : Room} {s : State} {m : MethodId} {args : Array Value} {below : List Frame} {meth : Method} {c : Code} {cc : ByteArray} {nL : Nat} {own : String} {Ts : List Cond} {D : va_G} {cl : List vw_C} {tys : List (ClassId × FieldType)} {sb : Nat} {Q : State → Prop} {ws : va_W} {cells slots : Nat} {pc : Nat} {lv : List (Nat × Value)} {rest : List Value}
theorem vIf_eqT (X : vCX p s m args meth c cc nL own Ts D cl tys sb) {x : Int32} {off : Int} (tgt : Nat) (hd : decode cc pc = .ok (.ifCond .eq off, 3)) (ht : (pc : Int) + off = (tgt : Int)) (h : x = 0) (k : vV p l e R s m args below meth c nL D cl sb Q ws cells slots tgt lv rest) : vV p l e R s m args below meth c nL D cl sb Q ws cells slots pc lv (.int x :: rest) := vIf_eq X tgt hd ht (fun _ => k) (fun h' => by first | exact absurd h h' | exact absurd h' h)
theorem vIf_eqF (X : vCX p s m args meth c cc nL own Ts D cl tys sb) {x : Int32} {off : Int} (tgt : Nat) (hd : decode cc pc = .ok (.ifCond .eq off, 3)) (ht : (pc : Int) + off = (tgt : Int)) (h : ¬ x = 0) (k : vV p l e R s m args below meth c nL D cl sb Q ws cells slots (pc + 3) lv rest) : vV p l e R s m args below meth c nL D cl sb Q ws cells slots pc lv (.int x :: rest) := vIf_eq X tgt hd ht (fun h' => by first | exact absurd h h' | exact absurd h' h) (fun _ => k)
theorem vIcmp_eqT (X : vCX p s m args meth c cc nL own Ts D cl tys sb) {x y : Int32} {off : Int} (tgt : Nat) (hd : decode cc pc = .ok (.if_icmp .eq off, 3)) (ht : (pc : Int) + off = (tgt : Int)) (h : x = y) (k : vV p l e R s m args below meth c nL D cl sb Q ws cells slots tgt lv rest) : vV p l e R s m args below meth c nL D cl sb Q ws cells slots pc lv (.int y :: .int x :: rest) := vIcmp_eq X tgt hd ht (fun _ => k) (fun h' => by first | exact absurd h h' | exact absurd h' h)
theorem vIcmp_eqF (X : vCX p s m args meth c cc nL own Ts D cl tys sb) {x y : Int32} {off : Int} (tgt : Nat) (hd : decode cc pc = .ok (.if_icmp .eq off, 3)) (ht : (pc : Int) + off = (tgt : Int)) (h : ¬ x = y) (k : vV p l e R s m args below meth c nL D cl sb Q ws cells slots (pc + 3) lv rest) : vV p l e R s m args below meth c nL D cl sb Q ws cells slots pc lv (.int y :: .int x :: rest) := vIcmp_eq X tgt hd ht (fun h' => by first | exact absurd h h' | exact absurd h' h) (fun _ => k)
theorem vIcmpN_eqT (X : vCX p s m args meth c cc nL own Ts D cl tys sb) {a b : Nat} {off : Int} (tgt : Nat) (hd : decode cc pc = .ok (.if_icmp .eq off, 3)) (ht : (pc : Int) + off = (tgt : Int)) (ha : a < 2 ^ 31) (hb : b < 2 ^ 31) (h : a = b) (k : vV p l e R s m args below meth c nL D cl sb Q ws cells slots tgt lv rest) : vV p l e R s m args below meth c nL D cl sb Q ws cells slots pc lv (.int (nI b) :: .int (nI a) :: rest) := vIcmp_eqT X tgt hd ht ((nI_eq ha hb).mpr h) k
theorem vIfN_eqT (X : vCX p s m args meth c cc nL own Ts D cl tys sb) {a : Nat} {off : Int} (tgt : Nat) (hd : decode cc pc = .ok (.ifCond .eq off, 3)) (ht : (pc : Int) + off = (tgt : Int)) (ha : a < 2 ^ 31) (h : a = 0) (k : vV p l e R s m args below meth c nL D cl sb Q ws cells slots tgt lv rest) : vV p l e R s m args below meth c nL D cl sb Q ws cells slots pc lv (.int (nI a) :: rest) := vIf_eqT X tgt hd ht (have hb : 0 < 2 ^ 31 := (by decide); (nI_eq ha hb).mpr h) k
theorem vIcmpN_eqF (X : vCX p s m args meth c cc nL own Ts D cl tys sb) {a b : Nat} {off : Int} (tgt : Nat) (hd : decode cc pc = .ok (.if_icmp .eq off, 3)) (ht : (pc : Int) + off = (tgt : Int)) (ha : a < 2 ^ 31) (hb : b < 2 ^ 31) (h : ¬ a = b) (k : vV p l e R s m args below meth c nL D cl sb Q ws cells slots (pc + 3) lv rest) : vV p l e R s m args below meth c nL D cl sb Q ws cells slots pc lv (.int (nI b) :: .int (nI a) :: rest) := vIcmp_eqF X tgt hd ht (fun q => h ((nI_eq ha hb).mp q)) k
theorem vIfN_eqF (X : vCX p s m args meth c cc nL own Ts D cl tys sb) {a : Nat} {off : Int} (tgt : Nat) (hd : decode cc pc = .ok (.ifCond .eq off, 3)) (ht : (pc : Int) + off = (tgt : Int)) (ha : a < 2 ^ 31) (h : ¬ a = 0) (k : vV p l e R s m args below meth c nL D cl sb Q ws cells slots (pc + 3) lv rest) : vV p l e R s m args below meth c nL D cl sb Q ws cells slots pc lv (.int (nI a) :: rest) := vIf_eqF X tgt hd ht (have hb : 0 < 2 ^ 31 := (by decide); fun q => h ((nI_eq ha hb).mp q)) k

theorem vIf_neT (X : vCX p s m args meth c cc nL own Ts D cl tys sb) {x : Int32} {off : Int} (tgt : Nat) (hd : decode cc pc = .ok (.ifCond .ne off, 3)) (ht : (pc : Int) + off = (tgt : Int)) (h : ¬ x = 0) (k : vV p l e R s m args below meth c nL D cl sb Q ws cells slots tgt lv rest) : vV p l e R s m args below meth c nL D cl sb Q ws cells slots pc lv (.int x :: rest) := vIf_ne X tgt hd ht (fun _ => k) (fun h' => by first | exact absurd h h' | exact absurd h' h)
theorem vIf_neF (X : vCX p s m args meth c cc nL own Ts D cl tys sb) {x : Int32} {off : Int} (tgt : Nat) (hd : decode cc pc = .ok (.ifCond .ne off, 3)) (ht : (pc : Int) + off = (tgt : Int)) (h : x = 0) (k : vV p l e R s m args below meth c nL D cl sb Q ws cells slots (pc + 3) lv rest) : vV p l e R s m args below meth c nL D cl sb Q ws cells slots pc lv (.int x :: rest) := vIf_ne X tgt hd ht (fun h' => by first | exact absurd h h' | exact absurd h' h) (fun _ => k)
theorem vIcmp_neT (X : vCX p s m args meth c cc nL own Ts D cl tys sb) {x y : Int32} {off : Int} (tgt : Nat) (hd : decode cc pc = .ok (.if_icmp .ne off, 3)) (ht : (pc : Int) + off = (tgt : Int)) (h : ¬ x = y) (k : vV p l e R s m args below meth c nL D cl sb Q ws cells slots tgt lv rest) : vV p l e R s m args below meth c nL D cl sb Q ws cells slots pc lv (.int y :: .int x :: rest) := vIcmp_ne X tgt hd ht (fun _ => k) (fun h' => by first | exact absurd h h' | exact absurd h' h)
theorem vIcmp_neF (X : vCX p s m args meth c cc nL own Ts D cl tys sb) {x y : Int32} {off : Int} (tgt : Nat) (hd : decode cc pc = .ok (.if_icmp .ne off, 3)) (ht : (pc : Int) + off = (tgt : Int)) (h : x = y) (k : vV p l e R s m args below meth c nL D cl sb Q ws cells slots (pc + 3) lv rest) : vV p l e R s m args below meth c nL D cl sb Q ws cells slots pc lv (.int y :: .int x :: rest) := vIcmp_ne X tgt hd ht (fun h' => by first | exact absurd h h' | exact absurd h' h) (fun _ => k)
theorem vIcmpN_neT (X : vCX p s m args meth c cc nL own Ts D cl tys sb) {a b : Nat} {off : Int} (tgt : Nat) (hd : decode cc pc = .ok (.if_icmp .ne off, 3)) (ht : (pc : Int) + off = (tgt : Int)) (ha : a < 2 ^ 31) (hb : b < 2 ^ 31) (h : ¬ a = b) (k : vV p l e R s m args below meth c nL D cl sb Q ws cells slots tgt lv rest) : vV p l e R s m args below meth c nL D cl sb Q ws cells slots pc lv (.int (nI b) :: .int (nI a) :: rest) := vIcmp_neT X tgt hd ht (fun q => h ((nI_eq ha hb).mp q)) k
theorem vIfN_neT (X : vCX p s m args meth c cc nL own Ts D cl tys sb) {a : Nat} {off : Int} (tgt : Nat) (hd : decode cc pc = .ok (.ifCond .ne off, 3)) (ht : (pc : Int) + off = (tgt : Int)) (ha : a < 2 ^ 31) (h : ¬ a = 0) (k : vV p l e R s m args below meth c nL D cl sb Q ws cells slots tgt lv rest) : vV p l e R s m args below meth c nL D cl sb Q ws cells slots pc lv (.int (nI a) :: rest) := vIf_neT X tgt hd ht (have hb : 0 < 2 ^ 31 := (by decide); fun q => h ((nI_eq ha hb).mp q)) k
theorem vIcmpN_neF (X : vCX p s m args meth c cc nL own Ts D cl tys sb) {a b : Nat} {off : Int} (tgt : Nat) (hd : decode cc pc = .ok (.if_icmp .ne off, 3)) (ht : (pc : Int) + off = (tgt : Int)) (ha : a < 2 ^ 31) (hb : b < 2 ^ 31) (h : a = b) (k : vV p l e R s m args below meth c nL D cl sb Q ws cells slots (pc + 3) lv rest) : vV p l e R s m args below meth c nL D cl sb Q ws cells slots pc lv (.int (nI b) :: .int (nI a) :: rest) := vIcmp_neF X tgt hd ht ((nI_eq ha hb).mpr h) k
theorem vIfN_neF (X : vCX p s m args meth c cc nL own Ts D cl tys sb) {a : Nat} {off : Int} (tgt : Nat) (hd : decode cc pc = .ok (.ifCond .ne off, 3)) (ht : (pc : Int) + off = (tgt : Int)) (ha : a < 2 ^ 31) (h : a = 0) (k : vV p l e R s m args below meth c nL D cl sb Q ws cells slots (pc + 3) lv rest) : vV p l e R s m args below meth c nL D cl sb Q ws cells slots pc lv (.int (nI a) :: rest) := vIf_neF X tgt hd ht (have hb : 0 < 2 ^ 31 := (by decide); (nI_eq ha hb).mpr h) k

theorem vIf_ltT (X : vCX p s m args meth c cc nL own Ts D cl tys sb) {x : Int32} {off : Int} (tgt : Nat) (hd : decode cc pc = .ok (.ifCond .lt off, 3)) (ht : (pc : Int) + off = (tgt : Int)) (h : x < 0) (k : vV p l e R s m args below meth c nL D cl sb Q ws cells slots tgt lv rest) : vV p l e R s m args below meth c nL D cl sb Q ws cells slots pc lv (.int x :: rest) := vIf_lt X tgt hd ht (fun _ => k) (fun h' => by first | exact absurd h h' | exact absurd h' h)
theorem vIf_ltF (X : vCX p s m args meth c cc nL own Ts D cl tys sb) {x : Int32} {off : Int} (tgt : Nat) (hd : decode cc pc = .ok (.ifCond .lt off, 3)) (ht : (pc : Int) + off = (tgt : Int)) (h : ¬ x < 0) (k : vV p l e R s m args below meth c nL D cl sb Q ws cells slots (pc + 3) lv rest) : vV p l e R s m args below meth c nL D cl sb Q ws cells slots pc lv (.int x :: rest) := vIf_lt X tgt hd ht (fun h' => by first | exact absurd h h' | exact absurd h' h) (fun _ => k)
theorem vIcmp_ltT (X : vCX p s m args meth c cc nL own Ts D cl tys sb) {x y : Int32} {off : Int} (tgt : Nat) (hd : decode cc pc = .ok (.if_icmp .lt off, 3)) (ht : (pc : Int) + off = (tgt : Int)) (h : x < y) (k : vV p l e R s m args below meth c nL D cl sb Q ws cells slots tgt lv rest) : vV p l e R s m args below meth c nL D cl sb Q ws cells slots pc lv (.int y :: .int x :: rest) := vIcmp_lt X tgt hd ht (fun _ => k) (fun h' => by first | exact absurd h h' | exact absurd h' h)
theorem vIcmp_ltF (X : vCX p s m args meth c cc nL own Ts D cl tys sb) {x y : Int32} {off : Int} (tgt : Nat) (hd : decode cc pc = .ok (.if_icmp .lt off, 3)) (ht : (pc : Int) + off = (tgt : Int)) (h : ¬ x < y) (k : vV p l e R s m args below meth c nL D cl sb Q ws cells slots (pc + 3) lv rest) : vV p l e R s m args below meth c nL D cl sb Q ws cells slots pc lv (.int y :: .int x :: rest) := vIcmp_lt X tgt hd ht (fun h' => by first | exact absurd h h' | exact absurd h' h) (fun _ => k)
theorem vIcmpN_ltT (X : vCX p s m args meth c cc nL own Ts D cl tys sb) {a b : Nat} {off : Int} (tgt : Nat) (hd : decode cc pc = .ok (.if_icmp .lt off, 3)) (ht : (pc : Int) + off = (tgt : Int)) (ha : a < 2 ^ 31) (hb : b < 2 ^ 31) (h : a < b) (k : vV p l e R s m args below meth c nL D cl sb Q ws cells slots tgt lv rest) : vV p l e R s m args below meth c nL D cl sb Q ws cells slots pc lv (.int (nI b) :: .int (nI a) :: rest) := vIcmp_ltT X tgt hd ht ((nI_ltI ha hb).mpr h) k
theorem vIfN_ltT (X : vCX p s m args meth c cc nL own Ts D cl tys sb) {a : Nat} {off : Int} (tgt : Nat) (hd : decode cc pc = .ok (.ifCond .lt off, 3)) (ht : (pc : Int) + off = (tgt : Int)) (ha : a < 2 ^ 31) (h : a < 0) (k : vV p l e R s m args below meth c nL D cl sb Q ws cells slots tgt lv rest) : vV p l e R s m args below meth c nL D cl sb Q ws cells slots pc lv (.int (nI a) :: rest) := vIf_ltT X tgt hd ht (have hb : 0 < 2 ^ 31 := (by decide); (nI_ltI ha hb).mpr h) k
theorem vIcmpN_ltF (X : vCX p s m args meth c cc nL own Ts D cl tys sb) {a b : Nat} {off : Int} (tgt : Nat) (hd : decode cc pc = .ok (.if_icmp .lt off, 3)) (ht : (pc : Int) + off = (tgt : Int)) (ha : a < 2 ^ 31) (hb : b < 2 ^ 31) (h : b ≤ a) (k : vV p l e R s m args below meth c nL D cl sb Q ws cells slots (pc + 3) lv rest) : vV p l e R s m args below meth c nL D cl sb Q ws cells slots pc lv (.int (nI b) :: .int (nI a) :: rest) := vIcmp_ltF X tgt hd ht (fun q => by have := (nI_ltI ha hb).mp q; omega) k
theorem vIfN_ltF (X : vCX p s m args meth c cc nL own Ts D cl tys sb) {a : Nat} {off : Int} (tgt : Nat) (hd : decode cc pc = .ok (.ifCond .lt off, 3)) (ht : (pc : Int) + off = (tgt : Int)) (ha : a < 2 ^ 31) (h : 0 ≤ a) (k : vV p l e R s m args below meth c nL D cl sb Q ws cells slots (pc + 3) lv rest) : vV p l e R s m args below meth c nL D cl sb Q ws cells slots pc lv (.int (nI a) :: rest) := vIf_ltF X tgt hd ht (have hb : 0 < 2 ^ 31 := (by decide); fun q => by have := (nI_ltI ha hb).mp q; omega) k

theorem vIf_geT (X : vCX p s m args meth c cc nL own Ts D cl tys sb) {x : Int32} {off : Int} (tgt : Nat) (hd : decode cc pc = .ok (.ifCond .ge off, 3)) (ht : (pc : Int) + off = (tgt : Int)) (h : 0 ≤ x) (k : vV p l e R s m args below meth c nL D cl sb Q ws cells slots tgt lv rest) : vV p l e R s m args below meth c nL D cl sb Q ws cells slots pc lv (.int x :: rest) := vIf_ge X tgt hd ht (fun _ => k) (fun h' => by first | exact absurd h h' | exact absurd h' h)
theorem vIf_geF (X : vCX p s m args meth c cc nL own Ts D cl tys sb) {x : Int32} {off : Int} (tgt : Nat) (hd : decode cc pc = .ok (.ifCond .ge off, 3)) (ht : (pc : Int) + off = (tgt : Int)) (h : ¬ 0 ≤ x) (k : vV p l e R s m args below meth c nL D cl sb Q ws cells slots (pc + 3) lv rest) : vV p l e R s m args below meth c nL D cl sb Q ws cells slots pc lv (.int x :: rest) := vIf_ge X tgt hd ht (fun h' => by first | exact absurd h h' | exact absurd h' h) (fun _ => k)
theorem vIcmp_geT (X : vCX p s m args meth c cc nL own Ts D cl tys sb) {x y : Int32} {off : Int} (tgt : Nat) (hd : decode cc pc = .ok (.if_icmp .ge off, 3)) (ht : (pc : Int) + off = (tgt : Int)) (h : y ≤ x) (k : vV p l e R s m args below meth c nL D cl sb Q ws cells slots tgt lv rest) : vV p l e R s m args below meth c nL D cl sb Q ws cells slots pc lv (.int y :: .int x :: rest) := vIcmp_ge X tgt hd ht (fun _ => k) (fun h' => by first | exact absurd h h' | exact absurd h' h)
theorem vIcmp_geF (X : vCX p s m args meth c cc nL own Ts D cl tys sb) {x y : Int32} {off : Int} (tgt : Nat) (hd : decode cc pc = .ok (.if_icmp .ge off, 3)) (ht : (pc : Int) + off = (tgt : Int)) (h : ¬ y ≤ x) (k : vV p l e R s m args below meth c nL D cl sb Q ws cells slots (pc + 3) lv rest) : vV p l e R s m args below meth c nL D cl sb Q ws cells slots pc lv (.int y :: .int x :: rest) := vIcmp_ge X tgt hd ht (fun h' => by first | exact absurd h h' | exact absurd h' h) (fun _ => k)
theorem vIcmpN_geT (X : vCX p s m args meth c cc nL own Ts D cl tys sb) {a b : Nat} {off : Int} (tgt : Nat) (hd : decode cc pc = .ok (.if_icmp .ge off, 3)) (ht : (pc : Int) + off = (tgt : Int)) (ha : a < 2 ^ 31) (hb : b < 2 ^ 31) (h : b ≤ a) (k : vV p l e R s m args below meth c nL D cl sb Q ws cells slots tgt lv rest) : vV p l e R s m args below meth c nL D cl sb Q ws cells slots pc lv (.int (nI b) :: .int (nI a) :: rest) := vIcmp_geT X tgt hd ht ((nI_leI hb ha).mpr h) k
theorem vIfN_geT (X : vCX p s m args meth c cc nL own Ts D cl tys sb) {a : Nat} {off : Int} (tgt : Nat) (hd : decode cc pc = .ok (.ifCond .ge off, 3)) (ht : (pc : Int) + off = (tgt : Int)) (ha : a < 2 ^ 31) (h : 0 ≤ a) (k : vV p l e R s m args below meth c nL D cl sb Q ws cells slots tgt lv rest) : vV p l e R s m args below meth c nL D cl sb Q ws cells slots pc lv (.int (nI a) :: rest) := vIf_geT X tgt hd ht (have hb : 0 < 2 ^ 31 := (by decide); (nI_leI hb ha).mpr h) k
theorem vIcmpN_geF (X : vCX p s m args meth c cc nL own Ts D cl tys sb) {a b : Nat} {off : Int} (tgt : Nat) (hd : decode cc pc = .ok (.if_icmp .ge off, 3)) (ht : (pc : Int) + off = (tgt : Int)) (ha : a < 2 ^ 31) (hb : b < 2 ^ 31) (h : a < b) (k : vV p l e R s m args below meth c nL D cl sb Q ws cells slots (pc + 3) lv rest) : vV p l e R s m args below meth c nL D cl sb Q ws cells slots pc lv (.int (nI b) :: .int (nI a) :: rest) := vIcmp_geF X tgt hd ht (fun q => by have := (nI_leI hb ha).mp q; omega) k
theorem vIfN_geF (X : vCX p s m args meth c cc nL own Ts D cl tys sb) {a : Nat} {off : Int} (tgt : Nat) (hd : decode cc pc = .ok (.ifCond .ge off, 3)) (ht : (pc : Int) + off = (tgt : Int)) (ha : a < 2 ^ 31) (h : a < 0) (k : vV p l e R s m args below meth c nL D cl sb Q ws cells slots (pc + 3) lv rest) : vV p l e R s m args below meth c nL D cl sb Q ws cells slots pc lv (.int (nI a) :: rest) := vIf_geF X tgt hd ht (have hb : 0 < 2 ^ 31 := (by decide); fun q => by have := (nI_leI hb ha).mp q; omega) k

theorem vIf_gtT (X : vCX p s m args meth c cc nL own Ts D cl tys sb) {x : Int32} {off : Int} (tgt : Nat) (hd : decode cc pc = .ok (.ifCond .gt off, 3)) (ht : (pc : Int) + off = (tgt : Int)) (h : 0 < x) (k : vV p l e R s m args below meth c nL D cl sb Q ws cells slots tgt lv rest) : vV p l e R s m args below meth c nL D cl sb Q ws cells slots pc lv (.int x :: rest) := vIf_gt X tgt hd ht (fun _ => k) (fun h' => by first | exact absurd h h' | exact absurd h' h)
theorem vIf_gtF (X : vCX p s m args meth c cc nL own Ts D cl tys sb) {x : Int32} {off : Int} (tgt : Nat) (hd : decode cc pc = .ok (.ifCond .gt off, 3)) (ht : (pc : Int) + off = (tgt : Int)) (h : ¬ 0 < x) (k : vV p l e R s m args below meth c nL D cl sb Q ws cells slots (pc + 3) lv rest) : vV p l e R s m args below meth c nL D cl sb Q ws cells slots pc lv (.int x :: rest) := vIf_gt X tgt hd ht (fun h' => by first | exact absurd h h' | exact absurd h' h) (fun _ => k)
theorem vIcmp_gtT (X : vCX p s m args meth c cc nL own Ts D cl tys sb) {x y : Int32} {off : Int} (tgt : Nat) (hd : decode cc pc = .ok (.if_icmp .gt off, 3)) (ht : (pc : Int) + off = (tgt : Int)) (h : y < x) (k : vV p l e R s m args below meth c nL D cl sb Q ws cells slots tgt lv rest) : vV p l e R s m args below meth c nL D cl sb Q ws cells slots pc lv (.int y :: .int x :: rest) := vIcmp_gt X tgt hd ht (fun _ => k) (fun h' => by first | exact absurd h h' | exact absurd h' h)
theorem vIcmp_gtF (X : vCX p s m args meth c cc nL own Ts D cl tys sb) {x y : Int32} {off : Int} (tgt : Nat) (hd : decode cc pc = .ok (.if_icmp .gt off, 3)) (ht : (pc : Int) + off = (tgt : Int)) (h : ¬ y < x) (k : vV p l e R s m args below meth c nL D cl sb Q ws cells slots (pc + 3) lv rest) : vV p l e R s m args below meth c nL D cl sb Q ws cells slots pc lv (.int y :: .int x :: rest) := vIcmp_gt X tgt hd ht (fun h' => by first | exact absurd h h' | exact absurd h' h) (fun _ => k)
theorem vIcmpN_gtT (X : vCX p s m args meth c cc nL own Ts D cl tys sb) {a b : Nat} {off : Int} (tgt : Nat) (hd : decode cc pc = .ok (.if_icmp .gt off, 3)) (ht : (pc : Int) + off = (tgt : Int)) (ha : a < 2 ^ 31) (hb : b < 2 ^ 31) (h : b < a) (k : vV p l e R s m args below meth c nL D cl sb Q ws cells slots tgt lv rest) : vV p l e R s m args below meth c nL D cl sb Q ws cells slots pc lv (.int (nI b) :: .int (nI a) :: rest) := vIcmp_gtT X tgt hd ht ((nI_ltI hb ha).mpr h) k
theorem vIfN_gtT (X : vCX p s m args meth c cc nL own Ts D cl tys sb) {a : Nat} {off : Int} (tgt : Nat) (hd : decode cc pc = .ok (.ifCond .gt off, 3)) (ht : (pc : Int) + off = (tgt : Int)) (ha : a < 2 ^ 31) (h : 0 < a) (k : vV p l e R s m args below meth c nL D cl sb Q ws cells slots tgt lv rest) : vV p l e R s m args below meth c nL D cl sb Q ws cells slots pc lv (.int (nI a) :: rest) := vIf_gtT X tgt hd ht (have hb : 0 < 2 ^ 31 := (by decide); (nI_ltI hb ha).mpr h) k
theorem vIcmpN_gtF (X : vCX p s m args meth c cc nL own Ts D cl tys sb) {a b : Nat} {off : Int} (tgt : Nat) (hd : decode cc pc = .ok (.if_icmp .gt off, 3)) (ht : (pc : Int) + off = (tgt : Int)) (ha : a < 2 ^ 31) (hb : b < 2 ^ 31) (h : a ≤ b) (k : vV p l e R s m args below meth c nL D cl sb Q ws cells slots (pc + 3) lv rest) : vV p l e R s m args below meth c nL D cl sb Q ws cells slots pc lv (.int (nI b) :: .int (nI a) :: rest) := vIcmp_gtF X tgt hd ht (fun q => by have := (nI_ltI hb ha).mp q; omega) k
theorem vIfN_gtF (X : vCX p s m args meth c cc nL own Ts D cl tys sb) {a : Nat} {off : Int} (tgt : Nat) (hd : decode cc pc = .ok (.ifCond .gt off, 3)) (ht : (pc : Int) + off = (tgt : Int)) (ha : a < 2 ^ 31) (h : a ≤ 0) (k : vV p l e R s m args below meth c nL D cl sb Q ws cells slots (pc + 3) lv rest) : vV p l e R s m args below meth c nL D cl sb Q ws cells slots pc lv (.int (nI a) :: rest) := vIf_gtF X tgt hd ht (have hb : 0 < 2 ^ 31 := (by decide); fun q => by have := (nI_ltI hb ha).mp q; omega) k

theorem vIf_leT (X : vCX p s m args meth c cc nL own Ts D cl tys sb) {x : Int32} {off : Int} (tgt : Nat) (hd : decode cc pc = .ok (.ifCond .le off, 3)) (ht : (pc : Int) + off = (tgt : Int)) (h : x ≤ 0) (k : vV p l e R s m args below meth c nL D cl sb Q ws cells slots tgt lv rest) : vV p l e R s m args below meth c nL D cl sb Q ws cells slots pc lv (.int x :: rest) := vIf_le X tgt hd ht (fun _ => k) (fun h' => by first | exact absurd h h' | exact absurd h' h)
theorem vIf_leF (X : vCX p s m args meth c cc nL own Ts D cl tys sb) {x : Int32} {off : Int} (tgt : Nat) (hd : decode cc pc = .ok (.ifCond .le off, 3)) (ht : (pc : Int) + off = (tgt : Int)) (h : ¬ x ≤ 0) (k : vV p l e R s m args below meth c nL D cl sb Q ws cells slots (pc + 3) lv rest) : vV p l e R s m args below meth c nL D cl sb Q ws cells slots pc lv (.int x :: rest) := vIf_le X tgt hd ht (fun h' => by first | exact absurd h h' | exact absurd h' h) (fun _ => k)
theorem vIcmp_leT (X : vCX p s m args meth c cc nL own Ts D cl tys sb) {x y : Int32} {off : Int} (tgt : Nat) (hd : decode cc pc = .ok (.if_icmp .le off, 3)) (ht : (pc : Int) + off = (tgt : Int)) (h : x ≤ y) (k : vV p l e R s m args below meth c nL D cl sb Q ws cells slots tgt lv rest) : vV p l e R s m args below meth c nL D cl sb Q ws cells slots pc lv (.int y :: .int x :: rest) := vIcmp_le X tgt hd ht (fun _ => k) (fun h' => by first | exact absurd h h' | exact absurd h' h)
theorem vIcmp_leF (X : vCX p s m args meth c cc nL own Ts D cl tys sb) {x y : Int32} {off : Int} (tgt : Nat) (hd : decode cc pc = .ok (.if_icmp .le off, 3)) (ht : (pc : Int) + off = (tgt : Int)) (h : ¬ x ≤ y) (k : vV p l e R s m args below meth c nL D cl sb Q ws cells slots (pc + 3) lv rest) : vV p l e R s m args below meth c nL D cl sb Q ws cells slots pc lv (.int y :: .int x :: rest) := vIcmp_le X tgt hd ht (fun h' => by first | exact absurd h h' | exact absurd h' h) (fun _ => k)
theorem vIcmpN_leT (X : vCX p s m args meth c cc nL own Ts D cl tys sb) {a b : Nat} {off : Int} (tgt : Nat) (hd : decode cc pc = .ok (.if_icmp .le off, 3)) (ht : (pc : Int) + off = (tgt : Int)) (ha : a < 2 ^ 31) (hb : b < 2 ^ 31) (h : a ≤ b) (k : vV p l e R s m args below meth c nL D cl sb Q ws cells slots tgt lv rest) : vV p l e R s m args below meth c nL D cl sb Q ws cells slots pc lv (.int (nI b) :: .int (nI a) :: rest) := vIcmp_leT X tgt hd ht ((nI_leI ha hb).mpr h) k
theorem vIfN_leT (X : vCX p s m args meth c cc nL own Ts D cl tys sb) {a : Nat} {off : Int} (tgt : Nat) (hd : decode cc pc = .ok (.ifCond .le off, 3)) (ht : (pc : Int) + off = (tgt : Int)) (ha : a < 2 ^ 31) (h : a ≤ 0) (k : vV p l e R s m args below meth c nL D cl sb Q ws cells slots tgt lv rest) : vV p l e R s m args below meth c nL D cl sb Q ws cells slots pc lv (.int (nI a) :: rest) := vIf_leT X tgt hd ht (have hb : 0 < 2 ^ 31 := (by decide); (nI_leI ha hb).mpr h) k
theorem vIcmpN_leF (X : vCX p s m args meth c cc nL own Ts D cl tys sb) {a b : Nat} {off : Int} (tgt : Nat) (hd : decode cc pc = .ok (.if_icmp .le off, 3)) (ht : (pc : Int) + off = (tgt : Int)) (ha : a < 2 ^ 31) (hb : b < 2 ^ 31) (h : b < a) (k : vV p l e R s m args below meth c nL D cl sb Q ws cells slots (pc + 3) lv rest) : vV p l e R s m args below meth c nL D cl sb Q ws cells slots pc lv (.int (nI b) :: .int (nI a) :: rest) := vIcmp_leF X tgt hd ht (fun q => by have := (nI_leI ha hb).mp q; omega) k
theorem vIfN_leF (X : vCX p s m args meth c cc nL own Ts D cl tys sb) {a : Nat} {off : Int} (tgt : Nat) (hd : decode cc pc = .ok (.ifCond .le off, 3)) (ht : (pc : Int) + off = (tgt : Int)) (ha : a < 2 ^ 31) (h : 0 < a) (k : vV p l e R s m args below meth c nL D cl sb Q ws cells slots (pc + 3) lv rest) : vV p l e R s m args below meth c nL D cl sb Q ws cells slots pc lv (.int (nI a) :: rest) := vIf_leF X tgt hd ht (have hb : 0 < 2 ^ 31 := (by decide); fun q => by have := (nI_leI ha hb).mp q; omega) k

theorem vLdc2 (X : vCX p s m args meth c cc nL own Ts D cl tys sb) {index : Nat} {v : Int64} (hc : Jvm.Cond.constantLong own index v ∈ Ts) (hd : decode cc pc = .ok (.ldc2_w index, 3)) (k : vV p l e R s m args below meth c nL D cl sb Q ws cells slots (pc + 3) lv (.long v :: rest)) : vV p l e R s m args below meth c nL D cl sb Q ws cells slots pc lv rest :=
  fun H locs ls hP hD hS hl => lv_ldc2 X.1 X.2.1 X.2.2.2.1 (X.2.2.2.2.1 _ hc) hd (k H locs ls hP hD hS hl)
variable {st : List Value}
theorem vCallVd (X : vCX p s m args meth c cc nL own Ts D cl tys sb) {y : MethodName} {bytes : ByteArray} {maxL : Nat} {ret : Option FieldType} {fr lo mc ms b index : Nat} {As : List Value} {r : Option Value} {w1 : va_W} (rest : List Value) (hM : vCt l y bytes maxL ret fr lo mc ms D cl tys sb (.ref b :: As) ws (vDet r w1))
    (hG : GoodIn Ts (wsV own index y.cls y (Cond.code y bytes maxL ret :: vGW))) (hy : y.cls ≠ "java/lang/invoke/MethodHandle" ∧ y.cls ≠ "java/lang/invoke/VarHandle" ∧ (parseMethodDescriptor y.desc).map (fun d => d.parameters.length) = some As.length) (hR : fr + 1 ≤ R.frames ∧ 8 + (maxL + 11) + lo ≤ R.locals)
    (q0 ci : Nat) {q : vw_C} {fs : List Value} (hc : cl[ci]? = some q) (hcq : q.1 = y.cls) (he : ws[q0]? = some (b, .inr (ci, fs))) (hst : st = As.reverse ++ .ref b :: rest) (hroom : (rest.map fun v => v.category).sum ≤ 8) (hd : decode cc pc = .ok (.invokevirtual index, 3)) (hf : cells + mc ≤ R.cells ∧ slots + ms ≤ R.slots)
    (kk : vV p l e R s m args below meth c nL D cl sb Q w1 (cells + mc) (slots + ms) (pc + 3) lv (r.toList ++ rest)) : vV p l e R s m args below meth c nL D cl sb Q ws cells slots pc lv st :=
  vCallV X rest hM hG hy hR q0 ci hc hcq he hst hroom hd hf (fun v ws' hp => by obtain ⟨rfl, rfl⟩ := hp; exact kk)
theorem vCallSd (X : vCX p s m args meth c cc nL own Ts D cl tys sb) {y : MethodName} {bytes : ByteArray} {maxL : Nat} {ret : Option FieldType} {fr lo mc ms index : Nat} {As : List Value} {r : Option Value} {w1 : va_W} (rest : List Value) (hM : vCt l y bytes maxL ret fr lo mc ms D cl tys sb As ws (vDet r w1))
    (hG : GoodIn Ts (wsS own index y (Cond.code y bytes maxL ret :: vGW))) (hyo : y.cls = own) (hy : y.cls ≠ "java/lang/invoke/MethodHandle" ∧ y.cls ≠ "java/lang/invoke/VarHandle" ∧ (parseMethodDescriptor y.desc).map (fun d => d.parameters.length) = some As.length) (hR : fr + 1 ≤ R.frames ∧ 8 + (maxL + 11) + lo ≤ R.locals)
    (hst : st = As.reverse ++ rest) (hroom : (rest.map fun v => v.category).sum ≤ 8) (hd : decode cc pc = .ok (.invokestatic index, 3)) (hf : cells + mc ≤ R.cells ∧ slots + ms ≤ R.slots)
    (kk : vV p l e R s m args below meth c nL D cl sb Q w1 (cells + mc) (slots + ms) (pc + 3) lv (r.toList ++ rest)) : vV p l e R s m args below meth c nL D cl sb Q ws cells slots pc lv st :=
  vCallS X rest hM hG hyo hy hR hst hroom hd hf (fun v ws' hp => by obtain ⟨rfl, rfl⟩ := hp; exact kk)
theorem vCallId (X : vCX p s m args meth c cc nL own Ts D cl tys sb) {y : MethodName} {bytes : ByteArray} {maxL : Nat} {fr lo mc ms b index : Nat} {As : List Value} {r : Option Value} {w1 : va_W} (rest : List Value) (hM : vCt l y bytes maxL none fr lo mc ms D cl tys sb (.ref b :: As) ws (vDet r w1))
    (hG : GoodIn Ts (Cond.code y bytes maxL none :: vGW)) (hn : y.name = "<init>") (h1 : Cond.initialized y.cls ∈ Ts) (h2 : Cond.methodLink own index y ∈ Ts) (h3 : Cond.instanceMethod y ∈ Ts) (hy : y.cls ≠ "java/lang/invoke/MethodHandle" ∧ y.cls ≠ "java/lang/invoke/VarHandle" ∧ (parseMethodDescriptor y.desc).map (fun d => d.parameters.length) = some As.length) (hR : fr + 1 ≤ R.frames ∧ 8 + (maxL + 11) + lo ≤ R.locals)
    (hst : st = As.reverse ++ .ref b :: rest) (hroom : (rest.map fun v => v.category).sum ≤ 8) (hd : decode cc pc = .ok (.invokespecial index, 3)) (hf : cells + mc ≤ R.cells ∧ slots + ms ≤ R.slots)
    (kk : vV p l e R s m args below meth c nL D cl sb Q w1 (cells + mc) (slots + ms) (pc + 3) lv (r.toList ++ rest)) : vV p l e R s m args below meth c nL D cl sb Q ws cells slots pc lv st :=
  vCallI X rest hM hG hn h1 h2 h3 hy hR hst hroom hd hf (fun v ws' hp => by obtain ⟨rfl, rfl⟩ := hp; exact kk)
end VB
end
section
set_option maxHeartbeats 4000000 in
set_option maxRecDepth 100000 in
theorem mm_isWrong0 (l : Launch) (D : va_G) (k : Nat → ClassId) (o : Nat → Nat) (sb : Nat) (B : Nat → Nat → Int32) (Ln Rm : Nat → Nat) (Rd : Nat → Option Nat) (Pl Mk : Nat → Nat) (G : Nat → Nat → Int32) (Sz : Nat → Nat) (Kp : Nat → Int32) (th : Int32)   : vCt l yX4_isWrong cX4_isWrong 2 (some .boolean) 0 0 0 0 D vCl (vTy k) sb [.ref (o 0), .int (nI (0))] (mW k o B Ln Rm Rd Pl Mk G Sz Kp th) (vDet (some (.int (nI (0)))) (mW k o B Ln Rm Rd Pl Mk G Sz Kp (nI 0))) := by
  refine vOf (by decide +kernel) (Nat.le_of_ble_eq_true rfl) (fun p e s m below meth c X hret _ => ?_)
  refine vAloadN X dX4_isWrong_0 0 rfl ?_
  refine vIloadN X dX4_isWrong_1 1 rfl ?_
  refine vPut X (C := RX4) (T := TX4) (N := 10) (ci := 4) (ty := .int) (vcons inM) tyX4 tyX4_ok nmX4 rfl 0 rfl 9 (by decide) (List.mem_cons_of_mem _ q_751) (fun _ h => h) rfl (by decide +kernel) rfl rfl (Nat.le_of_ble_eq_true rfl) dX4_isWrong_2 ?_
  refine vWs (ws' := mW k o B Ln Rm Rd Pl Mk G Sz Kp (nI (0))) rfl ?_
  refine vIloadN X dX4_isWrong_5 1 rfl ?_
  refine vIfN_eqT X 13 dX4_isWrong_6 (by decide) (by omega) (by omega) ?_
  refine vIconst X dX4_isWrong_13 (v := nI (0)) (by decide) ?_
  exact vRetZ X hret (by rfl) dX4_isWrong_14 ⟨rfl, rfl⟩
set_option maxHeartbeats 4000000 in
set_option maxRecDepth 100000 in
theorem mm_isWrong1 (l : Launch) (D : va_G) (k : Nat → ClassId) (o : Nat → Nat) (sb : Nat) (B : Nat → Nat → Int32) (Ln Rm : Nat → Nat) (Rd : Nat → Option Nat) (Pl Mk : Nat → Nat) (G : Nat → Nat → Int32) (Sz : Nat → Nat) (Kp : Nat → Int32) (th : Int32) (n : Nat) (h0 : 0 < n) (hn : n < 10) : vCt l yX4_isWrong cX4_isWrong 2 (some .boolean) 0 0 0 0 D vCl (vTy k) sb [.ref (o 0), .int (nI (n))] (mW k o B Ln Rm Rd Pl Mk G Sz Kp th) (vDet (some (.int (nI (1)))) (mW k o B Ln Rm Rd Pl Mk G Sz Kp (nI n))) := by
  refine vOf (by decide +kernel) (Nat.le_of_ble_eq_true rfl) (fun p e s m below meth c X hret _ => ?_)
  refine vAloadN X dX4_isWrong_0 0 rfl ?_
  refine vIloadN X dX4_isWrong_1 1 rfl ?_
  refine vPut X (C := RX4) (T := TX4) (N := 10) (ci := 4) (ty := .int) (vcons inM) tyX4 tyX4_ok nmX4 rfl 0 rfl 9 (by decide) (List.mem_cons_of_mem _ q_751) (fun _ h => h) rfl (by decide +kernel) rfl rfl (Nat.le_of_ble_eq_true rfl) dX4_isWrong_2 ?_
  refine vWs (ws' := mW k o B Ln Rm Rd Pl Mk G Sz Kp (nI (n))) rfl ?_
  refine vIloadN X dX4_isWrong_5 1 rfl ?_
  refine vIfN_eqF X 13 dX4_isWrong_6 (by decide) (by omega) (by omega) ?_
  refine vIconst X dX4_isWrong_9 (v := nI (1)) (by decide) ?_
  refine vGoto X 14 dX4_isWrong_10 (by decide) ?_
  exact vRetZ X hret (by rfl) dX4_isWrong_14 ⟨rfl, rfl⟩
set_option maxHeartbeats 4000000 in
set_option maxRecDepth 100000 in
theorem mm_thrown (l : Launch) (D : va_G) (k : Nat → ClassId) (o : Nat → Nat) (sb : Nat) (B : Nat → Nat → Int32) (Ln Rm : Nat → Nat) (Rd : Nat → Option Nat) (Pl Mk : Nat → Nat) (G : Nat → Nat → Int32) (Sz : Nat → Nat) (Kp : Nat → Int32) (th : Int32)   : vCt l yX4_thrown cX4_thrown 1 (some .int) 0 0 0 0 D vCl (vTy k) sb [.ref (o 0)] (mW k o B Ln Rm Rd Pl Mk G Sz Kp th) (vDet (some (.int th)) (mW k o B Ln Rm Rd Pl Mk G Sz Kp th)) := by
  refine vOf (by decide +kernel) (Nat.le_of_ble_eq_true rfl) (fun p e s m below meth c X hret _ => ?_)
  refine vAloadN X dX4_thrown_0 0 rfl ?_
  refine vGet X (C := RX4) (T := TX4) (N := 10) (ci := 4) (vcons inM) rfl 0 rfl 9 (by decide) (List.mem_cons_of_mem _ q_751) (fun _ h => h) rfl dX4_thrown_1 ?_
  exact vRetI X hret dX4_thrown_4 ⟨rfl, rfl⟩
set_option maxHeartbeats 4000000 in
set_option maxRecDepth 100000 in
theorem mm_lesserA (l : Launch) (D : va_G) (k : Nat → ClassId) (o : Nat → Nat) (sb : Nat) (B : Nat → Nat → Int32) (Ln Rm : Nat → Nat) (Rd : Nat → Option Nat) (Pl Mk : Nat → Nat) (G : Nat → Nat → Int32) (Sz : Nat → Nat) (Kp : Nat → Int32) (th : Int32) (a b : Nat) (h : a < b) (hb : b < 2 ^ 31) : vCt l yX4_lesser cX4_lesser 3 (some .int) 0 0 0 0 D vCl (vTy k) sb [.ref (o 0), .int (nI (a)), .int (nI (b))] (mW k o B Ln Rm Rd Pl Mk G Sz Kp th) (vDet (some (.int (nI (a)))) (mW k o B Ln Rm Rd Pl Mk G Sz Kp th)) := by
  refine vOf (by decide +kernel) (Nat.le_of_ble_eq_true rfl) (fun p e s m below meth c X hret _ => ?_)
  refine vIloadN X dX4_lesser_0 1 rfl ?_
  refine vIloadN X dX4_lesser_1 2 rfl ?_
  refine vIcmpN_geF X 9 dX4_lesser_2 (by decide) (by omega) (by omega) (by omega) ?_
  refine vIloadN X dX4_lesser_5 1 rfl ?_
  refine vGoto X 10 dX4_lesser_6 (by decide) ?_
  exact vRetI X hret dX4_lesser_10 ⟨rfl, rfl⟩
set_option maxHeartbeats 4000000 in
set_option maxRecDepth 100000 in
theorem mm_lesserB (l : Launch) (D : va_G) (k : Nat → ClassId) (o : Nat → Nat) (sb : Nat) (B : Nat → Nat → Int32) (Ln Rm : Nat → Nat) (Rd : Nat → Option Nat) (Pl Mk : Nat → Nat) (G : Nat → Nat → Int32) (Sz : Nat → Nat) (Kp : Nat → Int32) (th : Int32) (a b : Nat) (h : b ≤ a) (ha : a < 2 ^ 31) : vCt l yX4_lesser cX4_lesser 3 (some .int) 0 0 0 0 D vCl (vTy k) sb [.ref (o 0), .int (nI (a)), .int (nI (b))] (mW k o B Ln Rm Rd Pl Mk G Sz Kp th) (vDet (some (.int (nI (b)))) (mW k o B Ln Rm Rd Pl Mk G Sz Kp th)) := by
  refine vOf (by decide +kernel) (Nat.le_of_ble_eq_true rfl) (fun p e s m below meth c X hret _ => ?_)
  refine vIloadN X dX4_lesser_0 1 rfl ?_
  refine vIloadN X dX4_lesser_1 2 rfl ?_
  refine vIcmpN_geT X 9 dX4_lesser_2 (by decide) (by omega) (by omega) (by omega) ?_
  refine vIloadN X dX4_lesser_9 2 rfl ?_
  exact vRetI X hret dX4_lesser_10 ⟨rfl, rfl⟩
theorem mm_lesser (l : Launch) (D : va_G) (k : Nat → ClassId) (o : Nat → Nat) (sb : Nat) (B : Nat → Nat → Int32) (Ln Rm : Nat → Nat) (Rd : Nat → Option Nat) (Pl Mk : Nat → Nat) (G : Nat → Nat → Int32) (Sz : Nat → Nat) (Kp : Nat → Int32) (th : Int32) (a b : Nat) (ha : a < 2 ^ 31) (hb : b < 2 ^ 31) : vCt l yX4_lesser cX4_lesser 3 (some .int) 0 0 0 0 D vCl (vTy k) sb [.ref (o 0), .int (nI a), .int (nI b)] (mW k o B Ln Rm Rd Pl Mk G Sz Kp th) (vDet (some (.int (nI (min a b)))) (mW k o B Ln Rm Rd Pl Mk G Sz Kp th)) := by
  rcases Nat.lt_or_ge a b with h | h
  · rw [Nat.min_eq_left (Nat.le_of_lt h)]; exact mm_lesserA l D k o sb B Ln Rm Rd Pl Mk G Sz Kp th a b h hb
  · rw [Nat.min_eq_right h]; exact mm_lesserB l D k o sb B Ln Rm Rd Pl Mk G Sz Kp th a b h ha
set_option maxHeartbeats 4000000 in
set_option maxRecDepth 100000 in
theorem mm_isRowT (l : Launch) (D : va_G) (k : Nat → ClassId) (o : Nat → Nat) (sb : Nat) (B : Nat → Nat → Int32) (Ln Rm : Nat → Nat) (Rd : Nat → Option Nat) (Pl Mk : Nat → Nat) (G : Nat → Nat → Int32) (Sz : Nat → Nat) (Kp : Nat → Int32) (th : Int32) (r : Nat) (h : r < 4) : vCt l yX4_isRow cX4_isRow 2 (some .boolean) 0 0 0 0 D vCl (vTy k) sb [.ref (o 0), .int (nI (r))] (mW k o B Ln Rm Rd Pl Mk G Sz Kp th) (vDet (some (.int (nI (1)))) (mW k o B Ln Rm Rd Pl Mk G Sz Kp th)) := by
  refine vOf (by decide +kernel) (Nat.le_of_ble_eq_true rfl) (fun p e s m below meth c X hret _ => ?_)
  refine vIconst X dX4_isRow_0 (v := nI (0)) (by decide) ?_
  refine vIloadN X dX4_isRow_1 1 rfl ?_
  refine vIcmpN_gtF X 14 dX4_isRow_2 (by decide) (by omega) (by omega) (by omega) ?_
  refine vIloadN X dX4_isRow_5 1 rfl ?_
  refine vIconst X dX4_isRow_6 (v := nI (3)) (by decide) ?_
  refine vIcmpN_gtF X 14 dX4_isRow_7 (by decide) (by omega) (by omega) (by omega) ?_
  refine vIconst X dX4_isRow_10 (v := nI (1)) (by decide) ?_
  refine vGoto X 15 dX4_isRow_11 (by decide) ?_
  exact vRetZ X hret (by rfl) dX4_isRow_15 ⟨rfl, rfl⟩
set_option maxHeartbeats 4000000 in
set_option maxRecDepth 100000 in
theorem mm_isRowF1 (l : Launch) (D : va_G) (k : Nat → ClassId) (o : Nat → Nat) (sb : Nat) (B : Nat → Nat → Int32) (Ln Rm : Nat → Nat) (Rd : Nat → Option Nat) (Pl Mk : Nat → Nat) (G : Nat → Nat → Int32) (Sz : Nat → Nat) (Kp : Nat → Int32) (th : Int32) (x : Int32) (h : x < nI 0) : vCt l yX4_isRow cX4_isRow 2 (some .boolean) 0 0 0 0 D vCl (vTy k) sb [.ref (o 0), .int (x)] (mW k o B Ln Rm Rd Pl Mk G Sz Kp th) (vDet (some (.int (nI (0)))) (mW k o B Ln Rm Rd Pl Mk G Sz Kp th)) := by
  refine vOf (by decide +kernel) (Nat.le_of_ble_eq_true rfl) (fun p e s m below meth c X hret _ => ?_)
  refine vIconst X dX4_isRow_0 (v := nI (0)) (by decide) ?_
  refine vIloadN X dX4_isRow_1 1 rfl ?_
  refine vIcmp_gtT X 14 dX4_isRow_2 (by decide) (by first | assumption | exact Int32.not_lt.mpr (by assumption) | exact Int32.not_le.mpr (by assumption) | exact Int32.not_lt.mp (by assumption) | exact Int32.not_le.mp (by assumption) | decide) ?_
  refine vIconst X dX4_isRow_14 (v := nI (0)) (by decide) ?_
  exact vRetZ X hret (by rfl) dX4_isRow_15 ⟨rfl, rfl⟩
set_option maxHeartbeats 4000000 in
set_option maxRecDepth 100000 in
theorem mm_isRowF2 (l : Launch) (D : va_G) (k : Nat → ClassId) (o : Nat → Nat) (sb : Nat) (B : Nat → Nat → Int32) (Ln Rm : Nat → Nat) (Rd : Nat → Option Nat) (Pl Mk : Nat → Nat) (G : Nat → Nat → Int32) (Sz : Nat → Nat) (Kp : Nat → Int32) (th : Int32) (x : Int32) (h : nI 0 ≤ x) (h2 : nI 3 < x) : vCt l yX4_isRow cX4_isRow 2 (some .boolean) 0 0 0 0 D vCl (vTy k) sb [.ref (o 0), .int (x)] (mW k o B Ln Rm Rd Pl Mk G Sz Kp th) (vDet (some (.int (nI (0)))) (mW k o B Ln Rm Rd Pl Mk G Sz Kp th)) := by
  refine vOf (by decide +kernel) (Nat.le_of_ble_eq_true rfl) (fun p e s m below meth c X hret _ => ?_)
  refine vIconst X dX4_isRow_0 (v := nI (0)) (by decide) ?_
  refine vIloadN X dX4_isRow_1 1 rfl ?_
  refine vIcmp_gtF X 14 dX4_isRow_2 (by decide) (Int32.not_lt.mpr h) ?_
  refine vIloadN X dX4_isRow_5 1 rfl ?_
  refine vIconst X dX4_isRow_6 (v := nI (3)) (by decide) ?_
  refine vIcmp_gtT X 14 dX4_isRow_7 (by decide) (by first | assumption | exact Int32.not_lt.mpr (by assumption) | exact Int32.not_le.mpr (by assumption) | exact Int32.not_lt.mp (by assumption) | exact Int32.not_le.mp (by assumption) | decide) ?_
  refine vIconst X dX4_isRow_14 (v := nI (0)) (by decide) ?_
  exact vRetZ X hret (by rfl) dX4_isRow_15 ⟨rfl, rfl⟩
set_option maxHeartbeats 4000000 in
set_option maxRecDepth 100000 in
theorem mm_isOtherT (l : Launch) (D : va_G) (k : Nat → ClassId) (o : Nat → Nat) (sb : Nat) (B : Nat → Nat → Int32) (Ln Rm : Nat → Nat) (Rd : Nat → Option Nat) (Pl Mk : Nat → Nat) (G : Nat → Nat → Int32) (Sz : Nat → Nat) (Kp : Nat → Int32) (th : Int32) (g : Nat) (h : g < 3) : vCt l yX4_isOther cX4_isOther 2 (some .boolean) 0 0 0 0 D vCl (vTy k) sb [.ref (o 0), .int (nI (g))] (mW k o B Ln Rm Rd Pl Mk G Sz Kp th) (vDet (some (.int (nI (1)))) (mW k o B Ln Rm Rd Pl Mk G Sz Kp th)) := by
  refine vOf (by decide +kernel) (Nat.le_of_ble_eq_true rfl) (fun p e s m below meth c X hret _ => ?_)
  refine vIconst X dX4_isOther_0 (v := nI (0)) (by decide) ?_
  refine vIloadN X dX4_isOther_1 1 rfl ?_
  refine vIcmpN_gtF X 14 dX4_isOther_2 (by decide) (by omega) (by omega) (by omega) ?_
  refine vIloadN X dX4_isOther_5 1 rfl ?_
  refine vIconst X dX4_isOther_6 (v := nI (2)) (by decide) ?_
  refine vIcmpN_gtF X 14 dX4_isOther_7 (by decide) (by omega) (by omega) (by omega) ?_
  refine vIconst X dX4_isOther_10 (v := nI (1)) (by decide) ?_
  refine vGoto X 15 dX4_isOther_11 (by decide) ?_
  exact vRetZ X hret (by rfl) dX4_isOther_15 ⟨rfl, rfl⟩
set_option maxHeartbeats 4000000 in
set_option maxRecDepth 100000 in
theorem mm_isOtherF1 (l : Launch) (D : va_G) (k : Nat → ClassId) (o : Nat → Nat) (sb : Nat) (B : Nat → Nat → Int32) (Ln Rm : Nat → Nat) (Rd : Nat → Option Nat) (Pl Mk : Nat → Nat) (G : Nat → Nat → Int32) (Sz : Nat → Nat) (Kp : Nat → Int32) (th : Int32) (x : Int32) (h : x < nI 0) : vCt l yX4_isOther cX4_isOther 2 (some .boolean) 0 0 0 0 D vCl (vTy k) sb [.ref (o 0), .int (x)] (mW k o B Ln Rm Rd Pl Mk G Sz Kp th) (vDet (some (.int (nI (0)))) (mW k o B Ln Rm Rd Pl Mk G Sz Kp th)) := by
  refine vOf (by decide +kernel) (Nat.le_of_ble_eq_true rfl) (fun p e s m below meth c X hret _ => ?_)
  refine vIconst X dX4_isOther_0 (v := nI (0)) (by decide) ?_
  refine vIloadN X dX4_isOther_1 1 rfl ?_
  refine vIcmp_gtT X 14 dX4_isOther_2 (by decide) (by first | assumption | exact Int32.not_lt.mpr (by assumption) | exact Int32.not_le.mpr (by assumption) | exact Int32.not_lt.mp (by assumption) | exact Int32.not_le.mp (by assumption) | decide) ?_
  refine vIconst X dX4_isOther_14 (v := nI (0)) (by decide) ?_
  exact vRetZ X hret (by rfl) dX4_isOther_15 ⟨rfl, rfl⟩
set_option maxHeartbeats 4000000 in
set_option maxRecDepth 100000 in
theorem mm_isOtherF2 (l : Launch) (D : va_G) (k : Nat → ClassId) (o : Nat → Nat) (sb : Nat) (B : Nat → Nat → Int32) (Ln Rm : Nat → Nat) (Rd : Nat → Option Nat) (Pl Mk : Nat → Nat) (G : Nat → Nat → Int32) (Sz : Nat → Nat) (Kp : Nat → Int32) (th : Int32) (x : Int32) (h : nI 0 ≤ x) (h2 : nI 2 < x) : vCt l yX4_isOther cX4_isOther 2 (some .boolean) 0 0 0 0 D vCl (vTy k) sb [.ref (o 0), .int (x)] (mW k o B Ln Rm Rd Pl Mk G Sz Kp th) (vDet (some (.int (nI (0)))) (mW k o B Ln Rm Rd Pl Mk G Sz Kp th)) := by
  refine vOf (by decide +kernel) (Nat.le_of_ble_eq_true rfl) (fun p e s m below meth c X hret _ => ?_)
  refine vIconst X dX4_isOther_0 (v := nI (0)) (by decide) ?_
  refine vIloadN X dX4_isOther_1 1 rfl ?_
  refine vIcmp_gtF X 14 dX4_isOther_2 (by decide) (Int32.not_lt.mpr h) ?_
  refine vIloadN X dX4_isOther_5 1 rfl ?_
  refine vIconst X dX4_isOther_6 (v := nI (2)) (by decide) ?_
  refine vIcmp_gtT X 14 dX4_isOther_7 (by decide) (by first | assumption | exact Int32.not_lt.mpr (by assumption) | exact Int32.not_le.mpr (by assumption) | exact Int32.not_lt.mp (by assumption) | exact Int32.not_le.mp (by assumption) | decide) ?_
  refine vIconst X dX4_isOther_14 (v := nI (0)) (by decide) ?_
  exact vRetZ X hret (by rfl) dX4_isOther_15 ⟨rfl, rfl⟩
def vRow (x : Int32) : Prop := nI 0 ≤ x ∧ x ≤ nI 3
theorem mm_isRowF (l : Launch) (D : va_G) (k : Nat → ClassId) (o : Nat → Nat) (sb : Nat) (B : Nat → Nat → Int32) (Ln Rm : Nat → Nat) (Rd : Nat → Option Nat) (Pl Mk : Nat → Nat) (G : Nat → Nat → Int32) (Sz : Nat → Nat) (Kp : Nat → Int32) (th : Int32) (x : Int32) (h : ¬ vRow x) : vCt l yX4_isRow cX4_isRow 2 (some .boolean) 0 0 0 0 D vCl (vTy k) sb [.ref (o 0), .int x] (mW k o B Ln Rm Rd Pl Mk G Sz Kp th) (vDet (some (.int (nI (0)))) (mW k o B Ln Rm Rd Pl Mk G Sz Kp th)) := by
  by_cases h1 : nI 0 ≤ x
  · exact mm_isRowF2 l D k o sb B Ln Rm Rd Pl Mk G Sz Kp th x h1 (Int32.not_le.mp (fun q => h ⟨h1, q⟩))
  · exact mm_isRowF1 l D k o sb B Ln Rm Rd Pl Mk G Sz Kp th x (Int32.not_le.mp h1)
def vOther (x : Int32) : Prop := nI 0 ≤ x ∧ x ≤ nI 2
theorem mm_isOtherF (l : Launch) (D : va_G) (k : Nat → ClassId) (o : Nat → Nat) (sb : Nat) (B : Nat → Nat → Int32) (Ln Rm : Nat → Nat) (Rd : Nat → Option Nat) (Pl Mk : Nat → Nat) (G : Nat → Nat → Int32) (Sz : Nat → Nat) (Kp : Nat → Int32) (th : Int32) (x : Int32) (h : ¬ vOther x) : vCt l yX4_isOther cX4_isOther 2 (some .boolean) 0 0 0 0 D vCl (vTy k) sb [.ref (o 0), .int x] (mW k o B Ln Rm Rd Pl Mk G Sz Kp th) (vDet (some (.int (nI (0)))) (mW k o B Ln Rm Rd Pl Mk G Sz Kp th)) := by
  by_cases h1 : nI 0 ≤ x
  · exact mm_isOtherF2 l D k o sb B Ln Rm Rd Pl Mk G Sz Kp th x h1 (Int32.not_le.mp (fun q => h ⟨h1, q⟩))
  · exact mm_isOtherF1 l D k o sb B Ln Rm Rd Pl Mk G Sz Kp th x (Int32.not_le.mp h1)
set_option maxHeartbeats 4000000 in
set_option maxRecDepth 100000 in
theorem mm_long0 (l : Launch) (D : va_G) (k : Nat → ClassId) (o : Nat → Nat) (sb : Nat) (B : Nat → Nat → Int32) (Ln Rm : Nat → Nat) (Rd : Nat → Option Nat) (Pl Mk : Nat → Nat) (G : Nat → Nat → Int32) (Sz : Nat → Nat) (Kp : Nat → Int32) (th : Int32) (r : Nat) (h : r < 4) (hR : Rm r < 8) : vCt l yX4_long0 cX4_long0 2 (some .int) 0 0 0 0 D vCl (vTy k) sb [.ref (o 0), .int (nI (r))] (mW k o B Ln Rm Rd Pl Mk G Sz Kp th) (vDet (some (.int (nI (Ln (Rm r))))) (mW k o B Ln Rm Rd Pl Mk G Sz Kp th)) := by
  refine vOf (by decide +kernel) (Nat.le_of_ble_eq_true rfl) (fun p e s m below meth c X hret _ => ?_)
  refine vAloadN X dX4_long0_0 0 rfl ?_
  refine vGet X (C := RX4) (T := TX4) (N := 10) (ci := 4) (vcons inM) rfl 0 rfl 1 (by decide) (List.mem_cons_of_mem _ q_743) (fun _ h => h) rfl dX4_long0_1 ?_
  refine vAloadN X dX4_long0_4 0 rfl ?_
  refine vGet X (C := RX4) (T := TX4) (N := 10) (ci := 4) (vcons inM) rfl 0 rfl 2 (by decide) (List.mem_cons_of_mem _ q_744) (fun _ h => h) rfl dX4_long0_5 ?_
  refine vIloadN X dX4_long0_8 1 rfl ?_
  refine vIaload X (v := nI (Rm (r))) 3 1 rfl rfl rfl (by omega) (by decide) rfl dX4_long0_9 ?_
  refine vIaload X (v := nI (Ln (Rm (r)))) 2 1 rfl rfl rfl (by omega) (by decide) rfl dX4_long0_10 ?_
  exact vRetI X hret dX4_long0_11 ⟨rfl, rfl⟩
theorem vpartF {f n L : Nat} (hf : f < 2 ^ 31) (hn : n < 2 ^ 31) (hL : L ≤ 256) (h : L < f + n) : ¬ nI f ≤ nI L - nI n := by
  intro q
  have h1 := Int32.le_iff_toInt_le.mp q
  rw [Int32.toInt_sub, nI_toInt hf, nI_toInt hn, nI_toInt (by omega)] at h1
  rw [Int.bmod_eq_of_le (by omega) (by omega)] at h1
  omega
set_option maxHeartbeats 4000000 in
set_option maxRecDepth 100000 in
theorem mm_isPartT (l : Launch) (D : va_G) (k : Nat → ClassId) (o : Nat → Nat) (sb : Nat) (B : Nat → Nat → Int32) (Ln Rm : Nat → Nat) (Rd : Nat → Option Nat) (Pl Mk : Nat → Nat) (G : Nat → Nat → Int32) (Sz : Nat → Nat) (Kp : Nat → Int32) (th : Int32) (r f n : Nat) (h : r < 4) (hR : Rm r < 8) (hL : Ln (Rm r) ≤ 256) (hp : f + n ≤ Ln (Rm r)) : vCt l yX4_isPart cX4_isPart 4 (some .boolean) 1 21 0 0 D vCl (vTy k) sb [.ref (o 0), .int (nI (r)), .int (nI (f)), .int (nI (n))] (mW k o B Ln Rm Rd Pl Mk G Sz Kp th) (vDet (some (.int (nI (1)))) (mW k o B Ln Rm Rd Pl Mk G Sz Kp th)) := by
  refine vOf (by decide +kernel) (Nat.le_of_ble_eq_true rfl) (fun p e s m below meth c X hret _ => ?_)
  refine vAloadN X dX4_isPart_0 0 rfl ?_
  refine vIloadN X dX4_isPart_1 1 rfl ?_
  refine vCallVd X [] (mm_isRowT l D k o sb B Ln Rm Rd Pl Mk G Sz Kp th r (by omega)) (vGV q_782 q_784 q_7 q_29 q_785) ⟨by decide, by decide, (show _ = some 1 from by decide +kernel)⟩ ⟨Nat.le_of_ble_eq_true rfl, Nat.le_of_ble_eq_true rfl⟩ 0 4 rfl rfl rfl rfl (Nat.le_of_ble_eq_true rfl) dX4_isPart_2 ⟨Nat.zero_le _, Nat.zero_le _⟩ ?_
  refine vIfN_eqF X 31 dX4_isPart_5 (by decide) (by omega) (by omega) ?_
  refine vIloadN X dX4_isPart_8 2 rfl ?_
  refine vIfN_ltF X 31 dX4_isPart_9 (by decide) (by omega) (by omega) ?_
  refine vIloadN X dX4_isPart_12 3 rfl ?_
  refine vIfN_ltF X 31 dX4_isPart_13 (by decide) (by omega) (by omega) ?_
  refine vIloadN X dX4_isPart_16 2 rfl ?_
  refine vAloadN X dX4_isPart_17 0 rfl ?_
  refine vIloadN X dX4_isPart_18 1 rfl ?_
  refine vCallVd X [.int (nI (f))] (mm_long0 l D k o sb B Ln Rm Rd Pl Mk G Sz Kp th r (by omega) (by omega)) (vGV q_790 q_792 q_9 q_29 q_793) ⟨by decide, by decide, (show _ = some 1 from by decide +kernel)⟩ ⟨Nat.le_of_ble_eq_true rfl, Nat.le_of_ble_eq_true rfl⟩ 0 4 rfl rfl rfl rfl (Nat.le_of_ble_eq_true rfl) dX4_isPart_19 ⟨Nat.zero_le _, Nat.zero_le _⟩ ?_
  refine vIloadN X dX4_isPart_22 3 rfl ?_
  refine vIsub X dX4_isPart_23 (v := nI ((Ln (Rm r)) - (n))) (pk_sub (by omega)) ?_
  refine vIcmpN_gtF X 31 dX4_isPart_24 (by decide) (by omega) (by omega) (by omega) ?_
  refine vIconst X dX4_isPart_27 (v := nI (1)) (by decide) ?_
  refine vGoto X 32 dX4_isPart_28 (by decide) ?_
  exact vRetZ X hret (by rfl) dX4_isPart_32 ⟨rfl, rfl⟩
set_option maxHeartbeats 4000000 in
set_option maxRecDepth 100000 in
theorem mm_isPartF1 (l : Launch) (D : va_G) (k : Nat → ClassId) (o : Nat → Nat) (sb : Nat) (B : Nat → Nat → Int32) (Ln Rm : Nat → Nat) (Rd : Nat → Option Nat) (Pl Mk : Nat → Nat) (G : Nat → Nat → Int32) (Sz : Nat → Nat) (Kp : Nat → Int32) (th : Int32) (x f n : Int32) (hx : ¬ vRow x) : vCt l yX4_isPart cX4_isPart 4 (some .boolean) 1 21 0 0 D vCl (vTy k) sb [.ref (o 0), .int (x), .int (f), .int (n)] (mW k o B Ln Rm Rd Pl Mk G Sz Kp th) (vDet (some (.int (nI (0)))) (mW k o B Ln Rm Rd Pl Mk G Sz Kp th)) := by
  refine vOf (by decide +kernel) (Nat.le_of_ble_eq_true rfl) (fun p e s m below meth c X hret _ => ?_)
  refine vAloadN X dX4_isPart_0 0 rfl ?_
  refine vIloadN X dX4_isPart_1 1 rfl ?_
  refine vCallVd X [] (mm_isRowF l D k o sb B Ln Rm Rd Pl Mk G Sz Kp th x hx) (vGV q_782 q_784 q_7 q_29 q_785) ⟨by decide, by decide, (show _ = some 1 from by decide +kernel)⟩ ⟨Nat.le_of_ble_eq_true rfl, Nat.le_of_ble_eq_true rfl⟩ 0 4 rfl rfl rfl rfl (Nat.le_of_ble_eq_true rfl) dX4_isPart_2 ⟨Nat.zero_le _, Nat.zero_le _⟩ ?_
  refine vIfN_eqT X 31 dX4_isPart_5 (by decide) (by omega) (by omega) ?_
  refine vIconst X dX4_isPart_31 (v := nI (0)) (by decide) ?_
  exact vRetZ X hret (by rfl) dX4_isPart_32 ⟨rfl, rfl⟩
set_option maxHeartbeats 4000000 in
set_option maxRecDepth 100000 in
theorem mm_isPartF2 (l : Launch) (D : va_G) (k : Nat → ClassId) (o : Nat → Nat) (sb : Nat) (B : Nat → Nat → Int32) (Ln Rm : Nat → Nat) (Rd : Nat → Option Nat) (Pl Mk : Nat → Nat) (G : Nat → Nat → Int32) (Sz : Nat → Nat) (Kp : Nat → Int32) (th : Int32) (r : Nat) (f n : Int32) (h : r < 4) (hf : f < nI 0) : vCt l yX4_isPart cX4_isPart 4 (some .boolean) 1 21 0 0 D vCl (vTy k) sb [.ref (o 0), .int (nI (r)), .int (f), .int (n)] (mW k o B Ln Rm Rd Pl Mk G Sz Kp th) (vDet (some (.int (nI (0)))) (mW k o B Ln Rm Rd Pl Mk G Sz Kp th)) := by
  refine vOf (by decide +kernel) (Nat.le_of_ble_eq_true rfl) (fun p e s m below meth c X hret _ => ?_)
  refine vAloadN X dX4_isPart_0 0 rfl ?_
  refine vIloadN X dX4_isPart_1 1 rfl ?_
  refine vCallVd X [] (mm_isRowT l D k o sb B Ln Rm Rd Pl Mk G Sz Kp th r (by omega)) (vGV q_782 q_784 q_7 q_29 q_785) ⟨by decide, by decide, (show _ = some 1 from by decide +kernel)⟩ ⟨Nat.le_of_ble_eq_true rfl, Nat.le_of_ble_eq_true rfl⟩ 0 4 rfl rfl rfl rfl (Nat.le_of_ble_eq_true rfl) dX4_isPart_2 ⟨Nat.zero_le _, Nat.zero_le _⟩ ?_
  refine vIfN_eqF X 31 dX4_isPart_5 (by decide) (by omega) (by omega) ?_
  refine vIloadN X dX4_isPart_8 2 rfl ?_
  refine vIf_ltT X 31 dX4_isPart_9 (by decide) (by first | assumption | exact Int32.not_lt.mpr (by assumption) | exact Int32.not_le.mpr (by assumption) | exact Int32.not_lt.mp (by assumption) | exact Int32.not_le.mp (by assumption) | decide) ?_
  refine vIconst X dX4_isPart_31 (v := nI (0)) (by decide) ?_
  exact vRetZ X hret (by rfl) dX4_isPart_32 ⟨rfl, rfl⟩
set_option maxHeartbeats 4000000 in
set_option maxRecDepth 100000 in
theorem mm_isPartF3 (l : Launch) (D : va_G) (k : Nat → ClassId) (o : Nat → Nat) (sb : Nat) (B : Nat → Nat → Int32) (Ln Rm : Nat → Nat) (Rd : Nat → Option Nat) (Pl Mk : Nat → Nat) (G : Nat → Nat → Int32) (Sz : Nat → Nat) (Kp : Nat → Int32) (th : Int32) (r f : Nat) (n : Int32) (h : r < 4) (hf : f < 2 ^ 31) (hn : n < nI 0) : vCt l yX4_isPart cX4_isPart 4 (some .boolean) 1 21 0 0 D vCl (vTy k) sb [.ref (o 0), .int (nI (r)), .int (nI (f)), .int (n)] (mW k o B Ln Rm Rd Pl Mk G Sz Kp th) (vDet (some (.int (nI (0)))) (mW k o B Ln Rm Rd Pl Mk G Sz Kp th)) := by
  refine vOf (by decide +kernel) (Nat.le_of_ble_eq_true rfl) (fun p e s m below meth c X hret _ => ?_)
  refine vAloadN X dX4_isPart_0 0 rfl ?_
  refine vIloadN X dX4_isPart_1 1 rfl ?_
  refine vCallVd X [] (mm_isRowT l D k o sb B Ln Rm Rd Pl Mk G Sz Kp th r (by omega)) (vGV q_782 q_784 q_7 q_29 q_785) ⟨by decide, by decide, (show _ = some 1 from by decide +kernel)⟩ ⟨Nat.le_of_ble_eq_true rfl, Nat.le_of_ble_eq_true rfl⟩ 0 4 rfl rfl rfl rfl (Nat.le_of_ble_eq_true rfl) dX4_isPart_2 ⟨Nat.zero_le _, Nat.zero_le _⟩ ?_
  refine vIfN_eqF X 31 dX4_isPart_5 (by decide) (by omega) (by omega) ?_
  refine vIloadN X dX4_isPart_8 2 rfl ?_
  refine vIfN_ltF X 31 dX4_isPart_9 (by decide) (by omega) (by omega) ?_
  refine vIloadN X dX4_isPart_12 3 rfl ?_
  refine vIf_ltT X 31 dX4_isPart_13 (by decide) (by first | assumption | exact Int32.not_lt.mpr (by assumption) | exact Int32.not_le.mpr (by assumption) | exact Int32.not_lt.mp (by assumption) | exact Int32.not_le.mp (by assumption) | decide) ?_
  refine vIconst X dX4_isPart_31 (v := nI (0)) (by decide) ?_
  exact vRetZ X hret (by rfl) dX4_isPart_32 ⟨rfl, rfl⟩
set_option maxHeartbeats 4000000 in
set_option maxRecDepth 100000 in
theorem mm_isPartF4 (l : Launch) (D : va_G) (k : Nat → ClassId) (o : Nat → Nat) (sb : Nat) (B : Nat → Nat → Int32) (Ln Rm : Nat → Nat) (Rd : Nat → Option Nat) (Pl Mk : Nat → Nat) (G : Nat → Nat → Int32) (Sz : Nat → Nat) (Kp : Nat → Int32) (th : Int32) (r f n : Nat) (h : r < 4) (hR : Rm r < 8) (hL : Ln (Rm r) ≤ 256) (hf : f < 2 ^ 31) (hn : n < 2 ^ 31) (hp : Ln (Rm r) < f + n) : vCt l yX4_isPart cX4_isPart 4 (some .boolean) 1 21 0 0 D vCl (vTy k) sb [.ref (o 0), .int (nI (r)), .int (nI (f)), .int (nI (n))] (mW k o B Ln Rm Rd Pl Mk G Sz Kp th) (vDet (some (.int (nI (0)))) (mW k o B Ln Rm Rd Pl Mk G Sz Kp th)) := by
  refine vOf (by decide +kernel) (Nat.le_of_ble_eq_true rfl) (fun p e s m below meth c X hret _ => ?_)
  refine vAloadN X dX4_isPart_0 0 rfl ?_
  refine vIloadN X dX4_isPart_1 1 rfl ?_
  refine vCallVd X [] (mm_isRowT l D k o sb B Ln Rm Rd Pl Mk G Sz Kp th r (by omega)) (vGV q_782 q_784 q_7 q_29 q_785) ⟨by decide, by decide, (show _ = some 1 from by decide +kernel)⟩ ⟨Nat.le_of_ble_eq_true rfl, Nat.le_of_ble_eq_true rfl⟩ 0 4 rfl rfl rfl rfl (Nat.le_of_ble_eq_true rfl) dX4_isPart_2 ⟨Nat.zero_le _, Nat.zero_le _⟩ ?_
  refine vIfN_eqF X 31 dX4_isPart_5 (by decide) (by omega) (by omega) ?_
  refine vIloadN X dX4_isPart_8 2 rfl ?_
  refine vIfN_ltF X 31 dX4_isPart_9 (by decide) (by omega) (by omega) ?_
  refine vIloadN X dX4_isPart_12 3 rfl ?_
  refine vIfN_ltF X 31 dX4_isPart_13 (by decide) (by omega) (by omega) ?_
  refine vIloadN X dX4_isPart_16 2 rfl ?_
  refine vAloadN X dX4_isPart_17 0 rfl ?_
  refine vIloadN X dX4_isPart_18 1 rfl ?_
  refine vCallVd X [.int (nI (f))] (mm_long0 l D k o sb B Ln Rm Rd Pl Mk G Sz Kp th r (by omega) (by omega)) (vGV q_790 q_792 q_9 q_29 q_793) ⟨by decide, by decide, (show _ = some 1 from by decide +kernel)⟩ ⟨Nat.le_of_ble_eq_true rfl, Nat.le_of_ble_eq_true rfl⟩ 0 4 rfl rfl rfl rfl (Nat.le_of_ble_eq_true rfl) dX4_isPart_19 ⟨Nat.zero_le _, Nat.zero_le _⟩ ?_
  refine vIloadN X dX4_isPart_22 3 rfl ?_
  refine vIsub X dX4_isPart_23 (v := (nI (Ln (Rm r))) - (nI (n))) rfl ?_
  refine vIcmp_gtT X 31 dX4_isPart_24 (by decide) (Int32.not_le.mp (vpartF hf hn hL hp)) ?_
  refine vIconst X dX4_isPart_31 (v := nI (0)) (by decide) ?_
  exact vRetZ X hret (by rfl) dX4_isPart_32 ⟨rfl, rfl⟩
end
section
/-- what isPart tells of any three numbers -/
def vPart (Ln Rm : Nat → Nat) (x f n : Int32) : Prop := ∃ r a b : Nat, x = nI r ∧ r < 4 ∧ f = nI a ∧ n = nI b ∧ a + b ≤ Ln (Rm r)
theorem vRow_of {x : Int32} (h : vRow x) : ∃ r, r < 4 ∧ x = nI r := by
  obtain ⟨j, h1, h2⟩ := nI_of2 (x := x) (M := nI 3) (n := 3) (by decide) (Int32.not_lt.mpr h.1) h.2
  exact ⟨j, by omega, h2⟩
theorem vOther_of {x : Int32} (h : vOther x) : ∃ r, r < 3 ∧ x = nI r := by
  obtain ⟨j, h1, h2⟩ := nI_of2 (x := x) (M := nI 2) (n := 2) (by decide) (Int32.not_lt.mpr h.1) h.2
  exact ⟨j, by omega, h2⟩
theorem vRow_nI {r : Nat} (h : r < 4) : vRow (nI r) := ⟨nI_le (by omega) (by omega), nI_le (by omega) (by omega)⟩
theorem vOther_nI {r : Nat} (h : r < 3) : vOther (nI r) := ⟨nI_le (by omega) (by omega), nI_le (by omega) (by omega)⟩
theorem mm_isPartF (l : Launch) (D : va_G) (k : Nat → ClassId) (o : Nat → Nat) (sb : Nat) (B : Nat → Nat → Int32) (Ln Rm : Nat → Nat) (Rd : Nat → Option Nat) (Pl Mk : Nat → Nat) (G : Nat → Nat → Int32) (Sz : Nat → Nat) (Kp : Nat → Int32) (th : Int32) (x f n : Int32) (hRm : ∀ r, r < 4 → Rm r < 8) (hLn : ∀ a, Ln a ≤ 256) (h : ¬ vPart Ln Rm x f n) : vCt l yX4_isPart cX4_isPart 4 (some .boolean) 1 21 0 0 D vCl (vTy k) sb [.ref (o 0), .int x, .int f, .int n] (mW k o B Ln Rm Rd Pl Mk G Sz Kp th) (vDet (some (.int (nI (0)))) (mW k o B Ln Rm Rd Pl Mk G Sz Kp th)) := by
  by_cases hx : vRow x
  · obtain ⟨r, hr, rfl⟩ := vRow_of hx
    by_cases hf : f < nI 0
    · exact mm_isPartF2 l D k o sb B Ln Rm Rd Pl Mk G Sz Kp th r f n hr hf
    · obtain ⟨a, ha, rfl⟩ := nI_of hf
      by_cases hn : n < nI 0
      · exact mm_isPartF3 l D k o sb B Ln Rm Rd Pl Mk G Sz Kp th r a n hr ha hn
      · obtain ⟨b, hb, rfl⟩ := nI_of hn
        exact mm_isPartF4 l D k o sb B Ln Rm Rd Pl Mk G Sz Kp th r a b hr (hRm r hr) (hLn _) ha hb (Nat.not_le.mp (fun q => h ⟨r, a, b, rfl, hr, rfl, rfl, q⟩))
  · exact mm_isPartF1 l D k o sb B Ln Rm Rd Pl Mk G Sz Kp th x f n hx
/-- a room that a row or a reader has -/
def mLive (Rm : Nat → Nat) (Rd : Nat → Option Nat) (a : Nat) : Prop := (∃ r, r < 4 ∧ Rm r = a) ∨ ∃ g, g < 3 ∧ Rd g = some a
/-- the first room that none has -/
def mFree (Rm : Nat → Nat) (Rd : Nat → Option Nat) (F : Nat) : Prop := F < 8 ∧ ¬ mLive Rm Rd F ∧ ∀ a, a < F → mLive Rm Rd a
def cpB (B : Nat → Nat → Int32) (F i : Nat) (Kp : Nat → Int32) : Nat → Nat → Int32 := fun a b => if a = F ∧ b < i then Kp b else B a b
theorem cpB_0 (B : Nat → Nat → Int32) (F : Nat) (Kp : Nat → Int32) : B = cpB B F 0 Kp := by
  funext a b; simp [cpB]
theorem cpB_1 (B : Nat → Nat → Int32) (F i : Nat) (Kp : Nat → Int32) : up2 (cpB B F i Kp) F i (Kp i) = cpB B F (i + 1) Kp := by
  funext a b
  simp only [up2, cpB]
  by_cases h1 : a = F <;> by_cases h2 : b = i
  · subst h2; simp [h1]
  · have : (b < i + 1) = (b < i) := by simp only [eq_iff_iff]; omega
    simp [h1, h2, this]
  · simp [h1]
  · simp [h1]
theorem cpB_congr {B : Nat → Nat → Int32} {F n : Nat} {K1 K2 : Nat → Int32} (h : ∀ j, j < n → K1 j = K2 j) : cpB B F n K1 = cpB B F n K2 := by
  funext a b
  simp only [cpB]
  by_cases q : a = F ∧ b < n
  · rw [if_pos q, if_pos q, h b q.2]
  · rw [if_neg q, if_neg q]
set_option maxHeartbeats 4000000 in
set_option maxRecDepth 100000 in
theorem mL_becomes {p : Program} {l : Launch} {e : Env} {s : State} {m : MethodId} {args : Array Value} {below : List Frame} {meth : Method} {c : Code} {Q : State → Prop} (D : va_G) (k : Nat → ClassId) (o : Nat → Nat) (sb : Nat) (B : Nat → Nat → Int32) (Ln Rm : Nat → Nat) (Rd : Nat → Option Nat) (Pl Mk : Nat → Nat) (G : Nat → Nat → Int32) (Sz : Nat → Nat) (Kp : Nat → Int32) (th : Int32) (r n F : Nat) (hF : F < 8) (hn : n ≤ 256) (X : vCX p s m args meth c cX4_becomes 5 yX4_becomes.cls (Cond.code yX4_becomes cX4_becomes 5 none :: vGW) D vCl (vTy k) sb) (hex : vV p l e ({ frames := 1, cells := 0, slots := 0, locals := 23 }) s m args below meth c 5 D vCl sb Q (mW k o (cpB B F n Kp) Ln Rm Rd Pl Mk G Sz Kp th) 0 0 40 [(4, .int (nI (n))), (3, .int (nI (F))), (0, .ref (o 0)), (1, .int (nI (r))), (2, .int (nI (n)))] []) : ∀ (z i : Nat) (B1 : Nat → Nat → Int32), i + z = n → B1 = cpB B F i Kp → vV p l e ({ frames := 1, cells := 0, slots := 0, locals := 23 }) s m args below meth c 5 D vCl sb Q (mW k o B1 Ln Rm Rd Pl Mk G Sz Kp th) 0 0 8 [(4, .int (nI (i))), (3, .int (nI (F))), (0, .ref (o 0)), (1, .int (nI (r))), (2, .int (nI (n)))] [] := by
  intro z
  induction z with
  | zero =>
    intro i B1 hi hB1
    have hin : n = i := by omega
    subst hin
    subst hB1
    refine vIload X dX4_becomes_8 0 rfl ?_
    refine vIloadN X dX4_becomes_10 4 rfl ?_
    refine vIcmpN_geT X 40 dX4_becomes_11 (by decide) (by omega) (by omega) (by omega) ?_
    refine vSub [0, 1, 2, 3, 4] [(4, .int (nI (n))), (3, .int (nI (F))), (0, .ref (o 0)), (1, .int (nI (r))), (2, .int (nI (n)))] rfl ?_
    exact hex
  | succ z ih =>
    intro i B1 hi hB1
    refine vIload X dX4_becomes_8 0 rfl ?_
    refine vIloadN X dX4_becomes_10 4 rfl ?_
    refine vIcmpN_geF X 40 dX4_becomes_11 (by decide) (by omega) (by omega) (by omega) ?_
    refine vAloadN X dX4_becomes_14 2 rfl ?_
    refine vGet X (C := RX4) (T := TX4) (N := 10) (ci := 4) (vcons inM) rfl 0 rfl 0 (by decide) (List.mem_cons_of_mem _ q_742) (fun _ h => h) rfl dX4_becomes_15 ?_
    refine vSipush X dX4_becomes_18 (v := nI (256)) (by decide) ?_
    refine vIloadN X dX4_becomes_21 1 rfl ?_
    refine vImul X dX4_becomes_22 (v := nI ((256) * (F))) (pk_mul _ _) ?_
    refine vIload X dX4_becomes_23 0 rfl ?_
    refine vIadd X dX4_becomes_25 (v := nI (((256) * (F)) + (i))) (nI_add _ _) ?_
    refine vAloadN X dX4_becomes_26 2 rfl ?_
    refine vGet X (C := RX4) (T := TX4) (N := 10) (ci := 4) (vcons inM) rfl 0 rfl 8 (by decide) (List.mem_cons_of_mem _ q_750) (fun _ h => h) rfl dX4_becomes_27 ?_
    refine vIload X dX4_becomes_30 0 rfl ?_
    refine vIaload X (v := Kp (i)) 9 1 rfl rfl rfl (by omega) (by decide) rfl dX4_becomes_32 ?_
    refine vIastore X (g := fl2 (up2 B1 (F) (i) (Kp (i)))) 1 1 rfl rfl rfl (by omega) (by decide) (fl2_up _ _ (X := F) (Y := i) (by omega) (by omega)) dX4_becomes_33 ?_
    refine vWs (ws' := mW k o (up2 B1 (F) (i) (Kp (i))) Ln Rm Rd Pl Mk G Sz Kp th) rfl ?_
    refine vIinc X [(4, .int (nI (i + 1))), (3, .int (nI (F))), (0, .ref (o 0)), (1, .int (nI (r))), (2, .int (nI (n)))] dX4_becomes_34 0 rfl (nI_inc _) (by decide) rfl ?_
    refine vGoto X 8 dX4_becomes_37 (by decide) ?_
    refine vSub [0, 1, 2, 3, 4] [(4, .int (nI (i + 1))), (3, .int (nI (F))), (0, .ref (o 0)), (1, .int (nI (r))), (2, .int (nI (n)))] rfl ?_
    exact ih (i + 1) _ (by omega) (by rw [hB1]; exact cpB_1 _ _ _ _)
def bI (b : Bool) : Int32 := if b then nI 1 else nI 0
theorem nar_bI (b : Bool) : narrow .boolean (.int (bI b)) = .int (bI b) := by cases b <;> rfl
theorem bI_1 (b : Bool) : bI b &&& nI 1 = bI b := by cases b <;> rfl
theorem bI_0 (b : Bool) : bI b &&& nI 0 = bI false := by cases b <;> rfl
def rowsHas (Rm : Nat → Nat) (a : Nat) : Nat → Bool
  | 0 => false
  | i + 1 => rowsHas Rm a i || decide (Rm i = a)
def rdsHas (Rd : Nat → Option Nat) (a : Nat) : Nat → Bool
  | 0 => false
  | i + 1 => rdsHas Rd a i || decide (Rd i = some a)
theorem rowsHas_iff (Rm : Nat → Nat) (a : Nat) : ∀ i, rowsHas Rm a i = true ↔ ∃ r, r < i ∧ Rm r = a
  | 0 => by simp [rowsHas]
  | i + 1 => by
    rw [rowsHas, Bool.or_eq_true, rowsHas_iff Rm a i, decide_eq_true_eq]
    constructor
    · rintro (⟨r, h1, h2⟩ | h)
      · exact ⟨r, by omega, h2⟩
      · exact ⟨i, by omega, h⟩
    · rintro ⟨r, h1, h2⟩
      rcases Nat.lt_or_ge r i with q | q
      · exact Or.inl ⟨r, q, h2⟩
      · have : r = i := by omega
        subst this
        exact Or.inr h2
theorem rdsHas_iff (Rd : Nat → Option Nat) (a : Nat) : ∀ i, rdsHas Rd a i = true ↔ ∃ r, r < i ∧ Rd r = some a
  | 0 => by simp [rdsHas]
  | i + 1 => by
    rw [rdsHas, Bool.or_eq_true, rdsHas_iff Rd a i, decide_eq_true_eq]
    constructor
    · rintro (⟨r, h1, h2⟩ | h)
      · exact ⟨r, by omega, h2⟩
      · exact ⟨i, by omega, h⟩
    · rintro ⟨r, h1, h2⟩
      rcases Nat.lt_or_ge r i with q | q
      · exact Or.inl ⟨r, q, h2⟩
      · have : r = i := by omega
        subst this
        exact Or.inr h2
theorem oI_eq {r : Option Nat} {a : Nat} (h : oI r = nI a) (hr : ∀ b, r = some b → b < 8) (ha : a < 2 ^ 31) : r = some a := by
  cases r with
  | none =>
    have h1 : (oI none).toInt = (nI a).toInt := congrArg Int32.toInt h
    rw [nI_toInt ha] at h1
    have h2 : (oI none).toInt = -1 := by decide
    omega
  | some b =>
    have := hr b rfl
    rw [(nI_eq (by omega) ha).mp h]
theorem oI_ne {r : Option Nat} {a : Nat} (h : ¬ oI r = nI a) : ¬ r = some a := fun q => h (by rw [q]; rfl)
set_option maxHeartbeats 4000000 in
set_option maxRecDepth 100000 in
theorem mL_free1 {p : Program} {l : Launch} {e : Env} {s : State} {m : MethodId} {args : Array Value} {below : List Frame} {meth : Method} {c : Code} {Q : State → Prop} (D : va_G) (k : Nat → ClassId) (o : Nat → Nat) (sb : Nat) (B : Nat → Nat → Int32) (Ln Rm : Nat → Nat) (Rd : Nat → Option Nat) (Pl Mk : Nat → Nat) (G : Nat → Nat → Int32) (Sz : Nat → Nat) (Kp : Nat → Int32) (th : Int32) (a : Nat) (ha : a < 8) (hRm : ∀ r, r < 4 → Rm r < 8) (X : vCX p s m args meth c cX4_free 4 yX4_free.cls (Cond.code yX4_free cX4_free 4 (some .int) :: vGW) D vCl (vTy k) sb) (hex : vV p l e ({ frames := 0, cells := 0, slots := 0, locals := 0 }) s m args below meth c 4 D vCl sb Q (mW k o B Ln Rm Rd Pl Mk G Sz Kp th) 0 0 41 [(2, .int (bI (!rowsHas Rm a 4))), (1, .int (nI (a))), (0, .ref (o 0))] []) : ∀ (z i : Nat) (v1 : Int32), i + z = 4 → v1 = bI (!rowsHas Rm a i) → vV p l e ({ frames := 0, cells := 0, slots := 0, locals := 0 }) s m args below meth c 4 D vCl sb Q (mW k o B Ln Rm Rd Pl Mk G Sz Kp th) 0 0 12 [(3, .int (nI (i))), (2, .int (v1)), (1, .int (nI (a))), (0, .ref (o 0))] [] := by
  intro z
  induction z with
  | zero =>
    intro i v1 hi hv1
    have hin : 4 = i := by omega
    subst hin
    subst hv1
    refine vIloadN X dX4_free_12 0 rfl ?_
    refine vIconst X dX4_free_13 (v := nI (4)) (by decide) ?_
    refine vIcmpN_geT X 41 dX4_free_14 (by decide) (by omega) (by omega) (by omega) ?_
    refine vSub [1, 2, 3] [(2, .int (bI (!rowsHas Rm a 4))), (1, .int (nI (a))), (0, .ref (o 0))] rfl ?_
    exact hex
  | succ z ih =>
    intro i v1 hi hv1
    have hRi := hRm i (by omega)
    refine vIloadN X dX4_free_12 0 rfl ?_
    refine vIconst X dX4_free_13 (v := nI (4)) (by decide) ?_
    refine vIcmpN_geF X 41 dX4_free_14 (by decide) (by omega) (by omega) (by omega) ?_
    refine vIloadN X dX4_free_17 1 rfl ?_
    refine vAloadN X dX4_free_18 3 rfl ?_
    refine vGet X (C := RX4) (T := TX4) (N := 10) (ci := 4) (vcons inM) rfl 0 rfl 2 (by decide) (List.mem_cons_of_mem _ q_744) (fun _ h => h) rfl dX4_free_19 ?_
    refine vIloadN X dX4_free_22 0 rfl ?_
    refine vIaload X (v := nI (Rm (i))) 3 1 rfl rfl rfl (by omega) (by decide) rfl dX4_free_23 ?_
    refine vIloadN X dX4_free_24 2 rfl ?_
    refine vIcmp_eq X 32 dX4_free_25 (by decide) (fun hc25 => ?_) (fun hc25 => ?_)
    · have hc25 := (nI_eq (by omega) (by omega)).mp hc25
      refine vIconst X dX4_free_32 (v := nI (0)) (by decide) ?_
      refine vIand X dX4_free_33 (v := (v1) &&& (nI (0))) rfl ?_
      refine vIstoreN X [(2, .int ((v1) &&& (nI (0)))), (3, .int (nI (i))), (1, .int (nI (a))), (0, .ref (o 0))] dX4_free_34 (by decide) rfl ?_
      refine vIinc X [(3, .int (nI (i + 1))), (2, .int ((v1) &&& (nI (0)))), (1, .int (nI (a))), (0, .ref (o 0))] dX4_free_35 1 rfl (nI_inc _) (by decide) rfl ?_
      refine vGoto X 12 dX4_free_38 (by decide) ?_
      refine vSub [0, 1, 2, 3] [(3, .int (nI (i + 1))), (2, .int ((v1) &&& (nI (0)))), (1, .int (nI (a))), (0, .ref (o 0))] rfl ?_
      exact ih (i + 1) _ (by omega) (by subst hv1; simp [bI_0, bI_1, rowsHas, hc25])
    · have hc25 : ¬ Rm i = a := fun q => hc25 (by rw [q])
      refine vIconst X dX4_free_28 (v := nI (1)) (by decide) ?_
      refine vGoto X 33 dX4_free_29 (by decide) ?_
      refine vIand X dX4_free_33 (v := (v1) &&& (nI (1))) rfl ?_
      refine vIstoreN X [(2, .int ((v1) &&& (nI (1)))), (3, .int (nI (i))), (1, .int (nI (a))), (0, .ref (o 0))] dX4_free_34 (by decide) rfl ?_
      refine vIinc X [(3, .int (nI (i + 1))), (2, .int ((v1) &&& (nI (1)))), (1, .int (nI (a))), (0, .ref (o 0))] dX4_free_35 1 rfl (nI_inc _) (by decide) rfl ?_
      refine vGoto X 12 dX4_free_38 (by decide) ?_
      refine vSub [0, 1, 2, 3] [(3, .int (nI (i + 1))), (2, .int ((v1) &&& (nI (1)))), (1, .int (nI (a))), (0, .ref (o 0))] rfl ?_
      exact ih (i + 1) _ (by omega) (by subst hv1; simp [bI_0, bI_1, rowsHas, hc25])
set_option maxHeartbeats 4000000 in
set_option maxRecDepth 100000 in
theorem mL_free2 {p : Program} {l : Launch} {e : Env} {s : State} {m : MethodId} {args : Array Value} {below : List Frame} {meth : Method} {c : Code} {Q : State → Prop} (D : va_G) (k : Nat → ClassId) (o : Nat → Nat) (sb : Nat) (B : Nat → Nat → Int32) (Ln Rm : Nat → Nat) (Rd : Nat → Option Nat) (Pl Mk : Nat → Nat) (G : Nat → Nat → Int32) (Sz : Nat → Nat) (Kp : Nat → Int32) (th : Int32) (a : Nat) (ha : a < 8) (hRd : ∀ g, g < 3 → ∀ b, Rd g = some b → b < 8) (X : vCX p s m args meth c cX4_free 4 yX4_free.cls (Cond.code yX4_free cX4_free 4 (some .int) :: vGW) D vCl (vTy k) sb) (hex : vV p l e ({ frames := 0, cells := 0, slots := 0, locals := 0 }) s m args below meth c 4 D vCl sb Q (mW k o B Ln Rm Rd Pl Mk G Sz Kp th) 0 0 72 [(2, .int (bI (!rowsHas Rm a 4 && !rdsHas Rd a 3))), (1, .int (nI (a))), (0, .ref (o 0))] []) : ∀ (z i : Nat) (v1 : Int32), i + z = 3 → v1 = bI (!rowsHas Rm a 4 && !rdsHas Rd a i) → vV p l e ({ frames := 0, cells := 0, slots := 0, locals := 0 }) s m args below meth c 4 D vCl sb Q (mW k o B Ln Rm Rd Pl Mk G Sz Kp th) 0 0 43 [(3, .int (nI (i))), (2, .int (v1)), (1, .int (nI (a))), (0, .ref (o 0))] [] := by
  intro z
  induction z with
  | zero =>
    intro i v1 hi hv1
    have hin : 3 = i := by omega
    subst hin
    subst hv1
    refine vIloadN X dX4_free_43 0 rfl ?_
    refine vIconst X dX4_free_44 (v := nI (3)) (by decide) ?_
    refine vIcmpN_geT X 72 dX4_free_45 (by decide) (by omega) (by omega) (by omega) ?_
    refine vSub [1, 2, 3] [(2, .int (bI (!rowsHas Rm a 4 && !rdsHas Rd a 3))), (1, .int (nI (a))), (0, .ref (o 0))] rfl ?_
    exact hex
  | succ z ih =>
    intro i v1 hi hv1
    refine vIloadN X dX4_free_43 0 rfl ?_
    refine vIconst X dX4_free_44 (v := nI (3)) (by decide) ?_
    refine vIcmpN_geF X 72 dX4_free_45 (by decide) (by omega) (by omega) (by omega) ?_
    refine vIloadN X dX4_free_48 1 rfl ?_
    refine vAloadN X dX4_free_49 3 rfl ?_
    refine vGet X (C := RX4) (T := TX4) (N := 10) (ci := 4) (vcons inM) rfl 0 rfl 3 (by decide) (List.mem_cons_of_mem _ q_745) (fun _ h => h) rfl dX4_free_50 ?_
    refine vIloadN X dX4_free_53 0 rfl ?_
    refine vIaload X (v := oI (Rd (i))) 4 1 rfl rfl rfl (by omega) (by decide) rfl dX4_free_54 ?_
    refine vIloadN X dX4_free_55 2 rfl ?_
    refine vIcmp_eq X 63 dX4_free_56 (by decide) (fun hc56 => ?_) (fun hc56 => ?_)
    · have hc56 := oI_eq hc56 (hRd i (by omega)) (by omega)
      refine vIconst X dX4_free_63 (v := nI (0)) (by decide) ?_
      refine vIand X dX4_free_64 (v := (v1) &&& (nI (0))) rfl ?_
      refine vIstoreN X [(2, .int ((v1) &&& (nI (0)))), (3, .int (nI (i))), (1, .int (nI (a))), (0, .ref (o 0))] dX4_free_65 (by decide) rfl ?_
      refine vIinc X [(3, .int (nI (i + 1))), (2, .int ((v1) &&& (nI (0)))), (1, .int (nI (a))), (0, .ref (o 0))] dX4_free_66 1 rfl (nI_inc _) (by decide) rfl ?_
      refine vGoto X 43 dX4_free_69 (by decide) ?_
      refine vSub [0, 1, 2, 3] [(3, .int (nI (i + 1))), (2, .int ((v1) &&& (nI (0)))), (1, .int (nI (a))), (0, .ref (o 0))] rfl ?_
      exact ih (i + 1) _ (by omega) (by subst hv1; cases hh : rowsHas Rm a 4 <;> simp [bI_0, bI_1, rdsHas, hc56])
    · have hc56 := oI_ne hc56
      refine vIconst X dX4_free_59 (v := nI (1)) (by decide) ?_
      refine vGoto X 64 dX4_free_60 (by decide) ?_
      refine vIand X dX4_free_64 (v := (v1) &&& (nI (1))) rfl ?_
      refine vIstoreN X [(2, .int ((v1) &&& (nI (1)))), (3, .int (nI (i))), (1, .int (nI (a))), (0, .ref (o 0))] dX4_free_65 (by decide) rfl ?_
      refine vIinc X [(3, .int (nI (i + 1))), (2, .int ((v1) &&& (nI (1)))), (1, .int (nI (a))), (0, .ref (o 0))] dX4_free_66 1 rfl (nI_inc _) (by decide) rfl ?_
      refine vGoto X 43 dX4_free_69 (by decide) ?_
      refine vSub [0, 1, 2, 3] [(3, .int (nI (i + 1))), (2, .int ((v1) &&& (nI (1)))), (1, .int (nI (a))), (0, .ref (o 0))] rfl ?_
      exact ih (i + 1) _ (by omega) (by subst hv1; cases hh : rowsHas Rm a 4 <;> simp [bI_0, bI_1, rdsHas, hc56])
theorem mLive_iff (Rm : Nat → Nat) (Rd : Nat → Option Nat) (a : Nat) : (!rowsHas Rm a 4 && !rdsHas Rd a 3) = false ↔ mLive Rm Rd a := by
  have h1 := rowsHas_iff Rm a 4
  have h2 := rdsHas_iff Rd a 3
  unfold mLive
  rw [← h1, ← h2]
  cases rowsHas Rm a 4 <;> cases rdsHas Rd a 3 <;> simp
set_option maxHeartbeats 4000000 in
set_option maxRecDepth 100000 in
theorem mL_free {p : Program} {l : Launch} {e : Env} {s : State} {m : MethodId} {args : Array Value} {below : List Frame} {meth : Method} {c : Code} {Q : State → Prop} (D : va_G) (k : Nat → ClassId) (o : Nat → Nat) (sb : Nat) (B : Nat → Nat → Int32) (Ln Rm : Nat → Nat) (Rd : Nat → Option Nat) (Pl Mk : Nat → Nat) (G : Nat → Nat → Int32) (Sz : Nat → Nat) (Kp : Nat → Int32) (th : Int32) (F : Nat) (hF : mFree Rm Rd F) (hRm : ∀ r, r < 4 → Rm r < 8) (hRd : ∀ g, g < 3 → ∀ b, Rd g = some b → b < 8) (X : vCX p s m args meth c cX4_free 4 yX4_free.cls (Cond.code yX4_free cX4_free 4 (some .int) :: vGW) D vCl (vTy k) sb) (hex : vV p l e ({ frames := 0, cells := 0, slots := 0, locals := 0 }) s m args below meth c 4 D vCl sb Q (mW k o B Ln Rm Rd Pl Mk G Sz Kp th) 0 0 76 [(1, .int (nI (F))), (0, .ref (o 0))] []) : ∀ (z i : Nat) , i + z = F → vV p l e ({ frames := 0, cells := 0, slots := 0, locals := 0 }) s m args below meth c 4 D vCl sb Q (mW k o B Ln Rm Rd Pl Mk G Sz Kp th) 0 0 2 [(1, .int (nI (i))), (0, .ref (o 0))] [] := by
  intro z
  induction z with
  | zero =>
    intro i  hi 
    have hin : F = i := by omega
    subst hin
    have hF8 := hF.1
    have hlv : (!rowsHas Rm F 4 && !rdsHas Rd F 3) = true := by
      cases hb : (!rowsHas Rm F 4 && !rdsHas Rd F 3) with
      | true => rfl
      | false => exact absurd ((mLive_iff _ _ _).mp hb) hF.2.1
    refine vIloadN X dX4_free_2 0 rfl ?_
    refine vBipush X dX4_free_3 (v := nI (8)) (by decide) ?_
    refine vIcmpN_geF X 84 dX4_free_5 (by decide) (by omega) (by omega) (by omega) ?_
    refine vIconst X dX4_free_8 (v := nI (1)) (by decide) ?_
    refine vIstoreN X [(2, .int (nI (1))), (1, .int (nI (F))), (0, .ref (o 0))] dX4_free_9 (by decide) rfl ?_
    refine vIconst X dX4_free_10 (v := nI (0)) (by decide) ?_
    refine vIstoreN X [(3, .int (nI (0))), (2, .int (nI (1))), (1, .int (nI (F))), (0, .ref (o 0))] dX4_free_11 (by decide) rfl ?_
    refine vSub [0, 1, 2, 3] [(3, .int (nI (0))), (2, .int (nI (1))), (1, .int (nI (F))), (0, .ref (o 0))] rfl ?_
    refine mL_free1 D k o sb B Ln Rm Rd Pl Mk G Sz Kp th F (by omega) hRm X ?_ (4) 0 _ (by omega) rfl
    refine vIconst X dX4_free_41 (v := nI (0)) (by decide) ?_
    refine vIstoreN X [(3, .int (nI (0))), (2, .int (bI (!rowsHas Rm F 4))), (1, .int (nI (F))), (0, .ref (o 0))] dX4_free_42 (by decide) rfl ?_
    refine vSub [0, 1, 2, 3] [(3, .int (nI (0))), (2, .int (bI (!rowsHas Rm F 4))), (1, .int (nI (F))), (0, .ref (o 0))] rfl ?_
    refine mL_free2 D k o sb B Ln Rm Rd Pl Mk G Sz Kp th F (by omega) hRd X ?_ (3) 0 _ (by omega) (by simp [rdsHas])
    refine vIloadN X dX4_free_72 0 rfl ?_
    refine vIf_eqF X 78 dX4_free_73 (by decide) (by rw [hlv]; decide) ?_
    refine vSub [1, 2] [(1, .int (nI (F))), (0, .ref (o 0))] rfl ?_
    exact hex
  | succ z ih =>
    intro i  hi 
    have hF8 := hF.1
    have hlv : (!rowsHas Rm i 4 && !rdsHas Rd i 3) = false := (mLive_iff _ _ _).mpr (hF.2.2 i (by omega))
    refine vIloadN X dX4_free_2 0 rfl ?_
    refine vBipush X dX4_free_3 (v := nI (8)) (by decide) ?_
    refine vIcmpN_geF X 84 dX4_free_5 (by decide) (by omega) (by omega) (by omega) ?_
    refine vIconst X dX4_free_8 (v := nI (1)) (by decide) ?_
    refine vIstoreN X [(2, .int (nI (1))), (1, .int (nI (i))), (0, .ref (o 0))] dX4_free_9 (by decide) rfl ?_
    refine vIconst X dX4_free_10 (v := nI (0)) (by decide) ?_
    refine vIstoreN X [(3, .int (nI (0))), (2, .int (nI (1))), (1, .int (nI (i))), (0, .ref (o 0))] dX4_free_11 (by decide) rfl ?_
    refine vSub [0, 1, 2, 3] [(3, .int (nI (0))), (2, .int (nI (1))), (1, .int (nI (i))), (0, .ref (o 0))] rfl ?_
    refine mL_free1 D k o sb B Ln Rm Rd Pl Mk G Sz Kp th i (by omega) hRm X ?_ (4) 0 _ (by omega) rfl
    refine vIconst X dX4_free_41 (v := nI (0)) (by decide) ?_
    refine vIstoreN X [(3, .int (nI (0))), (2, .int (bI (!rowsHas Rm i 4))), (1, .int (nI (i))), (0, .ref (o 0))] dX4_free_42 (by decide) rfl ?_
    refine vSub [0, 1, 2, 3] [(3, .int (nI (0))), (2, .int (bI (!rowsHas Rm i 4))), (1, .int (nI (i))), (0, .ref (o 0))] rfl ?_
    refine mL_free2 D k o sb B Ln Rm Rd Pl Mk G Sz Kp th i (by omega) hRd X ?_ (3) 0 _ (by omega) (by simp [rdsHas])
    refine vIloadN X dX4_free_72 0 rfl ?_
    refine vIf_eqT X 78 dX4_free_73 (by decide) (by rw [hlv]; rfl) ?_
    refine vIinc X [(1, .int (nI (i + 1))), (2, .int (bI (!rowsHas Rm i 4 && !rdsHas Rd i 3))), (0, .ref (o 0))] dX4_free_78 1 rfl (nI_inc _) (by decide) rfl ?_
    refine vGoto X 2 dX4_free_81 (by decide) ?_
    refine vSub [0, 2] [(1, .int (nI (i + 1))), (0, .ref (o 0))] rfl ?_
    exact ih (i + 1) (by omega)
end
section
theorem lb_toInt (x : Int32) : (lb x).toInt = ((x.toBitVec.toNat : Int)).bmod 256 := by
  unfold lb
  rw [Int8.toInt_toInt32, Int32.toInt_toInt8]
  have h : x.toInt = (x.toBitVec.toNat : Int).bmod (2 ^ 32) := by
    show x.toBitVec.toInt = _
    exact BitVec.toInt_eq_toNat_bmod _
  rw [h, Int.bmod_bmod_of_dvd (by decide)]
theorem low_lt {x : Int32} (h : x &&& nI 255 < nI 128) : x &&& nI 255 = lb x := by
  rw [pk_and x (m := nI 255) 8 (by decide)] at h ⊢
  have h1 := (nI_ltI (by omega) (by omega)).mp h
  apply Int32.toInt_inj.mp
  rw [lb_toInt, nI_toInt (by omega), Int.bmod_def]
  split <;> omega
theorem low_ge {x : Int32} (h : nI 128 ≤ x &&& nI 255) : (x &&& nI 255) - nI 256 = lb x := by
  rw [pk_and x (m := nI 255) 8 (by decide)] at h ⊢
  have h1 := (nI_leI (by omega) (by omega)).mp h
  apply Int32.toInt_inj.mp
  rw [lb_toInt, Int32.toInt_sub, nI_toInt (by omega), nI_toInt (by omega), Int.bmod_eq_of_le (by omega) (by omega), Int.bmod_def]
  split <;> omega
end
section
set_option maxHeartbeats 4000000 in
set_option maxRecDepth 100000 in
theorem mm_free (l : Launch) (D : va_G) (k : Nat → ClassId) (o : Nat → Nat) (sb : Nat) (B : Nat → Nat → Int32) (Ln Rm : Nat → Nat) (Rd : Nat → Option Nat) (Pl Mk : Nat → Nat) (G : Nat → Nat → Int32) (Sz : Nat → Nat) (Kp : Nat → Int32) (th : Int32) (F : Nat) (hF : mFree Rm Rd F) (hRm : ∀ r, r < 4 → Rm r < 8) (hRd : ∀ g, g < 3 → ∀ b, Rd g = some b → b < 8) : vCt l yX4_free cX4_free 4 (some .int) 0 0 0 0 D vCl (vTy k) sb [.ref (o 0)] (mW k o B Ln Rm Rd Pl Mk G Sz Kp th) (vDet (some (.int (nI (F)))) (mW k o B Ln Rm Rd Pl Mk G Sz Kp th)) := by
  have hF8 := hF.1
  refine vOf (by decide +kernel) (Nat.le_of_ble_eq_true rfl) (fun p e s m below meth c X hret _ => ?_)
  refine vIconst X dX4_free_0 (v := nI (0)) (by decide) ?_
  refine vIstoreN X [(1, .int (nI (0))), (0, .ref (o 0))] dX4_free_1 (by decide) rfl ?_
  refine vSub [0, 1] [(1, .int (nI (0))), (0, .ref (o 0))] rfl ?_
  refine mL_free D k o sb B Ln Rm Rd Pl Mk G Sz Kp th F hF hRm hRd X ?_ (F) 0  (by omega)
  refine vIloadN X dX4_free_76 0 rfl ?_
  exact vRetI X hret dX4_free_77 ⟨rfl, rfl⟩
set_option maxHeartbeats 4000000 in
set_option maxRecDepth 100000 in
theorem mm_becomes (l : Launch) (D : va_G) (k : Nat → ClassId) (o : Nat → Nat) (sb : Nat) (B : Nat → Nat → Int32) (Ln Rm : Nat → Nat) (Rd : Nat → Option Nat) (Pl Mk : Nat → Nat) (G : Nat → Nat → Int32) (Sz : Nat → Nat) (Kp : Nat → Int32) (th : Int32) (r n F : Nat) (hr : r < 4) (hn : n ≤ 256) (hF : mFree Rm Rd F) (hRm : ∀ r, r < 4 → Rm r < 8) (hRd : ∀ g, g < 3 → ∀ b, Rd g = some b → b < 8) : vCt l yX4_becomes cX4_becomes 5 none 1 23 0 0 D vCl (vTy k) sb [.ref (o 0), .int (nI (r)), .int (nI (n))] (mW k o B Ln Rm Rd Pl Mk G Sz Kp th) (vDet none (mW k o (cpB B F n Kp) (va_up Ln (F) (n)) (va_up Rm (r) (F)) Rd Pl Mk G Sz Kp th)) := by
  have hF8 := hF.1
  refine vOf (by decide +kernel) (Nat.le_of_ble_eq_true rfl) (fun p e s m below meth c X hret _ => ?_)
  refine vAloadN X dX4_becomes_0 0 rfl ?_
  refine vCallVd X [] (mm_free l D k o sb B Ln Rm Rd Pl Mk G Sz Kp th F hF hRm hRd) (vGV q_798 q_800 q_11 q_29 q_801) ⟨by decide, by decide, (show _ = some 0 from by decide +kernel)⟩ ⟨Nat.le_of_ble_eq_true rfl, Nat.le_of_ble_eq_true rfl⟩ 0 4 rfl rfl rfl rfl (Nat.le_of_ble_eq_true rfl) dX4_becomes_1 ⟨Nat.zero_le _, Nat.zero_le _⟩ ?_
  refine vIstoreN X [(3, .int (nI (F))), (0, .ref (o 0)), (1, .int (nI (r))), (2, .int (nI (n)))] dX4_becomes_4 (by decide) rfl ?_
  refine vIconst X dX4_becomes_5 (v := nI (0)) (by decide) ?_
  refine vIstore X [(4, .int (nI (0))), (3, .int (nI (F))), (0, .ref (o 0)), (1, .int (nI (r))), (2, .int (nI (n)))] dX4_becomes_6 (by decide) rfl ?_
  refine vSub [0, 1, 2, 3, 4] [(4, .int (nI (0))), (3, .int (nI (F))), (0, .ref (o 0)), (1, .int (nI (r))), (2, .int (nI (n)))] rfl ?_
  refine mL_becomes D k o sb B Ln Rm Rd Pl Mk G Sz Kp th r n F hF8 hn X ?_ (n) 0 _ (by omega) (cpB_0 _ _ _)
  refine vAloadN X dX4_becomes_40 2 rfl ?_
  refine vGet X (C := RX4) (T := TX4) (N := 10) (ci := 4) (vcons inM) rfl 0 rfl 1 (by decide) (List.mem_cons_of_mem _ q_743) (fun _ h => h) rfl dX4_becomes_41 ?_
  refine vIloadN X dX4_becomes_44 1 rfl ?_
  refine vIloadN X dX4_becomes_45 4 rfl ?_
  refine vIastore X (g := (fun q => nI ((va_up Ln (F) (n)) q))) 2 1 rfl rfl rfl (by omega) (by decide) (nI_up _ _ _) dX4_becomes_46 ?_
  refine vWs (ws' := mW k o (cpB B F n Kp) (va_up Ln (F) (n)) Rm Rd Pl Mk G Sz Kp th) rfl ?_
  refine vAloadN X dX4_becomes_47 2 rfl ?_
  refine vGet X (C := RX4) (T := TX4) (N := 10) (ci := 4) (vcons inM) rfl 0 rfl 2 (by decide) (List.mem_cons_of_mem _ q_744) (fun _ h => h) rfl dX4_becomes_48 ?_
  refine vIloadN X dX4_becomes_51 3 rfl ?_
  refine vIloadN X dX4_becomes_52 1 rfl ?_
  refine vIastore X (g := (fun q => nI ((va_up Rm (r) (F)) q))) 3 1 rfl rfl rfl (by omega) (by decide) (nI_up _ _ _) dX4_becomes_53 ?_
  refine vWs (ws' := mW k o (cpB B F n Kp) (va_up Ln (F) (n)) (va_up Rm (r) (F)) Rd Pl Mk G Sz Kp th) rfl ?_
  exact vRetV X hret dX4_becomes_54 ⟨rfl, rfl⟩
set_option maxHeartbeats 4000000 in
set_option maxRecDepth 100000 in
theorem mm_make1 (l : Launch) (D : va_G) (k : Nat → ClassId) (o : Nat → Nat) (sb : Nat) (B : Nat → Nat → Int32) (Ln Rm : Nat → Nat) (Rd : Nat → Option Nat) (Pl Mk : Nat → Nat) (G : Nat → Nat → Int32) (Sz : Nat → Nat) (Kp : Nat → Int32) (th : Int32) (x y : Int32) (hx : ¬ vRow x) : vCt l yX4_make cX4_make 5 (some .int) 2 47 0 0 D vCl (vTy k) sb [.ref (o 0), .int (x), .int (y)] (mW k o B Ln Rm Rd Pl Mk G Sz Kp th) (vDet (some (.int (nI (0)))) (mW k o B Ln Rm Rd Pl Mk G Sz Kp (nI (1)))) := by
  refine vOf (by decide +kernel) (Nat.le_of_ble_eq_true rfl) (fun p e s m below meth c X hret _ => ?_)
  refine vAloadN X dX4_make_0 0 rfl ?_
  refine vAloadN X dX4_make_1 0 rfl ?_
  refine vIloadN X dX4_make_2 1 rfl ?_
  refine vCallVd X [.ref (o 0)] (mm_isRowF l D k o sb B Ln Rm Rd Pl Mk G Sz Kp th x hx) (vGV q_782 q_784 q_7 q_29 q_785) ⟨by decide, by decide, (show _ = some 1 from by decide +kernel)⟩ ⟨Nat.le_of_ble_eq_true rfl, Nat.le_of_ble_eq_true rfl⟩ 0 4 rfl rfl rfl rfl (Nat.le_of_ble_eq_true rfl) dX4_make_3 ⟨Nat.zero_le _, Nat.zero_le _⟩ ?_
  refine vIfN_neF X 13 dX4_make_6 (by decide) (by omega) (by omega) ?_
  refine vIconst X dX4_make_9 (v := nI (1)) (by decide) ?_
  refine vGoto X 29 dX4_make_10 (by decide) ?_
  refine vCallVd X [] (mm_isWrong1 l D k o sb B Ln Rm Rd Pl Mk G Sz Kp th 1 (by decide) (by decide)) (vGV q_786 q_788 q_8 q_29 q_789) ⟨by decide, by decide, (show _ = some 1 from by decide +kernel)⟩ ⟨Nat.le_of_ble_eq_true rfl, Nat.le_of_ble_eq_true rfl⟩ 0 4 rfl rfl rfl rfl (Nat.le_of_ble_eq_true rfl) dX4_make_29 ⟨Nat.zero_le _, Nat.zero_le _⟩ ?_
  refine vIfN_eqF X 37 dX4_make_32 (by decide) (by omega) (by omega) ?_
  refine vIconst X dX4_make_35 (v := nI (0)) (by decide) ?_
  exact vRetI X hret dX4_make_36 ⟨rfl, rfl⟩
set_option maxHeartbeats 4000000 in
set_option maxRecDepth 100000 in
theorem mm_make2a (l : Launch) (D : va_G) (k : Nat → ClassId) (o : Nat → Nat) (sb : Nat) (B : Nat → Nat → Int32) (Ln Rm : Nat → Nat) (Rd : Nat → Option Nat) (Pl Mk : Nat → Nat) (G : Nat → Nat → Int32) (Sz : Nat → Nat) (Kp : Nat → Int32) (th : Int32) (r : Nat) (y : Int32) (hr : r < 4) (hy : y < nI 0) : vCt l yX4_make cX4_make 5 (some .int) 2 47 0 0 D vCl (vTy k) sb [.ref (o 0), .int (nI (r)), .int (y)] (mW k o B Ln Rm Rd Pl Mk G Sz Kp th) (vDet (some (.int (nI (0)))) (mW k o B Ln Rm Rd Pl Mk G Sz Kp (nI (2)))) := by
  refine vOf (by decide +kernel) (Nat.le_of_ble_eq_true rfl) (fun p e s m below meth c X hret _ => ?_)
  refine vAloadN X dX4_make_0 0 rfl ?_
  refine vAloadN X dX4_make_1 0 rfl ?_
  refine vIloadN X dX4_make_2 1 rfl ?_
  refine vCallVd X [.ref (o 0)] (mm_isRowT l D k o sb B Ln Rm Rd Pl Mk G Sz Kp th r (by omega)) (vGV q_782 q_784 q_7 q_29 q_785) ⟨by decide, by decide, (show _ = some 1 from by decide +kernel)⟩ ⟨Nat.le_of_ble_eq_true rfl, Nat.le_of_ble_eq_true rfl⟩ 0 4 rfl rfl rfl rfl (Nat.le_of_ble_eq_true rfl) dX4_make_3 ⟨Nat.zero_le _, Nat.zero_le _⟩ ?_
  refine vIfN_neT X 13 dX4_make_6 (by decide) (by omega) (by omega) ?_
  refine vIloadN X dX4_make_13 2 rfl ?_
  refine vIf_ltT X 24 dX4_make_14 (by decide) (by first | assumption | exact Int32.not_lt.mpr (by assumption) | exact Int32.not_le.mpr (by assumption) | exact Int32.not_lt.mp (by assumption) | exact Int32.not_le.mp (by assumption) | decide) ?_
  refine vIconst X dX4_make_24 (v := nI (2)) (by decide) ?_
  refine vGoto X 29 dX4_make_25 (by decide) ?_
  refine vCallVd X [] (mm_isWrong1 l D k o sb B Ln Rm Rd Pl Mk G Sz Kp th 2 (by decide) (by decide)) (vGV q_786 q_788 q_8 q_29 q_789) ⟨by decide, by decide, (show _ = some 1 from by decide +kernel)⟩ ⟨Nat.le_of_ble_eq_true rfl, Nat.le_of_ble_eq_true rfl⟩ 0 4 rfl rfl rfl rfl (Nat.le_of_ble_eq_true rfl) dX4_make_29 ⟨Nat.zero_le _, Nat.zero_le _⟩ ?_
  refine vIfN_eqF X 37 dX4_make_32 (by decide) (by omega) (by omega) ?_
  refine vIconst X dX4_make_35 (v := nI (0)) (by decide) ?_
  exact vRetI X hret dX4_make_36 ⟨rfl, rfl⟩
set_option maxHeartbeats 4000000 in
set_option maxRecDepth 100000 in
theorem mm_make2b (l : Launch) (D : va_G) (k : Nat → ClassId) (o : Nat → Nat) (sb : Nat) (B : Nat → Nat → Int32) (Ln Rm : Nat → Nat) (Rd : Nat → Option Nat) (Pl Mk : Nat → Nat) (G : Nat → Nat → Int32) (Sz : Nat → Nat) (Kp : Nat → Int32) (th : Int32) (r : Nat) (y : Int32) (hr : r < 4) (hy0 : nI 0 ≤ y) (hy : nI 256 < y) : vCt l yX4_make cX4_make 5 (some .int) 2 47 0 0 D vCl (vTy k) sb [.ref (o 0), .int (nI (r)), .int (y)] (mW k o B Ln Rm Rd Pl Mk G Sz Kp th) (vDet (some (.int (nI (0)))) (mW k o B Ln Rm Rd Pl Mk G Sz Kp (nI (2)))) := by
  refine vOf (by decide +kernel) (Nat.le_of_ble_eq_true rfl) (fun p e s m below meth c X hret _ => ?_)
  refine vAloadN X dX4_make_0 0 rfl ?_
  refine vAloadN X dX4_make_1 0 rfl ?_
  refine vIloadN X dX4_make_2 1 rfl ?_
  refine vCallVd X [.ref (o 0)] (mm_isRowT l D k o sb B Ln Rm Rd Pl Mk G Sz Kp th r (by omega)) (vGV q_782 q_784 q_7 q_29 q_785) ⟨by decide, by decide, (show _ = some 1 from by decide +kernel)⟩ ⟨Nat.le_of_ble_eq_true rfl, Nat.le_of_ble_eq_true rfl⟩ 0 4 rfl rfl rfl rfl (Nat.le_of_ble_eq_true rfl) dX4_make_3 ⟨Nat.zero_le _, Nat.zero_le _⟩ ?_
  refine vIfN_neT X 13 dX4_make_6 (by decide) (by omega) (by omega) ?_
  refine vIloadN X dX4_make_13 2 rfl ?_
  refine vIf_ltF X 24 dX4_make_14 (by decide) (by first | assumption | exact Int32.not_lt.mpr (by assumption) | exact Int32.not_le.mpr (by assumption) | exact Int32.not_lt.mp (by assumption) | exact Int32.not_le.mp (by assumption) | decide) ?_
  refine vIloadN X dX4_make_17 2 rfl ?_
  refine vSipush X dX4_make_18 (v := nI (256)) (by decide) ?_
  refine vIcmp_leF X 28 dX4_make_21 (by decide) (by first | assumption | exact Int32.not_lt.mpr (by assumption) | exact Int32.not_le.mpr (by assumption) | exact Int32.not_lt.mp (by assumption) | exact Int32.not_le.mp (by assumption) | decide) ?_
  refine vIconst X dX4_make_24 (v := nI (2)) (by decide) ?_
  refine vGoto X 29 dX4_make_25 (by decide) ?_
  refine vCallVd X [] (mm_isWrong1 l D k o sb B Ln Rm Rd Pl Mk G Sz Kp th 2 (by decide) (by decide)) (vGV q_786 q_788 q_8 q_29 q_789) ⟨by decide, by decide, (show _ = some 1 from by decide +kernel)⟩ ⟨Nat.le_of_ble_eq_true rfl, Nat.le_of_ble_eq_true rfl⟩ 0 4 rfl rfl rfl rfl (Nat.le_of_ble_eq_true rfl) dX4_make_29 ⟨Nat.zero_le _, Nat.zero_le _⟩ ?_
  refine vIfN_eqF X 37 dX4_make_32 (by decide) (by omega) (by omega) ?_
  refine vIconst X dX4_make_35 (v := nI (0)) (by decide) ?_
  exact vRetI X hret dX4_make_36 ⟨rfl, rfl⟩
def zK (Kp : Nat → Int32) (i : Nat) : Nat → Int32 := fun j => if j < i then nI 0 else Kp j
theorem zK_0 (Kp : Nat → Int32) : Kp = zK Kp 0 := by funext j; simp [zK]
theorem zK_1 (Kp : Nat → Int32) (i : Nat) : upd (zK Kp i) i (nI 0) = zK Kp (i + 1) := by
  funext j
  simp only [upd, zK]
  by_cases h : j = i
  · simp [h]
  · have : (j < i + 1) = (j < i) := by simp only [eq_iff_iff]; omega
    simp [h, this]
-- make
set_option maxHeartbeats 4000000 in
set_option maxRecDepth 100000 in
theorem mL_make {p : Program} {l : Launch} {e : Env} {s : State} {m : MethodId} {args : Array Value} {below : List Frame} {meth : Method} {c : Code} {Q : State → Prop} (D : va_G) (k : Nat → ClassId) (o : Nat → Nat) (sb : Nat) (B : Nat → Nat → Int32) (Ln Rm : Nat → Nat) (Rd : Nat → Option Nat) (Pl Mk : Nat → Nat) (G : Nat → Nat → Int32) (Sz : Nat → Nat) (Kp : Nat → Int32) (th : Int32) (r n : Nat) (q : Int32) (hn : n ≤ 256) (X : vCX p s m args meth c cX4_make 5 yX4_make.cls (Cond.code yX4_make cX4_make 5 (some .int) :: vGW) D vCl (vTy k) sb) (hex : vV p l e ({ frames := 2, cells := 0, slots := 0, locals := 47 }) s m args below meth c 5 D vCl sb Q (mW k o B Ln Rm Rd Pl Mk G Sz (zK Kp n) th) 0 0 66 [(3, .int (q)), (0, .ref (o 0)), (1, .int (nI (r))), (2, .int (nI (n)))] []) : ∀ (z i : Nat) (K1 : Nat → Int32), i + z = n → K1 = zK Kp i → vV p l e ({ frames := 2, cells := 0, slots := 0, locals := 47 }) s m args below meth c 5 D vCl sb Q (mW k o B Ln Rm Rd Pl Mk G Sz K1 th) 0 0 46 [(4, .int (nI (i))), (3, .int (q)), (0, .ref (o 0)), (1, .int (nI (r))), (2, .int (nI (n)))] [] := by
  intro z
  induction z with
  | zero =>
    intro i K1 hi hK1
    have hin : n = i := by omega
    subst hin
    subst hK1
    refine vIload X dX4_make_46 0 rfl ?_
    refine vIloadN X dX4_make_48 4 rfl ?_
    refine vIcmpN_geT X 66 dX4_make_49 (by decide) (by omega) (by omega) (by omega) ?_
    refine vSub [1, 2, 3, 4] [(3, .int (q)), (0, .ref (o 0)), (1, .int (nI (r))), (2, .int (nI (n)))] rfl ?_
    exact hex
  | succ z ih =>
    intro i K1 hi hK1
    refine vIload X dX4_make_46 0 rfl ?_
    refine vIloadN X dX4_make_48 4 rfl ?_
    refine vIcmpN_geF X 66 dX4_make_49 (by decide) (by omega) (by omega) (by omega) ?_
    refine vAloadN X dX4_make_52 2 rfl ?_
    refine vGet X (C := RX4) (T := TX4) (N := 10) (ci := 4) (vcons inM) rfl 0 rfl 8 (by decide) (List.mem_cons_of_mem _ q_750) (fun _ h => h) rfl dX4_make_53 ?_
    refine vIload X dX4_make_56 0 rfl ?_
    refine vIconst X dX4_make_58 (v := nI (0)) (by decide) ?_
    refine vIastore X (g := upd K1 (i) (nI (0))) 9 1 rfl rfl rfl (by omega) (by decide) rfl dX4_make_59 ?_
    refine vWs (ws' := mW k o B Ln Rm Rd Pl Mk G Sz (upd K1 (i) (nI (0))) th) rfl ?_
    refine vIinc X [(4, .int (nI (i + 1))), (3, .int (q)), (0, .ref (o 0)), (1, .int (nI (r))), (2, .int (nI (n)))] dX4_make_60 0 rfl (nI_inc _) (by decide) rfl ?_
    refine vGoto X 46 dX4_make_63 (by decide) ?_
    refine vSub [0, 1, 2, 3, 4] [(4, .int (nI (i + 1))), (3, .int (q)), (0, .ref (o 0)), (1, .int (nI (r))), (2, .int (nI (n)))] rfl ?_
    exact ih (i + 1) _ (by omega) (by rw [hK1]; exact zK_1 _ _)
set_option maxHeartbeats 4000000 in
set_option maxRecDepth 100000 in
theorem mm_make0 (l : Launch) (D : va_G) (k : Nat → ClassId) (o : Nat → Nat) (sb : Nat) (B : Nat → Nat → Int32) (Ln Rm : Nat → Nat) (Rd : Nat → Option Nat) (Pl Mk : Nat → Nat) (G : Nat → Nat → Int32) (Sz : Nat → Nat) (Kp : Nat → Int32) (th : Int32) (r n F : Nat) (hr : r < 4) (hn : n ≤ 256) (hF : mFree Rm Rd F) (hRm : ∀ r, r < 4 → Rm r < 8) (hRd : ∀ g, g < 3 → ∀ b, Rd g = some b → b < 8) : vCt l yX4_make cX4_make 5 (some .int) 2 47 0 0 D vCl (vTy k) sb [.ref (o 0), .int (nI (r)), .int (nI (n))] (mW k o B Ln Rm Rd Pl Mk G Sz Kp th) (vDet (some (.int (nI (Ln (Rm r))))) (mW k o (cpB B F n (zK Kp n)) (va_up Ln F n) (va_up Rm r F) Rd Pl Mk G Sz (zK Kp n) (nI (0)))) := by
  have hRr := hRm r hr
  refine vOf (by decide +kernel) (Nat.le_of_ble_eq_true rfl) (fun p e s m below meth c X hret _ => ?_)
  refine vAloadN X dX4_make_0 0 rfl ?_
  refine vAloadN X dX4_make_1 0 rfl ?_
  refine vIloadN X dX4_make_2 1 rfl ?_
  refine vCallVd X [.ref (o 0)] (mm_isRowT l D k o sb B Ln Rm Rd Pl Mk G Sz Kp th r (by omega)) (vGV q_782 q_784 q_7 q_29 q_785) ⟨by decide, by decide, (show _ = some 1 from by decide +kernel)⟩ ⟨Nat.le_of_ble_eq_true rfl, Nat.le_of_ble_eq_true rfl⟩ 0 4 rfl rfl rfl rfl (Nat.le_of_ble_eq_true rfl) dX4_make_3 ⟨Nat.zero_le _, Nat.zero_le _⟩ ?_
  refine vIfN_neT X 13 dX4_make_6 (by decide) (by omega) (by omega) ?_
  refine vIloadN X dX4_make_13 2 rfl ?_
  refine vIfN_ltF X 24 dX4_make_14 (by decide) (by omega) (by omega) ?_
  refine vIloadN X dX4_make_17 2 rfl ?_
  refine vSipush X dX4_make_18 (v := nI (256)) (by decide) ?_
  refine vIcmpN_leT X 28 dX4_make_21 (by decide) (by omega) (by omega) (by omega) ?_
  refine vIconst X dX4_make_28 (v := nI (0)) (by decide) ?_
  refine vCallVd X [] (mm_isWrong0 l D k o sb B Ln Rm Rd Pl Mk G Sz Kp th ) (vGV q_786 q_788 q_8 q_29 q_789) ⟨by decide, by decide, (show _ = some 1 from by decide +kernel)⟩ ⟨Nat.le_of_ble_eq_true rfl, Nat.le_of_ble_eq_true rfl⟩ 0 4 rfl rfl rfl rfl (Nat.le_of_ble_eq_true rfl) dX4_make_29 ⟨Nat.zero_le _, Nat.zero_le _⟩ ?_
  refine vIfN_eqT X 37 dX4_make_32 (by decide) (by omega) (by omega) ?_
  refine vAloadN X dX4_make_37 0 rfl ?_
  refine vIloadN X dX4_make_38 1 rfl ?_
  refine vCallVd X [] (mm_long0 l D k o sb B Ln Rm Rd Pl Mk G Sz Kp (nI (0)) r (by omega) (by omega)) (vGV q_790 q_792 q_9 q_29 q_793) ⟨by decide, by decide, (show _ = some 1 from by decide +kernel)⟩ ⟨Nat.le_of_ble_eq_true rfl, Nat.le_of_ble_eq_true rfl⟩ 0 4 rfl rfl rfl rfl (Nat.le_of_ble_eq_true rfl) dX4_make_39 ⟨Nat.zero_le _, Nat.zero_le _⟩ ?_
  refine vIstoreN X [(3, .int (nI (Ln (Rm r)))), (0, .ref (o 0)), (1, .int (nI (r))), (2, .int (nI (n)))] dX4_make_42 (by decide) rfl ?_
  refine vIconst X dX4_make_43 (v := nI (0)) (by decide) ?_
  refine vIstore X [(4, .int (nI (0))), (3, .int (nI (Ln (Rm r)))), (0, .ref (o 0)), (1, .int (nI (r))), (2, .int (nI (n)))] dX4_make_44 (by decide) rfl ?_
  refine vSub [0, 1, 2, 3, 4] [(4, .int (nI (0))), (3, .int (nI (Ln (Rm r)))), (0, .ref (o 0)), (1, .int (nI (r))), (2, .int (nI (n)))] rfl ?_
  refine mL_make D k o sb B Ln Rm Rd Pl Mk G Sz Kp (nI (0)) r n (nI (Ln (Rm r))) hn X ?_ (n) 0 _ (by omega) (zK_0 _)
  refine vAloadN X dX4_make_66 1 rfl ?_
  refine vIloadN X dX4_make_67 2 rfl ?_
  refine vIloadN X dX4_make_68 3 rfl ?_
  refine vCallVd X [] (mm_becomes l D k o sb B Ln Rm Rd Pl Mk G Sz (zK Kp n) (nI (0)) r n F (by omega) (by omega) hF hRm hRd) (vGV q_794 q_796 q_10 q_29 q_797) ⟨by decide, by decide, (show _ = some 2 from by decide +kernel)⟩ ⟨Nat.le_of_ble_eq_true rfl, Nat.le_of_ble_eq_true rfl⟩ 0 4 rfl rfl rfl rfl (Nat.le_of_ble_eq_true rfl) dX4_make_69 ⟨Nat.zero_le _, Nat.zero_le _⟩ ?_
  refine vIloadN X dX4_make_72 0 rfl ?_
  exact vRetI X hret dX4_make_73 ⟨rfl, rfl⟩
set_option maxHeartbeats 4000000 in
set_option maxRecDepth 100000 in
theorem mm_lend1a (l : Launch) (D : va_G) (k : Nat → ClassId) (o : Nat → Nat) (sb : Nat) (B : Nat → Nat → Int32) (Ln Rm : Nat → Nat) (Rd : Nat → Option Nat) (Pl Mk : Nat → Nat) (G : Nat → Nat → Int32) (Sz : Nat → Nat) (Kp : Nat → Int32) (th : Int32) (x y : Int32) (hx : ¬ vRow x) : vCt l yX4_lend cX4_lend 4 (some .int) 1 21 0 0 D vCl (vTy k) sb [.ref (o 0), .int (x), .int (y)] (mW k o B Ln Rm Rd Pl Mk G Sz Kp th) (vDet (some (.int (nI (0)))) (mW k o B Ln Rm Rd Pl Mk G Sz Kp (nI (1)))) := by
  refine vOf (by decide +kernel) (Nat.le_of_ble_eq_true rfl) (fun p e s m below meth c X hret _ => ?_)
  refine vAloadN X dX4_lend_0 0 rfl ?_
  refine vAloadN X dX4_lend_1 0 rfl ?_
  refine vIloadN X dX4_lend_2 1 rfl ?_
  refine vCallVd X [.ref (o 0)] (mm_isRowF l D k o sb B Ln Rm Rd Pl Mk G Sz Kp th x hx) (vGV q_782 q_784 q_7 q_29 q_785) ⟨by decide, by decide, (show _ = some 1 from by decide +kernel)⟩ ⟨Nat.le_of_ble_eq_true rfl, Nat.le_of_ble_eq_true rfl⟩ 0 4 rfl rfl rfl rfl (Nat.le_of_ble_eq_true rfl) dX4_lend_3 ⟨Nat.zero_le _, Nat.zero_le _⟩ ?_
  refine vIfN_eqT X 21 dX4_lend_6 (by decide) (by omega) (by omega) ?_
  refine vIconst X dX4_lend_21 (v := nI (1)) (by decide) ?_
  refine vCallVd X [] (mm_isWrong1 l D k o sb B Ln Rm Rd Pl Mk G Sz Kp th 1 (by decide) (by decide)) (vGV q_786 q_788 q_8 q_29 q_789) ⟨by decide, by decide, (show _ = some 1 from by decide +kernel)⟩ ⟨Nat.le_of_ble_eq_true rfl, Nat.le_of_ble_eq_true rfl⟩ 0 4 rfl rfl rfl rfl (Nat.le_of_ble_eq_true rfl) dX4_lend_22 ⟨Nat.zero_le _, Nat.zero_le _⟩ ?_
  refine vIfN_eqF X 30 dX4_lend_25 (by decide) (by omega) (by omega) ?_
  refine vIconst X dX4_lend_28 (v := nI (0)) (by decide) ?_
  exact vRetI X hret dX4_lend_29 ⟨rfl, rfl⟩
set_option maxHeartbeats 4000000 in
set_option maxRecDepth 100000 in
theorem mm_lend1b (l : Launch) (D : va_G) (k : Nat → ClassId) (o : Nat → Nat) (sb : Nat) (B : Nat → Nat → Int32) (Ln Rm : Nat → Nat) (Rd : Nat → Option Nat) (Pl Mk : Nat → Nat) (G : Nat → Nat → Int32) (Sz : Nat → Nat) (Kp : Nat → Int32) (th : Int32) (r : Nat) (y : Int32) (hr : r < 4) (hy : ¬ vRow y) : vCt l yX4_lend cX4_lend 4 (some .int) 1 21 0 0 D vCl (vTy k) sb [.ref (o 0), .int (nI (r)), .int (y)] (mW k o B Ln Rm Rd Pl Mk G Sz Kp th) (vDet (some (.int (nI (0)))) (mW k o B Ln Rm Rd Pl Mk G Sz Kp (nI (1)))) := by
  refine vOf (by decide +kernel) (Nat.le_of_ble_eq_true rfl) (fun p e s m below meth c X hret _ => ?_)
  refine vAloadN X dX4_lend_0 0 rfl ?_
  refine vAloadN X dX4_lend_1 0 rfl ?_
  refine vIloadN X dX4_lend_2 1 rfl ?_
  refine vCallVd X [.ref (o 0)] (mm_isRowT l D k o sb B Ln Rm Rd Pl Mk G Sz Kp th r (by omega)) (vGV q_782 q_784 q_7 q_29 q_785) ⟨by decide, by decide, (show _ = some 1 from by decide +kernel)⟩ ⟨Nat.le_of_ble_eq_true rfl, Nat.le_of_ble_eq_true rfl⟩ 0 4 rfl rfl rfl rfl (Nat.le_of_ble_eq_true rfl) dX4_lend_3 ⟨Nat.zero_le _, Nat.zero_le _⟩ ?_
  refine vIfN_eqF X 21 dX4_lend_6 (by decide) (by omega) (by omega) ?_
  refine vAloadN X dX4_lend_9 0 rfl ?_
  refine vIloadN X dX4_lend_10 2 rfl ?_
  refine vCallVd X [.ref (o 0)] (mm_isRowF l D k o sb B Ln Rm Rd Pl Mk G Sz Kp th y hy) (vGV q_782 q_784 q_7 q_29 q_785) ⟨by decide, by decide, (show _ = some 1 from by decide +kernel)⟩ ⟨Nat.le_of_ble_eq_true rfl, Nat.le_of_ble_eq_true rfl⟩ 0 4 rfl rfl rfl rfl (Nat.le_of_ble_eq_true rfl) dX4_lend_11 ⟨Nat.zero_le _, Nat.zero_le _⟩ ?_
  refine vIfN_eqT X 21 dX4_lend_14 (by decide) (by omega) (by omega) ?_
  refine vIconst X dX4_lend_21 (v := nI (1)) (by decide) ?_
  refine vCallVd X [] (mm_isWrong1 l D k o sb B Ln Rm Rd Pl Mk G Sz Kp th 1 (by decide) (by decide)) (vGV q_786 q_788 q_8 q_29 q_789) ⟨by decide, by decide, (show _ = some 1 from by decide +kernel)⟩ ⟨Nat.le_of_ble_eq_true rfl, Nat.le_of_ble_eq_true rfl⟩ 0 4 rfl rfl rfl rfl (Nat.le_of_ble_eq_true rfl) dX4_lend_22 ⟨Nat.zero_le _, Nat.zero_le _⟩ ?_
  refine vIfN_eqF X 30 dX4_lend_25 (by decide) (by omega) (by omega) ?_
  refine vIconst X dX4_lend_28 (v := nI (0)) (by decide) ?_
  exact vRetI X hret dX4_lend_29 ⟨rfl, rfl⟩
set_option maxHeartbeats 4000000 in
set_option maxRecDepth 100000 in
theorem mm_lend0 (l : Launch) (D : va_G) (k : Nat → ClassId) (o : Nat → Nat) (sb : Nat) (B : Nat → Nat → Int32) (Ln Rm : Nat → Nat) (Rd : Nat → Option Nat) (Pl Mk : Nat → Nat) (G : Nat → Nat → Int32) (Sz : Nat → Nat) (Kp : Nat → Int32) (th : Int32) (r u : Nat) (hr : r < 4) (hu : u < 4) (hRm : ∀ r, r < 4 → Rm r < 8) : vCt l yX4_lend cX4_lend 4 (some .int) 1 21 0 0 D vCl (vTy k) sb [.ref (o 0), .int (nI (r)), .int (nI (u))] (mW k o B Ln Rm Rd Pl Mk G Sz Kp th) (vDet (some (.int (nI (Ln (Rm u))))) (mW k o B Ln (va_up Rm (u) (Rm (r))) Rd Pl Mk G Sz Kp (nI (0)))) := by
  have hRr := hRm r hr
  have hRu := hRm u hu
  refine vOf (by decide +kernel) (Nat.le_of_ble_eq_true rfl) (fun p e s m below meth c X hret _ => ?_)
  refine vAloadN X dX4_lend_0 0 rfl ?_
  refine vAloadN X dX4_lend_1 0 rfl ?_
  refine vIloadN X dX4_lend_2 1 rfl ?_
  refine vCallVd X [.ref (o 0)] (mm_isRowT l D k o sb B Ln Rm Rd Pl Mk G Sz Kp th r (by omega)) (vGV q_782 q_784 q_7 q_29 q_785) ⟨by decide, by decide, (show _ = some 1 from by decide +kernel)⟩ ⟨Nat.le_of_ble_eq_true rfl, Nat.le_of_ble_eq_true rfl⟩ 0 4 rfl rfl rfl rfl (Nat.le_of_ble_eq_true rfl) dX4_lend_3 ⟨Nat.zero_le _, Nat.zero_le _⟩ ?_
  refine vIfN_eqF X 21 dX4_lend_6 (by decide) (by omega) (by omega) ?_
  refine vAloadN X dX4_lend_9 0 rfl ?_
  refine vIloadN X dX4_lend_10 2 rfl ?_
  refine vCallVd X [.ref (o 0)] (mm_isRowT l D k o sb B Ln Rm Rd Pl Mk G Sz Kp th u (by omega)) (vGV q_782 q_784 q_7 q_29 q_785) ⟨by decide, by decide, (show _ = some 1 from by decide +kernel)⟩ ⟨Nat.le_of_ble_eq_true rfl, Nat.le_of_ble_eq_true rfl⟩ 0 4 rfl rfl rfl rfl (Nat.le_of_ble_eq_true rfl) dX4_lend_11 ⟨Nat.zero_le _, Nat.zero_le _⟩ ?_
  refine vIfN_eqF X 21 dX4_lend_14 (by decide) (by omega) (by omega) ?_
  refine vIconst X dX4_lend_17 (v := nI (0)) (by decide) ?_
  refine vGoto X 22 dX4_lend_18 (by decide) ?_
  refine vCallVd X [] (mm_isWrong0 l D k o sb B Ln Rm Rd Pl Mk G Sz Kp th ) (vGV q_786 q_788 q_8 q_29 q_789) ⟨by decide, by decide, (show _ = some 1 from by decide +kernel)⟩ ⟨Nat.le_of_ble_eq_true rfl, Nat.le_of_ble_eq_true rfl⟩ 0 4 rfl rfl rfl rfl (Nat.le_of_ble_eq_true rfl) dX4_lend_22 ⟨Nat.zero_le _, Nat.zero_le _⟩ ?_
  refine vIfN_eqT X 30 dX4_lend_25 (by decide) (by omega) (by omega) ?_
  refine vAloadN X dX4_lend_30 0 rfl ?_
  refine vIloadN X dX4_lend_31 2 rfl ?_
  refine vCallVd X [] (mm_long0 l D k o sb B Ln Rm Rd Pl Mk G Sz Kp (nI (0)) u (by omega) (by omega)) (vGV q_790 q_792 q_9 q_29 q_793) ⟨by decide, by decide, (show _ = some 1 from by decide +kernel)⟩ ⟨Nat.le_of_ble_eq_true rfl, Nat.le_of_ble_eq_true rfl⟩ 0 4 rfl rfl rfl rfl (Nat.le_of_ble_eq_true rfl) dX4_lend_32 ⟨Nat.zero_le _, Nat.zero_le _⟩ ?_
  refine vIstoreN X [(3, .int (nI (Ln (Rm u)))), (0, .ref (o 0)), (1, .int (nI (r))), (2, .int (nI (u)))] dX4_lend_35 (by decide) rfl ?_
  refine vAloadN X dX4_lend_36 1 rfl ?_
  refine vGet X (C := RX4) (T := TX4) (N := 10) (ci := 4) (vcons inM) rfl 0 rfl 2 (by decide) (List.mem_cons_of_mem _ q_744) (fun _ h => h) rfl dX4_lend_37 ?_
  refine vIloadN X dX4_lend_40 3 rfl ?_
  refine vAloadN X dX4_lend_41 1 rfl ?_
  refine vGet X (C := RX4) (T := TX4) (N := 10) (ci := 4) (vcons inM) rfl 0 rfl 2 (by decide) (List.mem_cons_of_mem _ q_744) (fun _ h => h) rfl dX4_lend_42 ?_
  refine vIloadN X dX4_lend_45 2 rfl ?_
  refine vIaload X (v := nI (Rm (r))) 3 1 rfl rfl rfl (by omega) (by decide) rfl dX4_lend_46 ?_
  refine vIastore X (g := (fun q => nI ((va_up Rm (u) (Rm (r))) q))) 3 1 rfl rfl rfl (by omega) (by decide) (nI_up _ _ _) dX4_lend_47 ?_
  refine vWs (ws' := mW k o B Ln (va_up Rm (u) (Rm (r))) Rd Pl Mk G Sz Kp (nI (0))) rfl ?_
  refine vIloadN X dX4_lend_48 0 rfl ?_
  exact vRetI X hret dX4_lend_49 ⟨rfl, rfl⟩
set_option maxHeartbeats 4000000 in
set_option maxRecDepth 100000 in
theorem mm_length1 (l : Launch) (D : va_G) (k : Nat → ClassId) (o : Nat → Nat) (sb : Nat) (B : Nat → Nat → Int32) (Ln Rm : Nat → Nat) (Rd : Nat → Option Nat) (Pl Mk : Nat → Nat) (G : Nat → Nat → Int32) (Sz : Nat → Nat) (Kp : Nat → Int32) (th : Int32) (x : Int32) (hx : ¬ vRow x) : vCt l yX4_length cX4_length 2 (some .int) 1 21 0 0 D vCl (vTy k) sb [.ref (o 0), .int (x)] (mW k o B Ln Rm Rd Pl Mk G Sz Kp th) (vDet (some (.int (nI (0)))) (mW k o B Ln Rm Rd Pl Mk G Sz Kp (nI (1)))) := by
  refine vOf (by decide +kernel) (Nat.le_of_ble_eq_true rfl) (fun p e s m below meth c X hret _ => ?_)
  refine vAloadN X dX4_length_0 0 rfl ?_
  refine vAloadN X dX4_length_1 0 rfl ?_
  refine vIloadN X dX4_length_2 1 rfl ?_
  refine vCallVd X [.ref (o 0)] (mm_isRowF l D k o sb B Ln Rm Rd Pl Mk G Sz Kp th x hx) (vGV q_782 q_784 q_7 q_29 q_785) ⟨by decide, by decide, (show _ = some 1 from by decide +kernel)⟩ ⟨Nat.le_of_ble_eq_true rfl, Nat.le_of_ble_eq_true rfl⟩ 0 4 rfl rfl rfl rfl (Nat.le_of_ble_eq_true rfl) dX4_length_3 ⟨Nat.zero_le _, Nat.zero_le _⟩ ?_
  refine vIfN_eqT X 13 dX4_length_6 (by decide) (by omega) (by omega) ?_
  refine vIconst X dX4_length_13 (v := nI (1)) (by decide) ?_
  refine vCallVd X [] (mm_isWrong1 l D k o sb B Ln Rm Rd Pl Mk G Sz Kp th 1 (by decide) (by decide)) (vGV q_786 q_788 q_8 q_29 q_789) ⟨by decide, by decide, (show _ = some 1 from by decide +kernel)⟩ ⟨Nat.le_of_ble_eq_true rfl, Nat.le_of_ble_eq_true rfl⟩ 0 4 rfl rfl rfl rfl (Nat.le_of_ble_eq_true rfl) dX4_length_14 ⟨Nat.zero_le _, Nat.zero_le _⟩ ?_
  refine vIfN_eqF X 24 dX4_length_17 (by decide) (by omega) (by omega) ?_
  refine vIconst X dX4_length_20 (v := nI (0)) (by decide) ?_
  refine vGoto X 29 dX4_length_21 (by decide) ?_
  exact vRetI X hret dX4_length_29 ⟨rfl, rfl⟩
set_option maxHeartbeats 4000000 in
set_option maxRecDepth 100000 in
theorem mm_length0 (l : Launch) (D : va_G) (k : Nat → ClassId) (o : Nat → Nat) (sb : Nat) (B : Nat → Nat → Int32) (Ln Rm : Nat → Nat) (Rd : Nat → Option Nat) (Pl Mk : Nat → Nat) (G : Nat → Nat → Int32) (Sz : Nat → Nat) (Kp : Nat → Int32) (th : Int32) (r : Nat) (hr : r < 4) (hRm : ∀ r, r < 4 → Rm r < 8) : vCt l yX4_length cX4_length 2 (some .int) 1 21 0 0 D vCl (vTy k) sb [.ref (o 0), .int (nI (r))] (mW k o B Ln Rm Rd Pl Mk G Sz Kp th) (vDet (some (.int (nI (Ln (Rm r))))) (mW k o B Ln Rm Rd Pl Mk G Sz Kp (nI (0)))) := by
  have hRr := hRm r hr
  refine vOf (by decide +kernel) (Nat.le_of_ble_eq_true rfl) (fun p e s m below meth c X hret _ => ?_)
  refine vAloadN X dX4_length_0 0 rfl ?_
  refine vAloadN X dX4_length_1 0 rfl ?_
  refine vIloadN X dX4_length_2 1 rfl ?_
  refine vCallVd X [.ref (o 0)] (mm_isRowT l D k o sb B Ln Rm Rd Pl Mk G Sz Kp th r (by omega)) (vGV q_782 q_784 q_7 q_29 q_785) ⟨by decide, by decide, (show _ = some 1 from by decide +kernel)⟩ ⟨Nat.le_of_ble_eq_true rfl, Nat.le_of_ble_eq_true rfl⟩ 0 4 rfl rfl rfl rfl (Nat.le_of_ble_eq_true rfl) dX4_length_3 ⟨Nat.zero_le _, Nat.zero_le _⟩ ?_
  refine vIfN_eqF X 13 dX4_length_6 (by decide) (by omega) (by omega) ?_
  refine vIconst X dX4_length_9 (v := nI (0)) (by decide) ?_
  refine vGoto X 14 dX4_length_10 (by decide) ?_
  refine vCallVd X [] (mm_isWrong0 l D k o sb B Ln Rm Rd Pl Mk G Sz Kp th ) (vGV q_786 q_788 q_8 q_29 q_789) ⟨by decide, by decide, (show _ = some 1 from by decide +kernel)⟩ ⟨Nat.le_of_ble_eq_true rfl, Nat.le_of_ble_eq_true rfl⟩ 0 4 rfl rfl rfl rfl (Nat.le_of_ble_eq_true rfl) dX4_length_14 ⟨Nat.zero_le _, Nat.zero_le _⟩ ?_
  refine vIfN_eqT X 24 dX4_length_17 (by decide) (by omega) (by omega) ?_
  refine vAloadN X dX4_length_24 0 rfl ?_
  refine vIloadN X dX4_length_25 1 rfl ?_
  refine vCallVd X [] (mm_long0 l D k o sb B Ln Rm Rd Pl Mk G Sz Kp (nI (0)) r (by omega) (by omega)) (vGV q_790 q_792 q_9 q_29 q_793) ⟨by decide, by decide, (show _ = some 1 from by decide +kernel)⟩ ⟨Nat.le_of_ble_eq_true rfl, Nat.le_of_ble_eq_true rfl⟩ 0 4 rfl rfl rfl rfl (Nat.le_of_ble_eq_true rfl) dX4_length_26 ⟨Nat.zero_le _, Nat.zero_le _⟩ ?_
  exact vRetI X hret dX4_length_29 ⟨rfl, rfl⟩
set_option maxHeartbeats 4000000 in
set_option maxRecDepth 100000 in
theorem mm_low (l : Launch) (D : va_G) (k : Nat → ClassId) (o : Nat → Nat) (sb : Nat) (B : Nat → Nat → Int32) (Ln Rm : Nat → Nat) (Rd : Nat → Option Nat) (Pl Mk : Nat → Nat) (G : Nat → Nat → Int32) (Sz : Nat → Nat) (Kp : Nat → Int32) (th : Int32) (x : Int32)  : vCt l yX4_low cX4_low 3 (some .int) 0 0 0 0 D vCl (vTy k) sb [.ref (o 0), .int (x)] (mW k o B Ln Rm Rd Pl Mk G Sz Kp th) (vDet (some (.int (lb x))) (mW k o B Ln Rm Rd Pl Mk G Sz Kp th)) := by
  refine vOf (by decide +kernel) (Nat.le_of_ble_eq_true rfl) (fun p e s m below meth c X hret _ => ?_)
  refine vIloadN X dX4_low_0 1 rfl ?_
  refine vSipush X dX4_low_1 (v := nI (255)) (by decide) ?_
  refine vIand X dX4_low_4 (v := (x) &&& (nI (255))) rfl ?_
  refine vIstoreN X [(2, .int ((x) &&& (nI (255)))), (0, .ref (o 0)), (1, .int (x))] dX4_low_5 (by decide) rfl ?_
  refine vIloadN X dX4_low_6 0 rfl ?_
  refine vSipush X dX4_low_7 (v := nI (128)) (by decide) ?_
  refine vIcmp_ge X 17 dX4_low_10 (by decide) (fun hc10 => ?_) (fun hc10 => ?_)
  · refine vIloadN X dX4_low_17 0 rfl ?_
    refine vSipush X dX4_low_18 (v := nI (256)) (by decide) ?_
    refine vIsub X dX4_low_21 (v := ((x) &&& (nI (255))) - (nI (256))) rfl ?_
    exact vRetI X hret dX4_low_22 ⟨by rw [low_ge hc10], rfl⟩
  · refine vIloadN X dX4_low_13 0 rfl ?_
    refine vGoto X 22 dX4_low_14 (by decide) ?_
    exact vRetI X hret dX4_low_22 ⟨by rw [low_lt (Int32.not_le.mp hc10)], rfl⟩
set_option maxHeartbeats 4000000 in
set_option maxRecDepth 100000 in
theorem mm_get1 (l : Launch) (D : va_G) (k : Nat → ClassId) (o : Nat → Nat) (sb : Nat) (B : Nat → Nat → Int32) (Ln Rm : Nat → Nat) (Rd : Nat → Option Nat) (Pl Mk : Nat → Nat) (G : Nat → Nat → Int32) (Sz : Nat → Nat) (Kp : Nat → Int32) (th : Int32) (x y : Int32) (hRm : ∀ r, r < 4 → Rm r < 8) (hLn : ∀ a, Ln a ≤ 256) (hpart : ¬ vPart Ln Rm x y (nI 1)) : vCt l yX4_get cX4_get 3 (some .int) 2 44 0 0 D vCl (vTy k) sb [.ref (o 0), .int (x), .int (y)] (mW k o B Ln Rm Rd Pl Mk G Sz Kp th) (vDet (some (.int (nI (0)))) (mW k o B Ln Rm Rd Pl Mk G Sz Kp (nI (1)))) := by
  refine vOf (by decide +kernel) (Nat.le_of_ble_eq_true rfl) (fun p e s m below meth c X hret _ => ?_)
  refine vAloadN X dX4_get_0 0 rfl ?_
  refine vAloadN X dX4_get_1 0 rfl ?_
  refine vIloadN X dX4_get_2 1 rfl ?_
  refine vIloadN X dX4_get_3 2 rfl ?_
  refine vIconst X dX4_get_4 (v := nI (1)) (by decide) ?_
  refine vCallVd X [.ref (o 0)] (mm_isPartF l D k o sb B Ln Rm Rd Pl Mk G Sz Kp th x y (nI (1)) hRm hLn hpart) (vGV q_814 q_816 q_12 q_29 q_817) ⟨by decide, by decide, (show _ = some 3 from by decide +kernel)⟩ ⟨Nat.le_of_ble_eq_true rfl, Nat.le_of_ble_eq_true rfl⟩ 0 4 rfl rfl rfl rfl (Nat.le_of_ble_eq_true rfl) dX4_get_5 ⟨Nat.zero_le _, Nat.zero_le _⟩ ?_
  refine vIfN_eqT X 15 dX4_get_8 (by decide) (by omega) (by omega) ?_
  refine vIconst X dX4_get_15 (v := nI (1)) (by decide) ?_
  refine vCallVd X [] (mm_isWrong1 l D k o sb B Ln Rm Rd Pl Mk G Sz Kp th 1 (by decide) (by decide)) (vGV q_786 q_788 q_8 q_29 q_789) ⟨by decide, by decide, (show _ = some 1 from by decide +kernel)⟩ ⟨Nat.le_of_ble_eq_true rfl, Nat.le_of_ble_eq_true rfl⟩ 0 4 rfl rfl rfl rfl (Nat.le_of_ble_eq_true rfl) dX4_get_16 ⟨Nat.zero_le _, Nat.zero_le _⟩ ?_
  refine vIfN_eqF X 26 dX4_get_19 (by decide) (by omega) (by omega) ?_
  refine vIconst X dX4_get_22 (v := nI (0)) (by decide) ?_
  refine vGoto X 43 dX4_get_23 (by decide) ?_
  exact vRetI X hret dX4_get_43 ⟨rfl, rfl⟩
set_option maxHeartbeats 4000000 in
set_option maxRecDepth 100000 in
theorem mm_get0 (l : Launch) (D : va_G) (k : Nat → ClassId) (o : Nat → Nat) (sb : Nat) (B : Nat → Nat → Int32) (Ln Rm : Nat → Nat) (Rd : Nat → Option Nat) (Pl Mk : Nat → Nat) (G : Nat → Nat → Int32) (Sz : Nat → Nat) (Kp : Nat → Int32) (th : Int32) (r i : Nat) (hr : r < 4) (hi : i + 1 ≤ Ln (Rm r)) (hRm : ∀ r, r < 4 → Rm r < 8) (hLn : ∀ a, Ln a ≤ 256) : vCt l yX4_get cX4_get 3 (some .int) 2 44 0 0 D vCl (vTy k) sb [.ref (o 0), .int (nI (r)), .int (nI (i))] (mW k o B Ln Rm Rd Pl Mk G Sz Kp th) (vDet (some (.int (B (Rm r) i))) (mW k o B Ln Rm Rd Pl Mk G Sz Kp (nI (0)))) := by
  have hRr := hRm r hr
  have hLr := hLn (Rm r)
  refine vOf (by decide +kernel) (Nat.le_of_ble_eq_true rfl) (fun p e s m below meth c X hret _ => ?_)
  refine vAloadN X dX4_get_0 0 rfl ?_
  refine vAloadN X dX4_get_1 0 rfl ?_
  refine vIloadN X dX4_get_2 1 rfl ?_
  refine vIloadN X dX4_get_3 2 rfl ?_
  refine vIconst X dX4_get_4 (v := nI (1)) (by decide) ?_
  refine vCallVd X [.ref (o 0)] (mm_isPartT l D k o sb B Ln Rm Rd Pl Mk G Sz Kp th r i 1 (by omega) (by omega) (by omega) (by omega)) (vGV q_814 q_816 q_12 q_29 q_817) ⟨by decide, by decide, (show _ = some 3 from by decide +kernel)⟩ ⟨Nat.le_of_ble_eq_true rfl, Nat.le_of_ble_eq_true rfl⟩ 0 4 rfl rfl rfl rfl (Nat.le_of_ble_eq_true rfl) dX4_get_5 ⟨Nat.zero_le _, Nat.zero_le _⟩ ?_
  refine vIfN_eqF X 15 dX4_get_8 (by decide) (by omega) (by omega) ?_
  refine vIconst X dX4_get_11 (v := nI (0)) (by decide) ?_
  refine vGoto X 16 dX4_get_12 (by decide) ?_
  refine vCallVd X [] (mm_isWrong0 l D k o sb B Ln Rm Rd Pl Mk G Sz Kp th ) (vGV q_786 q_788 q_8 q_29 q_789) ⟨by decide, by decide, (show _ = some 1 from by decide +kernel)⟩ ⟨Nat.le_of_ble_eq_true rfl, Nat.le_of_ble_eq_true rfl⟩ 0 4 rfl rfl rfl rfl (Nat.le_of_ble_eq_true rfl) dX4_get_16 ⟨Nat.zero_le _, Nat.zero_le _⟩ ?_
  refine vIfN_eqT X 26 dX4_get_19 (by decide) (by omega) (by omega) ?_
  refine vAloadN X dX4_get_26 0 rfl ?_
  refine vGet X (C := RX4) (T := TX4) (N := 10) (ci := 4) (vcons inM) rfl 0 rfl 0 (by decide) (List.mem_cons_of_mem _ q_742) (fun _ h => h) rfl dX4_get_27 ?_
  refine vSipush X dX4_get_30 (v := nI (256)) (by decide) ?_
  refine vAloadN X dX4_get_33 0 rfl ?_
  refine vGet X (C := RX4) (T := TX4) (N := 10) (ci := 4) (vcons inM) rfl 0 rfl 2 (by decide) (List.mem_cons_of_mem _ q_744) (fun _ h => h) rfl dX4_get_34 ?_
  refine vIloadN X dX4_get_37 1 rfl ?_
  refine vIaload X (v := nI (Rm (r))) 3 1 rfl rfl rfl (by omega) (by decide) rfl dX4_get_38 ?_
  refine vImul X dX4_get_39 (v := nI ((256) * (Rm (r)))) (pk_mul _ _) ?_
  refine vIloadN X dX4_get_40 2 rfl ?_
  refine vIadd X dX4_get_41 (v := nI (((256) * (Rm (r))) + (i))) (nI_add _ _) ?_
  refine vIaload X (v := B (Rm (r)) (i)) 1 1 rfl rfl rfl (by omega) (by decide) (fl2_at _ (X := Rm (r)) (Y := i) (by omega) (by omega)) dX4_get_42 ?_
  exact vRetI X hret dX4_get_43 ⟨rfl, rfl⟩
set_option maxHeartbeats 4000000 in
set_option maxRecDepth 100000 in
theorem mm_put1 (l : Launch) (D : va_G) (k : Nat → ClassId) (o : Nat → Nat) (sb : Nat) (B : Nat → Nat → Int32) (Ln Rm : Nat → Nat) (Rd : Nat → Option Nat) (Pl Mk : Nat → Nat) (G : Nat → Nat → Int32) (Sz : Nat → Nat) (Kp : Nat → Int32) (th : Int32) (x y v : Int32) (hRm : ∀ r, r < 4 → Rm r < 8) (hLn : ∀ a, Ln a ≤ 256) (hpart : ¬ vPart Ln Rm x y (nI 1)) : vCt l yX4_put cX4_put 6 (some .int) 2 44 0 0 D vCl (vTy k) sb [.ref (o 0), .int (x), .int (y), .int (v)] (mW k o B Ln Rm Rd Pl Mk G Sz Kp th) (vDet (some (.int (nI (0)))) (mW k o B Ln Rm Rd Pl Mk G Sz Kp (nI (1)))) := by
  refine vOf (by decide +kernel) (Nat.le_of_ble_eq_true rfl) (fun p e s m below meth c X hret _ => ?_)
  refine vAloadN X dX4_put_0 0 rfl ?_
  refine vAloadN X dX4_put_1 0 rfl ?_
  refine vIloadN X dX4_put_2 1 rfl ?_
  refine vIloadN X dX4_put_3 2 rfl ?_
  refine vIconst X dX4_put_4 (v := nI (1)) (by decide) ?_
  refine vCallVd X [.ref (o 0)] (mm_isPartF l D k o sb B Ln Rm Rd Pl Mk G Sz Kp th x y (nI (1)) hRm hLn hpart) (vGV q_814 q_816 q_12 q_29 q_817) ⟨by decide, by decide, (show _ = some 3 from by decide +kernel)⟩ ⟨Nat.le_of_ble_eq_true rfl, Nat.le_of_ble_eq_true rfl⟩ 0 4 rfl rfl rfl rfl (Nat.le_of_ble_eq_true rfl) dX4_put_5 ⟨Nat.zero_le _, Nat.zero_le _⟩ ?_
  refine vIfN_eqT X 15 dX4_put_8 (by decide) (by omega) (by omega) ?_
  refine vIconst X dX4_put_15 (v := nI (1)) (by decide) ?_
  refine vCallVd X [] (mm_isWrong1 l D k o sb B Ln Rm Rd Pl Mk G Sz Kp th 1 (by decide) (by decide)) (vGV q_786 q_788 q_8 q_29 q_789) ⟨by decide, by decide, (show _ = some 1 from by decide +kernel)⟩ ⟨Nat.le_of_ble_eq_true rfl, Nat.le_of_ble_eq_true rfl⟩ 0 4 rfl rfl rfl rfl (Nat.le_of_ble_eq_true rfl) dX4_put_16 ⟨Nat.zero_le _, Nat.zero_le _⟩ ?_
  refine vIfN_eqF X 24 dX4_put_19 (by decide) (by omega) (by omega) ?_
  refine vIconst X dX4_put_22 (v := nI (0)) (by decide) ?_
  exact vRetI X hret dX4_put_23 ⟨rfl, rfl⟩
set_option maxHeartbeats 4000000 in
set_option maxRecDepth 100000 in
theorem mm_put0 (l : Launch) (D : va_G) (k : Nat → ClassId) (o : Nat → Nat) (sb : Nat) (B : Nat → Nat → Int32) (Ln Rm : Nat → Nat) (Rd : Nat → Option Nat) (Pl Mk : Nat → Nat) (G : Nat → Nat → Int32) (Sz : Nat → Nat) (Kp : Nat → Int32) (th : Int32) (r i : Nat) (v : Int32) (hr : r < 4) (hi : i + 1 ≤ Ln (Rm r)) (hRm : ∀ r, r < 4 → Rm r < 8) (hLn : ∀ a, Ln a ≤ 256) : vCt l yX4_put cX4_put 6 (some .int) 2 44 0 0 D vCl (vTy k) sb [.ref (o 0), .int (nI (r)), .int (nI (i)), .int (v)] (mW k o B Ln Rm Rd Pl Mk G Sz Kp th) (vDet (some (.int (B (Rm r) i))) (mW k o (up2 B (Rm (r)) (i) (lb (v))) Ln Rm Rd Pl Mk G Sz Kp (nI (0)))) := by
  have hRr := hRm r hr
  have hLr := hLn (Rm r)
  refine vOf (by decide +kernel) (Nat.le_of_ble_eq_true rfl) (fun p e s m below meth c X hret _ => ?_)
  refine vAloadN X dX4_put_0 0 rfl ?_
  refine vAloadN X dX4_put_1 0 rfl ?_
  refine vIloadN X dX4_put_2 1 rfl ?_
  refine vIloadN X dX4_put_3 2 rfl ?_
  refine vIconst X dX4_put_4 (v := nI (1)) (by decide) ?_
  refine vCallVd X [.ref (o 0)] (mm_isPartT l D k o sb B Ln Rm Rd Pl Mk G Sz Kp th r i 1 (by omega) (by omega) (by omega) (by omega)) (vGV q_814 q_816 q_12 q_29 q_817) ⟨by decide, by decide, (show _ = some 3 from by decide +kernel)⟩ ⟨Nat.le_of_ble_eq_true rfl, Nat.le_of_ble_eq_true rfl⟩ 0 4 rfl rfl rfl rfl (Nat.le_of_ble_eq_true rfl) dX4_put_5 ⟨Nat.zero_le _, Nat.zero_le _⟩ ?_
  refine vIfN_eqF X 15 dX4_put_8 (by decide) (by omega) (by omega) ?_
  refine vIconst X dX4_put_11 (v := nI (0)) (by decide) ?_
  refine vGoto X 16 dX4_put_12 (by decide) ?_
  refine vCallVd X [] (mm_isWrong0 l D k o sb B Ln Rm Rd Pl Mk G Sz Kp th ) (vGV q_786 q_788 q_8 q_29 q_789) ⟨by decide, by decide, (show _ = some 1 from by decide +kernel)⟩ ⟨Nat.le_of_ble_eq_true rfl, Nat.le_of_ble_eq_true rfl⟩ 0 4 rfl rfl rfl rfl (Nat.le_of_ble_eq_true rfl) dX4_put_16 ⟨Nat.zero_le _, Nat.zero_le _⟩ ?_
  refine vIfN_eqT X 24 dX4_put_19 (by decide) (by omega) (by omega) ?_
  refine vSipush X dX4_put_24 (v := nI (256)) (by decide) ?_
  refine vAloadN X dX4_put_27 0 rfl ?_
  refine vGet X (C := RX4) (T := TX4) (N := 10) (ci := 4) (vcons inM) rfl 0 rfl 2 (by decide) (List.mem_cons_of_mem _ q_744) (fun _ h => h) rfl dX4_put_28 ?_
  refine vIloadN X dX4_put_31 1 rfl ?_
  refine vIaload X (v := nI (Rm (r))) 3 1 rfl rfl rfl (by omega) (by decide) rfl dX4_put_32 ?_
  refine vImul X dX4_put_33 (v := nI ((256) * (Rm (r)))) (pk_mul _ _) ?_
  refine vIloadN X dX4_put_34 2 rfl ?_
  refine vIadd X dX4_put_35 (v := nI (((256) * (Rm (r))) + (i))) (nI_add _ _) ?_
  refine vIstore X [(4, .int (nI (((256) * (Rm (r))) + (i)))), (0, .ref (o 0)), (1, .int (nI (r))), (2, .int (nI (i))), (3, .int (v))] dX4_put_36 (by decide) rfl ?_
  refine vAloadN X dX4_put_38 1 rfl ?_
  refine vGet X (C := RX4) (T := TX4) (N := 10) (ci := 4) (vcons inM) rfl 0 rfl 0 (by decide) (List.mem_cons_of_mem _ q_742) (fun _ h => h) rfl dX4_put_39 ?_
  refine vIload X dX4_put_42 0 rfl ?_
  refine vIaload X (v := B (Rm (r)) (i)) 1 1 rfl rfl rfl (by omega) (by decide) (fl2_at _ (X := Rm (r)) (Y := i) (by omega) (by omega)) dX4_put_44 ?_
  refine vIstore X [(5, .int (B (Rm (r)) (i))), (4, .int (nI (((256) * (Rm (r))) + (i)))), (0, .ref (o 0)), (1, .int (nI (r))), (2, .int (nI (i))), (3, .int (v))] dX4_put_45 (by decide) rfl ?_
  refine vAloadN X dX4_put_47 2 rfl ?_
  refine vGet X (C := RX4) (T := TX4) (N := 10) (ci := 4) (vcons inM) rfl 0 rfl 0 (by decide) (List.mem_cons_of_mem _ q_742) (fun _ h => h) rfl dX4_put_48 ?_
  refine vIload X dX4_put_51 1 rfl ?_
  refine vAloadN X dX4_put_53 2 rfl ?_
  refine vIloadN X dX4_put_54 5 rfl ?_
  refine vCallVd X [.int (nI (((256) * (Rm (r))) + (i))), .ref (o 1)] (mm_low l D k o sb B Ln Rm Rd Pl Mk G Sz Kp (nI (0)) v) (vGV q_822 q_824 q_13 q_29 q_825) ⟨by decide, by decide, (show _ = some 1 from by decide +kernel)⟩ ⟨Nat.le_of_ble_eq_true rfl, Nat.le_of_ble_eq_true rfl⟩ 0 4 rfl rfl rfl rfl (Nat.le_of_ble_eq_true rfl) dX4_put_55 ⟨Nat.zero_le _, Nat.zero_le _⟩ ?_
  refine vIastore X (g := fl2 (up2 B (Rm (r)) (i) (lb (v)))) 1 1 rfl rfl rfl (by omega) (by decide) (fl2_up _ _ (X := Rm (r)) (Y := i) (by omega) (by omega)) dX4_put_58 ?_
  refine vWs (ws' := mW k o (up2 B (Rm (r)) (i) (lb (v))) Ln Rm Rd Pl Mk G Sz Kp (nI (0))) rfl ?_
  refine vIload X dX4_put_59 0 rfl ?_
  exact vRetI X hret dX4_put_61 ⟨rfl, rfl⟩
def fillB (B : Nat → Nat → Int32) (R f i : Nat) (x st : Int32) : Nat → Nat → Int32 := fun a b => if a = R ∧ f ≤ b ∧ b < f + i then lb (x + nI (b - f) * st) else B a b
def smB (g : Nat → Int32) (f : Nat) : Nat → Int32
  | 0 => nI 0
  | i + 1 => smB g f i + g (f + i)
theorem fillB_0 (B : Nat → Nat → Int32) (R f : Nat) (x st : Int32) : B = fillB B R f 0 x st := by
  funext a b
  show B a b = if _ then _ else _
  rw [if_neg (by omega)]
theorem fillB_1 (B : Nat → Nat → Int32) (R f i : Nat) (x st : Int32) : up2 (fillB B R f i x st) R (f + i) (lb (x + nI i * st)) = fillB B R f (i + 1) x st := by
  funext a b
  simp only [up2, fillB]
  by_cases h1 : a = R <;> by_cases h2 : b = f + i
  · subst h2
    have q1 : f ≤ f + i := by omega
    have q2 : f + i < f + (i + 1) := by omega
    have q3 : f + i - f = i := by omega
    simp [h1, q3]
  · have : (f ≤ b ∧ b < f + (i + 1)) = (f ≤ b ∧ b < f + i) := by simp only [eq_iff_iff]; omega
    simp [h1, h2, this]
  · simp [h1]
  · simp [h1]
theorem fillB_at (B : Nat → Nat → Int32) (R f i : Nat) (x st : Int32) : fillB B R f i x st R (f + i) = B R (f + i) := by
  have : ¬ (f ≤ f + i ∧ f + i < f + i) := by omega
  simp [fillB, this]
set_option maxHeartbeats 4000000 in
set_option maxRecDepth 100000 in
theorem mL_fill {p : Program} {l : Launch} {e : Env} {s : State} {m : MethodId} {args : Array Value} {below : List Frame} {meth : Method} {c : Code} {Q : State → Prop} (D : va_G) (k : Nat → ClassId) (o : Nat → Nat) (sb : Nat) (B : Nat → Nat → Int32) (Ln Rm : Nat → Nat) (Rd : Nat → Option Nat) (Pl Mk : Nat → Nat) (G : Nat → Nat → Int32) (Sz : Nat → Nat) (Kp : Nat → Int32) (th : Int32) (r f n : Nat) (x st : Int32) (hr : r < 4) (hp : f + n ≤ Ln (Rm r)) (hRm : ∀ r, r < 4 → Rm r < 8) (hLn : ∀ a, Ln a ≤ 256) (X : vCX p s m args meth c cX4_fill 9 yX4_fill.cls (Cond.code yX4_fill cX4_fill 9 (some .int) :: vGW) D vCl (vTy k) sb) (hex : vV p l e ({ frames := 2, cells := 0, slots := 0, locals := 44 }) s m args below meth c 9 D vCl sb Q (mW k o (fillB B (Rm r) f n x st) Ln Rm Rd Pl Mk G Sz Kp th) 0 0 90 [(6, .int (smB (B (Rm r)) f n)), (0, .ref (o 0)), (1, .int (nI (r))), (2, .int (nI (f))), (3, .int (nI (n))), (4, .int (x)), (5, .int (st))] []) : ∀ (z i : Nat) (B1 : Nat → Nat → Int32) (s1 : Int32), i + z = n → B1 = fillB B (Rm r) f i x st → s1 = smB (B (Rm r)) f i → vV p l e ({ frames := 2, cells := 0, slots := 0, locals := 44 }) s m args below meth c 9 D vCl sb Q (mW k o B1 Ln Rm Rd Pl Mk G Sz Kp th) 0 0 30 [(7, .int (nI (i))), (6, .int (s1)), (0, .ref (o 0)), (1, .int (nI (r))), (2, .int (nI (f))), (3, .int (nI (n))), (4, .int (x)), (5, .int (st))] [] := by
  intro z
  induction z with
  | zero =>
    intro i B1 s1 hi hB1 hs1
    have hin : n = i := by omega
    subst hin
    subst hB1
    subst hs1
    have hLr := hLn (Rm r)
    refine vIload X dX4_fill_30 0 rfl ?_
    refine vIloadN X dX4_fill_32 5 rfl ?_
    refine vIcmpN_geT X 90 dX4_fill_33 (by decide) (by omega) (by omega) (by omega) ?_
    refine vSub [1, 2, 3, 4, 5, 6, 7] [(6, .int (smB (B (Rm r)) f n)), (0, .ref (o 0)), (1, .int (nI (r))), (2, .int (nI (f))), (3, .int (nI (n))), (4, .int (x)), (5, .int (st))] rfl ?_
    exact hex
  | succ z ih =>
    intro i B1 s1 hi hB1 hs1
    have hRr := hRm r hr
    have hLr := hLn (Rm r)
    refine vIload X dX4_fill_30 0 rfl ?_
    refine vIloadN X dX4_fill_32 5 rfl ?_
    refine vIcmpN_geF X 90 dX4_fill_33 (by decide) (by omega) (by omega) (by omega) ?_
    refine vSipush X dX4_fill_36 (v := nI (256)) (by decide) ?_
    refine vAloadN X dX4_fill_39 2 rfl ?_
    refine vGet X (C := RX4) (T := TX4) (N := 10) (ci := 4) (vcons inM) rfl 0 rfl 2 (by decide) (List.mem_cons_of_mem _ q_744) (fun _ h => h) rfl dX4_fill_40 ?_
    refine vIloadN X dX4_fill_43 3 rfl ?_
    refine vIaload X (v := nI (Rm (r))) 3 1 rfl rfl rfl (by omega) (by decide) rfl dX4_fill_44 ?_
    refine vImul X dX4_fill_45 (v := nI ((256) * (Rm (r)))) (pk_mul _ _) ?_
    refine vIloadN X dX4_fill_46 4 rfl ?_
    refine vIadd X dX4_fill_47 (v := nI (((256) * (Rm (r))) + (f))) (nI_add _ _) ?_
    refine vIload X dX4_fill_48 0 rfl ?_
    refine vIadd X dX4_fill_50 (v := nI ((((256) * (Rm (r))) + (f)) + (i))) (nI_add _ _) ?_
    refine vIstore X [(8, .int (nI ((((256) * (Rm (r))) + (f)) + (i)))), (7, .int (nI (i))), (6, .int (s1)), (0, .ref (o 0)), (1, .int (nI (r))), (2, .int (nI (f))), (3, .int (nI (n))), (4, .int (x)), (5, .int (st))] dX4_fill_51 (by decide) rfl ?_
    refine vIload X dX4_fill_53 2 rfl ?_
    refine vAloadN X dX4_fill_55 3 rfl ?_
    refine vGet X (C := RX4) (T := TX4) (N := 10) (ci := 4) (vcons inM) rfl 0 rfl 0 (by decide) (List.mem_cons_of_mem _ q_742) (fun _ h => h) rfl dX4_fill_56 ?_
    refine vIload X dX4_fill_59 0 rfl ?_
    refine vIaload X (v := B1 (Rm (r)) (f + i)) 1 1 rfl rfl rfl (by omega) (by decide) (fl2_at _ (X := Rm (r)) (Y := f + i) (by omega) (by omega)) dX4_fill_61 ?_
    refine vIadd X dX4_fill_62 (v := (s1) + (B1 (Rm (r)) (f + i))) rfl ?_
    refine vIstore X [(6, .int ((s1) + (B1 (Rm (r)) (f + i)))), (8, .int (nI ((((256) * (Rm (r))) + (f)) + (i)))), (7, .int (nI (i))), (0, .ref (o 0)), (1, .int (nI (r))), (2, .int (nI (f))), (3, .int (nI (n))), (4, .int (x)), (5, .int (st))] dX4_fill_63 (by decide) rfl ?_
    refine vAloadN X dX4_fill_65 3 rfl ?_
    refine vGet X (C := RX4) (T := TX4) (N := 10) (ci := 4) (vcons inM) rfl 0 rfl 0 (by decide) (List.mem_cons_of_mem _ q_742) (fun _ h => h) rfl dX4_fill_66 ?_
    refine vIload X dX4_fill_69 1 rfl ?_
    refine vAloadN X dX4_fill_71 3 rfl ?_
    refine vIload X dX4_fill_72 7 rfl ?_
    refine vIload X dX4_fill_74 2 rfl ?_
    refine vIload X dX4_fill_76 8 rfl ?_
    refine vImul X dX4_fill_78 (v := (nI (i)) * (st)) rfl ?_
    refine vIadd X dX4_fill_79 (v := (x) + ((nI (i)) * (st))) rfl ?_
    refine vCallVd X [.int (nI ((((256) * (Rm (r))) + (f)) + (i))), .ref (o 1)] (mm_low l D k o sb B1 Ln Rm Rd Pl Mk G Sz Kp th ((x) + ((nI (i)) * (st)))) (vGV q_822 q_824 q_13 q_29 q_825) ⟨by decide, by decide, (show _ = some 1 from by decide +kernel)⟩ ⟨Nat.le_of_ble_eq_true rfl, Nat.le_of_ble_eq_true rfl⟩ 0 4 rfl rfl rfl rfl (Nat.le_of_ble_eq_true rfl) dX4_fill_80 ⟨Nat.zero_le _, Nat.zero_le _⟩ ?_
    refine vIastore X (g := fl2 (up2 B1 (Rm (r)) (f + i) (lb ((x) + ((nI (i)) * (st)))))) 1 1 rfl rfl rfl (by omega) (by decide) (fl2_up _ _ (X := Rm (r)) (Y := f + i) (by omega) (by omega)) dX4_fill_83 ?_
    refine vWs (ws' := mW k o (up2 B1 (Rm (r)) (f + i) (lb ((x) + ((nI (i)) * (st))))) Ln Rm Rd Pl Mk G Sz Kp th) rfl ?_
    refine vIinc X [(7, .int (nI (i + 1))), (6, .int ((s1) + (B1 (Rm (r)) (f + i)))), (8, .int (nI ((((256) * (Rm (r))) + (f)) + (i)))), (0, .ref (o 0)), (1, .int (nI (r))), (2, .int (nI (f))), (3, .int (nI (n))), (4, .int (x)), (5, .int (st))] dX4_fill_84 2 rfl (nI_inc _) (by decide) rfl ?_
    refine vGoto X 30 dX4_fill_87 (by decide) ?_
    refine vSub [0, 1, 3, 4, 5, 6, 7, 8] [(7, .int (nI (i + 1))), (6, .int ((s1) + (B1 (Rm (r)) (f + i)))), (0, .ref (o 0)), (1, .int (nI (r))), (2, .int (nI (f))), (3, .int (nI (n))), (4, .int (x)), (5, .int (st))] rfl ?_
    exact ih (i + 1) _ _ (by omega) (by rw [hB1]; exact fillB_1 _ _ _ _ _ _) (by rw [hs1, hB1, fillB_at]; rfl)
set_option maxHeartbeats 4000000 in
set_option maxRecDepth 100000 in
theorem mm_fill1 (l : Launch) (D : va_G) (k : Nat → ClassId) (o : Nat → Nat) (sb : Nat) (B : Nat → Nat → Int32) (Ln Rm : Nat → Nat) (Rd : Nat → Option Nat) (Pl Mk : Nat → Nat) (G : Nat → Nat → Int32) (Sz : Nat → Nat) (Kp : Nat → Int32) (th : Int32) (x f n y z : Int32) (hRm : ∀ r, r < 4 → Rm r < 8) (hLn : ∀ a, Ln a ≤ 256) (hpart : ¬ vPart Ln Rm x f n) : vCt l yX4_fill cX4_fill 9 (some .int) 2 44 0 0 D vCl (vTy k) sb [.ref (o 0), .int (x), .int (f), .int (n), .int (y), .int (z)] (mW k o B Ln Rm Rd Pl Mk G Sz Kp th) (vDet (some (.int (nI (0)))) (mW k o B Ln Rm Rd Pl Mk G Sz Kp (nI (1)))) := by
  refine vOf (by decide +kernel) (Nat.le_of_ble_eq_true rfl) (fun p e s m below meth c X hret _ => ?_)
  refine vAloadN X dX4_fill_0 0 rfl ?_
  refine vAloadN X dX4_fill_1 0 rfl ?_
  refine vIloadN X dX4_fill_2 1 rfl ?_
  refine vIloadN X dX4_fill_3 2 rfl ?_
  refine vIloadN X dX4_fill_4 3 rfl ?_
  refine vCallVd X [.ref (o 0)] (mm_isPartF l D k o sb B Ln Rm Rd Pl Mk G Sz Kp th x f n hRm hLn hpart) (vGV q_814 q_816 q_12 q_29 q_817) ⟨by decide, by decide, (show _ = some 3 from by decide +kernel)⟩ ⟨Nat.le_of_ble_eq_true rfl, Nat.le_of_ble_eq_true rfl⟩ 0 4 rfl rfl rfl rfl (Nat.le_of_ble_eq_true rfl) dX4_fill_5 ⟨Nat.zero_le _, Nat.zero_le _⟩ ?_
  refine vIfN_eqT X 15 dX4_fill_8 (by decide) (by omega) (by omega) ?_
  refine vIconst X dX4_fill_15 (v := nI (1)) (by decide) ?_
  refine vCallVd X [] (mm_isWrong1 l D k o sb B Ln Rm Rd Pl Mk G Sz Kp th 1 (by decide) (by decide)) (vGV q_786 q_788 q_8 q_29 q_789) ⟨by decide, by decide, (show _ = some 1 from by decide +kernel)⟩ ⟨Nat.le_of_ble_eq_true rfl, Nat.le_of_ble_eq_true rfl⟩ 0 4 rfl rfl rfl rfl (Nat.le_of_ble_eq_true rfl) dX4_fill_16 ⟨Nat.zero_le _, Nat.zero_le _⟩ ?_
  refine vIfN_eqF X 24 dX4_fill_19 (by decide) (by omega) (by omega) ?_
  refine vIconst X dX4_fill_22 (v := nI (0)) (by decide) ?_
  exact vRetI X hret dX4_fill_23 ⟨rfl, rfl⟩
set_option maxHeartbeats 4000000 in
set_option maxRecDepth 100000 in
theorem mm_fill0 (l : Launch) (D : va_G) (k : Nat → ClassId) (o : Nat → Nat) (sb : Nat) (B : Nat → Nat → Int32) (Ln Rm : Nat → Nat) (Rd : Nat → Option Nat) (Pl Mk : Nat → Nat) (G : Nat → Nat → Int32) (Sz : Nat → Nat) (Kp : Nat → Int32) (th : Int32) (r f n : Nat) (x st : Int32) (hr : r < 4) (hp : f + n ≤ Ln (Rm r)) (hRm : ∀ r, r < 4 → Rm r < 8) (hLn : ∀ a, Ln a ≤ 256) : vCt l yX4_fill cX4_fill 9 (some .int) 2 44 0 0 D vCl (vTy k) sb [.ref (o 0), .int (nI (r)), .int (nI (f)), .int (nI (n)), .int (x), .int (st)] (mW k o B Ln Rm Rd Pl Mk G Sz Kp th) (vDet (some (.int (smB (B (Rm r)) f n))) (mW k o (fillB B (Rm r) f n x st) Ln Rm Rd Pl Mk G Sz Kp (nI (0)))) := by
  have hRr := hRm r hr
  have hLr := hLn (Rm r)
  refine vOf (by decide +kernel) (Nat.le_of_ble_eq_true rfl) (fun p e s m below meth c X hret _ => ?_)
  refine vAloadN X dX4_fill_0 0 rfl ?_
  refine vAloadN X dX4_fill_1 0 rfl ?_
  refine vIloadN X dX4_fill_2 1 rfl ?_
  refine vIloadN X dX4_fill_3 2 rfl ?_
  refine vIloadN X dX4_fill_4 3 rfl ?_
  refine vCallVd X [.ref (o 0)] (mm_isPartT l D k o sb B Ln Rm Rd Pl Mk G Sz Kp th r f n (by omega) (by omega) (by omega) (by omega)) (vGV q_814 q_816 q_12 q_29 q_817) ⟨by decide, by decide, (show _ = some 3 from by decide +kernel)⟩ ⟨Nat.le_of_ble_eq_true rfl, Nat.le_of_ble_eq_true rfl⟩ 0 4 rfl rfl rfl rfl (Nat.le_of_ble_eq_true rfl) dX4_fill_5 ⟨Nat.zero_le _, Nat.zero_le _⟩ ?_
  refine vIfN_eqF X 15 dX4_fill_8 (by decide) (by omega) (by omega) ?_
  refine vIconst X dX4_fill_11 (v := nI (0)) (by decide) ?_
  refine vGoto X 16 dX4_fill_12 (by decide) ?_
  refine vCallVd X [] (mm_isWrong0 l D k o sb B Ln Rm Rd Pl Mk G Sz Kp th ) (vGV q_786 q_788 q_8 q_29 q_789) ⟨by decide, by decide, (show _ = some 1 from by decide +kernel)⟩ ⟨Nat.le_of_ble_eq_true rfl, Nat.le_of_ble_eq_true rfl⟩ 0 4 rfl rfl rfl rfl (Nat.le_of_ble_eq_true rfl) dX4_fill_16 ⟨Nat.zero_le _, Nat.zero_le _⟩ ?_
  refine vIfN_eqT X 24 dX4_fill_19 (by decide) (by omega) (by omega) ?_
  refine vIconst X dX4_fill_24 (v := nI (0)) (by decide) ?_
  refine vIstore X [(6, .int (nI (0))), (0, .ref (o 0)), (1, .int (nI (r))), (2, .int (nI (f))), (3, .int (nI (n))), (4, .int (x)), (5, .int (st))] dX4_fill_25 (by decide) rfl ?_
  refine vIconst X dX4_fill_27 (v := nI (0)) (by decide) ?_
  refine vIstore X [(7, .int (nI (0))), (6, .int (nI (0))), (0, .ref (o 0)), (1, .int (nI (r))), (2, .int (nI (f))), (3, .int (nI (n))), (4, .int (x)), (5, .int (st))] dX4_fill_28 (by decide) rfl ?_
  refine vSub [0, 1, 2, 3, 4, 5, 6, 7] [(7, .int (nI (0))), (6, .int (nI (0))), (0, .ref (o 0)), (1, .int (nI (r))), (2, .int (nI (f))), (3, .int (nI (n))), (4, .int (x)), (5, .int (st))] rfl ?_
  refine mL_fill D k o sb B Ln Rm Rd Pl Mk G Sz Kp (nI (0)) r f n x st hr hp hRm hLn X ?_ (n) 0 _ _ (by omega) (fillB_0 _ _ _ _ _) rfl
  refine vIload X dX4_fill_90 0 rfl ?_
  exact vRetI X hret dX4_fill_92 ⟨rfl, rfl⟩
end
section
def eqB (f g : Nat → Int32) : Nat → Bool
  | 0 => true
  | i + 1 => eqB f g i && decide (f i = g i)
theorem eqB_mono {f g : Nat → Int32} {i : Nat} (h : eqB f g i = false) : ∀ n, eqB f g (i + n) = false
  | 0 => h
  | n + 1 => by
    show (eqB f g (i + n) && _) = false
    rw [eqB_mono h n]; rfl
theorem bI_of0 {b : Bool} (h : bI b = 0) : b = false := by
  cases b
  · rfl
  · exact absurd h (by decide)
theorem bI_of1 {b : Bool} (h : ¬ bI b = 0) : b = true := by
  cases b
  · exact absurd (show bI false = 0 from rfl) h
  · rfl
set_option maxHeartbeats 4000000 in
set_option maxRecDepth 100000 in
theorem mL_isLike {p : Program} {l : Launch} {e : Env} {s : State} {m : MethodId} {args : Array Value} {below : List Frame} {meth : Method} {c : Code} {Q : State → Prop} (D : va_G) (k : Nat → ClassId) (o : Nat → Nat) (sb : Nat) (B : Nat → Nat → Int32) (Ln Rm : Nat → Nat) (Rd : Nat → Option Nat) (Pl Mk : Nat → Nat) (G : Nat → Nat → Int32) (Sz : Nat → Nat) (Kp : Nat → Int32) (th : Int32) (r u : Nat) (hr : r < 4) (hu : u < 4) (hRm : ∀ r, r < 4 → Rm r < 8) (hLn : ∀ a, Ln a ≤ 256) (hln : Ln (Rm r) = Ln (Rm u)) (X : vCX p s m args meth c cX4_isLike 5 yX4_isLike.cls (Cond.code yX4_isLike cX4_isLike 5 (some .boolean) :: vGW) D vCl (vTy k) sb) (hex : vV p l e ({ frames := 1, cells := 0, slots := 0, locals := 21 }) s m args below meth c 5 D vCl sb Q (mW k o B Ln Rm Rd Pl Mk G Sz Kp th) 0 0 117 [(3, .int (bI (eqB (B (Rm r)) (B (Rm u)) (Ln (Rm r))))), (0, .ref (o 0)), (1, .int (nI (r))), (2, .int (nI (u)))] []) : ∀ (z i : Nat) (v1 : Int32), i + z = Ln (Rm r) → v1 = bI (eqB (B (Rm r)) (B (Rm u)) i) → vV p l e ({ frames := 1, cells := 0, slots := 0, locals := 21 }) s m args below meth c 5 D vCl sb Q (mW k o B Ln Rm Rd Pl Mk G Sz Kp th) 0 0 52 [(4, .int (nI (i))), (3, .int (v1)), (0, .ref (o 0)), (1, .int (nI (r))), (2, .int (nI (u)))] [] := by
  intro z
  induction z with
  | zero =>
    intro i v1 hi hv1
    have hRr := hRm r hr
    have hRu := hRm u hu
    have hLr := hLn (Rm r)
    refine vIloadN X dX4_isLike_52 1 rfl ?_
    refine vIf_eq X 117 dX4_isLike_53 (by decide) (fun hc53 => ?_) (fun hc53 => ?_)
    · have hq : v1 = bI (eqB (B (Rm r)) (B (Rm u)) (Ln (Rm r))) := by
        have h0 := bI_of0 (hv1.symm.trans hc53)
        rw [hv1, h0]
        have := eqB_mono h0 (Ln (Rm r) - i)
        rw [show i + (Ln (Rm r) - i) = Ln (Rm r) by omega] at this
        rw [this]
      subst hq
      refine vSub [1, 2, 3, 4] [(3, .int (bI (eqB (B (Rm r)) (B (Rm u)) (Ln (Rm r))))), (0, .ref (o 0)), (1, .int (nI (r))), (2, .int (nI (u)))] rfl ?_
      exact hex
    · have hq : v1 = bI (eqB (B (Rm r)) (B (Rm u)) (Ln (Rm r))) := by rw [hv1, show i = Ln (Rm r) by omega]
      subst hq
      refine vIload X dX4_isLike_56 0 rfl ?_
      refine vAloadN X dX4_isLike_58 2 rfl ?_
      refine vIloadN X dX4_isLike_59 3 rfl ?_
      refine vCallVd X [.int (nI (i))] (mm_long0 l D k o sb B Ln Rm Rd Pl Mk G Sz Kp th r (by omega) (by omega)) (vGV q_790 q_792 q_9 q_29 q_793) ⟨by decide, by decide, (show _ = some 1 from by decide +kernel)⟩ ⟨Nat.le_of_ble_eq_true rfl, Nat.le_of_ble_eq_true rfl⟩ 0 4 rfl rfl rfl rfl (Nat.le_of_ble_eq_true rfl) dX4_isLike_60 ⟨Nat.zero_le _, Nat.zero_le _⟩ ?_
      refine vIcmpN_geT X 117 dX4_isLike_63 (by decide) (by omega) (by omega) (by omega) ?_
      refine vSub [1, 2, 3, 4] [(3, .int (bI (eqB (B (Rm r)) (B (Rm u)) (Ln (Rm r))))), (0, .ref (o 0)), (1, .int (nI (r))), (2, .int (nI (u)))] rfl ?_
      exact hex
  | succ z ih =>
    intro i v1 hi hv1
    have hRr := hRm r hr
    have hRu := hRm u hu
    have hLr := hLn (Rm r)
    refine vIloadN X dX4_isLike_52 1 rfl ?_
    refine vIf_eq X 117 dX4_isLike_53 (by decide) (fun hc53 => ?_) (fun hc53 => ?_)
    · have hq : v1 = bI (eqB (B (Rm r)) (B (Rm u)) (Ln (Rm r))) := by
        have h0 := bI_of0 (hv1.symm.trans hc53)
        rw [hv1, h0]
        have := eqB_mono h0 (Ln (Rm r) - i)
        rw [show i + (Ln (Rm r) - i) = Ln (Rm r) by omega] at this
        rw [this]
      subst hq
      refine vSub [1, 2, 3, 4] [(3, .int (bI (eqB (B (Rm r)) (B (Rm u)) (Ln (Rm r))))), (0, .ref (o 0)), (1, .int (nI (r))), (2, .int (nI (u)))] rfl ?_
      exact hex
    · refine vIload X dX4_isLike_56 0 rfl ?_
      refine vAloadN X dX4_isLike_58 2 rfl ?_
      refine vIloadN X dX4_isLike_59 3 rfl ?_
      refine vCallVd X [.int (nI (i))] (mm_long0 l D k o sb B Ln Rm Rd Pl Mk G Sz Kp th r (by omega) (by omega)) (vGV q_790 q_792 q_9 q_29 q_793) ⟨by decide, by decide, (show _ = some 1 from by decide +kernel)⟩ ⟨Nat.le_of_ble_eq_true rfl, Nat.le_of_ble_eq_true rfl⟩ 0 4 rfl rfl rfl rfl (Nat.le_of_ble_eq_true rfl) dX4_isLike_60 ⟨Nat.zero_le _, Nat.zero_le _⟩ ?_
      refine vIcmpN_geF X 117 dX4_isLike_63 (by decide) (by omega) (by omega) (by omega) ?_
      refine vAloadN X dX4_isLike_66 2 rfl ?_
      refine vGet X (C := RX4) (T := TX4) (N := 10) (ci := 4) (vcons inM) rfl 0 rfl 0 (by decide) (List.mem_cons_of_mem _ q_742) (fun _ h => h) rfl dX4_isLike_67 ?_
      refine vSipush X dX4_isLike_70 (v := nI (256)) (by decide) ?_
      refine vAloadN X dX4_isLike_73 2 rfl ?_
      refine vGet X (C := RX4) (T := TX4) (N := 10) (ci := 4) (vcons inM) rfl 0 rfl 2 (by decide) (List.mem_cons_of_mem _ q_744) (fun _ h => h) rfl dX4_isLike_74 ?_
      refine vIloadN X dX4_isLike_77 3 rfl ?_
      refine vIaload X (v := nI (Rm (r))) 3 1 rfl rfl rfl (by omega) (by decide) rfl dX4_isLike_78 ?_
      refine vImul X dX4_isLike_79 (v := nI ((256) * (Rm (r)))) (pk_mul _ _) ?_
      refine vIload X dX4_isLike_80 0 rfl ?_
      refine vIadd X dX4_isLike_82 (v := nI (((256) * (Rm (r))) + (i))) (nI_add _ _) ?_
      refine vIaload X (v := B (Rm (r)) (i)) 1 1 rfl rfl rfl (by omega) (by decide) (fl2_at _ (X := Rm (r)) (Y := i) (by omega) (by omega)) dX4_isLike_83 ?_
      refine vAloadN X dX4_isLike_84 2 rfl ?_
      refine vGet X (C := RX4) (T := TX4) (N := 10) (ci := 4) (vcons inM) rfl 0 rfl 0 (by decide) (List.mem_cons_of_mem _ q_742) (fun _ h => h) rfl dX4_isLike_85 ?_
      refine vSipush X dX4_isLike_88 (v := nI (256)) (by decide) ?_
      refine vAloadN X dX4_isLike_91 2 rfl ?_
      refine vGet X (C := RX4) (T := TX4) (N := 10) (ci := 4) (vcons inM) rfl 0 rfl 2 (by decide) (List.mem_cons_of_mem _ q_744) (fun _ h => h) rfl dX4_isLike_92 ?_
      refine vIloadN X dX4_isLike_95 4 rfl ?_
      refine vIaload X (v := nI (Rm (u))) 3 1 rfl rfl rfl (by omega) (by decide) rfl dX4_isLike_96 ?_
      refine vImul X dX4_isLike_97 (v := nI ((256) * (Rm (u)))) (pk_mul _ _) ?_
      refine vIload X dX4_isLike_98 0 rfl ?_
      refine vIadd X dX4_isLike_100 (v := nI (((256) * (Rm (u))) + (i))) (nI_add _ _) ?_
      refine vIaload X (v := B (Rm (u)) (i)) 1 1 rfl rfl rfl (by omega) (by decide) (fl2_at _ (X := Rm (u)) (Y := i) (by omega) (by omega)) dX4_isLike_101 ?_
      refine vIcmp_ne X 109 dX4_isLike_102 (by decide) (fun hc102 => ?_) (fun hc102 => ?_)
      · refine vIconst X dX4_isLike_109 (v := nI (0)) (by decide) ?_
        refine vIstoreN X [(3, .int (nI (0))), (4, .int (nI (i))), (0, .ref (o 0)), (1, .int (nI (r))), (2, .int (nI (u)))] dX4_isLike_110 (by decide) rfl ?_
        refine vIinc X [(4, .int (nI (i + 1))), (3, .int (nI (0))), (0, .ref (o 0)), (1, .int (nI (r))), (2, .int (nI (u)))] dX4_isLike_111 1 rfl (nI_inc _) (by decide) rfl ?_
        refine vGoto X 52 dX4_isLike_114 (by decide) ?_
        refine vSub [0, 1, 2, 3, 4] [(4, .int (nI (i + 1))), (3, .int (nI (0))), (0, .ref (o 0)), (1, .int (nI (r))), (2, .int (nI (u)))] rfl ?_
        exact ih (i + 1) _ (by omega) (by have h1 := bI_of1 (fun q => hc53 (hv1.trans q)); simp [eqB, h1, hc102, bI])
      · refine vIconst X dX4_isLike_105 (v := nI (1)) (by decide) ?_
        refine vGoto X 110 dX4_isLike_106 (by decide) ?_
        refine vIstoreN X [(3, .int (nI (1))), (4, .int (nI (i))), (0, .ref (o 0)), (1, .int (nI (r))), (2, .int (nI (u)))] dX4_isLike_110 (by decide) rfl ?_
        refine vIinc X [(4, .int (nI (i + 1))), (3, .int (nI (1))), (0, .ref (o 0)), (1, .int (nI (r))), (2, .int (nI (u)))] dX4_isLike_111 1 rfl (nI_inc _) (by decide) rfl ?_
        refine vGoto X 52 dX4_isLike_114 (by decide) ?_
        refine vSub [0, 1, 2, 3, 4] [(4, .int (nI (i + 1))), (3, .int (nI (1))), (0, .ref (o 0)), (1, .int (nI (r))), (2, .int (nI (u)))] rfl ?_
        exact ih (i + 1) _ (by omega) (by have h1 := bI_of1 (fun q => hc53 (hv1.trans q)); simp [eqB, h1, hc102, bI])
set_option maxHeartbeats 4000000 in
set_option maxRecDepth 100000 in
theorem mm_isLike1a (l : Launch) (D : va_G) (k : Nat → ClassId) (o : Nat → Nat) (sb : Nat) (B : Nat → Nat → Int32) (Ln Rm : Nat → Nat) (Rd : Nat → Option Nat) (Pl Mk : Nat → Nat) (G : Nat → Nat → Int32) (Sz : Nat → Nat) (Kp : Nat → Int32) (th : Int32) (x y : Int32) (hx : ¬ vRow x) : vCt l yX4_isLike cX4_isLike 5 (some .boolean) 1 21 0 0 D vCl (vTy k) sb [.ref (o 0), .int (x), .int (y)] (mW k o B Ln Rm Rd Pl Mk G Sz Kp th) (vDet (some (.int (nI (0)))) (mW k o B Ln Rm Rd Pl Mk G Sz Kp (nI (1)))) := by
  refine vOf (by decide +kernel) (Nat.le_of_ble_eq_true rfl) (fun p e s m below meth c X hret _ => ?_)
  refine vAloadN X dX4_isLike_0 0 rfl ?_
  refine vAloadN X dX4_isLike_1 0 rfl ?_
  refine vIloadN X dX4_isLike_2 1 rfl ?_
  refine vCallVd X [.ref (o 0)] (mm_isRowF l D k o sb B Ln Rm Rd Pl Mk G Sz Kp th x hx) (vGV q_782 q_784 q_7 q_29 q_785) ⟨by decide, by decide, (show _ = some 1 from by decide +kernel)⟩ ⟨Nat.le_of_ble_eq_true rfl, Nat.le_of_ble_eq_true rfl⟩ 0 4 rfl rfl rfl rfl (Nat.le_of_ble_eq_true rfl) dX4_isLike_3 ⟨Nat.zero_le _, Nat.zero_le _⟩ ?_
  refine vIfN_eqT X 21 dX4_isLike_6 (by decide) (by omega) (by omega) ?_
  refine vIconst X dX4_isLike_21 (v := nI (1)) (by decide) ?_
  refine vCallVd X [] (mm_isWrong1 l D k o sb B Ln Rm Rd Pl Mk G Sz Kp th 1 (by decide) (by decide)) (vGV q_786 q_788 q_8 q_29 q_789) ⟨by decide, by decide, (show _ = some 1 from by decide +kernel)⟩ ⟨Nat.le_of_ble_eq_true rfl, Nat.le_of_ble_eq_true rfl⟩ 0 4 rfl rfl rfl rfl (Nat.le_of_ble_eq_true rfl) dX4_isLike_22 ⟨Nat.zero_le _, Nat.zero_le _⟩ ?_
  refine vIfN_eqF X 30 dX4_isLike_25 (by decide) (by omega) (by omega) ?_
  refine vIconst X dX4_isLike_28 (v := nI (0)) (by decide) ?_
  exact vRetZ X hret (by first | rfl | exact nar_bI _) dX4_isLike_29 ⟨rfl, rfl⟩
set_option maxHeartbeats 4000000 in
set_option maxRecDepth 100000 in
theorem mm_isLike1b (l : Launch) (D : va_G) (k : Nat → ClassId) (o : Nat → Nat) (sb : Nat) (B : Nat → Nat → Int32) (Ln Rm : Nat → Nat) (Rd : Nat → Option Nat) (Pl Mk : Nat → Nat) (G : Nat → Nat → Int32) (Sz : Nat → Nat) (Kp : Nat → Int32) (th : Int32) (r : Nat) (y : Int32) (hr : r < 4) (hy : ¬ vRow y) : vCt l yX4_isLike cX4_isLike 5 (some .boolean) 1 21 0 0 D vCl (vTy k) sb [.ref (o 0), .int (nI (r)), .int (y)] (mW k o B Ln Rm Rd Pl Mk G Sz Kp th) (vDet (some (.int (nI (0)))) (mW k o B Ln Rm Rd Pl Mk G Sz Kp (nI (1)))) := by
  refine vOf (by decide +kernel) (Nat.le_of_ble_eq_true rfl) (fun p e s m below meth c X hret _ => ?_)
  refine vAloadN X dX4_isLike_0 0 rfl ?_
  refine vAloadN X dX4_isLike_1 0 rfl ?_
  refine vIloadN X dX4_isLike_2 1 rfl ?_
  refine vCallVd X [.ref (o 0)] (mm_isRowT l D k o sb B Ln Rm Rd Pl Mk G Sz Kp th r (by omega)) (vGV q_782 q_784 q_7 q_29 q_785) ⟨by decide, by decide, (show _ = some 1 from by decide +kernel)⟩ ⟨Nat.le_of_ble_eq_true rfl, Nat.le_of_ble_eq_true rfl⟩ 0 4 rfl rfl rfl rfl (Nat.le_of_ble_eq_true rfl) dX4_isLike_3 ⟨Nat.zero_le _, Nat.zero_le _⟩ ?_
  refine vIfN_eqF X 21 dX4_isLike_6 (by decide) (by omega) (by omega) ?_
  refine vAloadN X dX4_isLike_9 0 rfl ?_
  refine vIloadN X dX4_isLike_10 2 rfl ?_
  refine vCallVd X [.ref (o 0)] (mm_isRowF l D k o sb B Ln Rm Rd Pl Mk G Sz Kp th y hy) (vGV q_782 q_784 q_7 q_29 q_785) ⟨by decide, by decide, (show _ = some 1 from by decide +kernel)⟩ ⟨Nat.le_of_ble_eq_true rfl, Nat.le_of_ble_eq_true rfl⟩ 0 4 rfl rfl rfl rfl (Nat.le_of_ble_eq_true rfl) dX4_isLike_11 ⟨Nat.zero_le _, Nat.zero_le _⟩ ?_
  refine vIfN_eqT X 21 dX4_isLike_14 (by decide) (by omega) (by omega) ?_
  refine vIconst X dX4_isLike_21 (v := nI (1)) (by decide) ?_
  refine vCallVd X [] (mm_isWrong1 l D k o sb B Ln Rm Rd Pl Mk G Sz Kp th 1 (by decide) (by decide)) (vGV q_786 q_788 q_8 q_29 q_789) ⟨by decide, by decide, (show _ = some 1 from by decide +kernel)⟩ ⟨Nat.le_of_ble_eq_true rfl, Nat.le_of_ble_eq_true rfl⟩ 0 4 rfl rfl rfl rfl (Nat.le_of_ble_eq_true rfl) dX4_isLike_22 ⟨Nat.zero_le _, Nat.zero_le _⟩ ?_
  refine vIfN_eqF X 30 dX4_isLike_25 (by decide) (by omega) (by omega) ?_
  refine vIconst X dX4_isLike_28 (v := nI (0)) (by decide) ?_
  exact vRetZ X hret (by first | rfl | exact nar_bI _) dX4_isLike_29 ⟨rfl, rfl⟩
set_option maxHeartbeats 4000000 in
set_option maxRecDepth 100000 in
theorem mm_isLike0a (l : Launch) (D : va_G) (k : Nat → ClassId) (o : Nat → Nat) (sb : Nat) (B : Nat → Nat → Int32) (Ln Rm : Nat → Nat) (Rd : Nat → Option Nat) (Pl Mk : Nat → Nat) (G : Nat → Nat → Int32) (Sz : Nat → Nat) (Kp : Nat → Int32) (th : Int32) (r u : Nat) (hr : r < 4) (hu : u < 4) (hRm : ∀ r, r < 4 → Rm r < 8) (hLn : ∀ a, Ln a ≤ 256) (hln : ¬ Ln (Rm r) = Ln (Rm u)) : vCt l yX4_isLike cX4_isLike 5 (some .boolean) 1 21 0 0 D vCl (vTy k) sb [.ref (o 0), .int (nI (r)), .int (nI (u))] (mW k o B Ln Rm Rd Pl Mk G Sz Kp th) (vDet (some (.int (nI (0)))) (mW k o B Ln Rm Rd Pl Mk G Sz Kp (nI (0)))) := by
  have hRr := hRm r hr
  have hRu := hRm u hu
  have hLr := hLn (Rm r)
  have hLu := hLn (Rm u)
  refine vOf (by decide +kernel) (Nat.le_of_ble_eq_true rfl) (fun p e s m below meth c X hret _ => ?_)
  refine vAloadN X dX4_isLike_0 0 rfl ?_
  refine vAloadN X dX4_isLike_1 0 rfl ?_
  refine vIloadN X dX4_isLike_2 1 rfl ?_
  refine vCallVd X [.ref (o 0)] (mm_isRowT l D k o sb B Ln Rm Rd Pl Mk G Sz Kp th r (by omega)) (vGV q_782 q_784 q_7 q_29 q_785) ⟨by decide, by decide, (show _ = some 1 from by decide +kernel)⟩ ⟨Nat.le_of_ble_eq_true rfl, Nat.le_of_ble_eq_true rfl⟩ 0 4 rfl rfl rfl rfl (Nat.le_of_ble_eq_true rfl) dX4_isLike_3 ⟨Nat.zero_le _, Nat.zero_le _⟩ ?_
  refine vIfN_eqF X 21 dX4_isLike_6 (by decide) (by omega) (by omega) ?_
  refine vAloadN X dX4_isLike_9 0 rfl ?_
  refine vIloadN X dX4_isLike_10 2 rfl ?_
  refine vCallVd X [.ref (o 0)] (mm_isRowT l D k o sb B Ln Rm Rd Pl Mk G Sz Kp th u (by omega)) (vGV q_782 q_784 q_7 q_29 q_785) ⟨by decide, by decide, (show _ = some 1 from by decide +kernel)⟩ ⟨Nat.le_of_ble_eq_true rfl, Nat.le_of_ble_eq_true rfl⟩ 0 4 rfl rfl rfl rfl (Nat.le_of_ble_eq_true rfl) dX4_isLike_11 ⟨Nat.zero_le _, Nat.zero_le _⟩ ?_
  refine vIfN_eqF X 21 dX4_isLike_14 (by decide) (by omega) (by omega) ?_
  refine vIconst X dX4_isLike_17 (v := nI (0)) (by decide) ?_
  refine vGoto X 22 dX4_isLike_18 (by decide) ?_
  refine vCallVd X [] (mm_isWrong0 l D k o sb B Ln Rm Rd Pl Mk G Sz Kp th ) (vGV q_786 q_788 q_8 q_29 q_789) ⟨by decide, by decide, (show _ = some 1 from by decide +kernel)⟩ ⟨Nat.le_of_ble_eq_true rfl, Nat.le_of_ble_eq_true rfl⟩ 0 4 rfl rfl rfl rfl (Nat.le_of_ble_eq_true rfl) dX4_isLike_22 ⟨Nat.zero_le _, Nat.zero_le _⟩ ?_
  refine vIfN_eqT X 30 dX4_isLike_25 (by decide) (by omega) (by omega) ?_
  refine vAloadN X dX4_isLike_30 0 rfl ?_
  refine vIloadN X dX4_isLike_31 1 rfl ?_
  refine vCallVd X [] (mm_long0 l D k o sb B Ln Rm Rd Pl Mk G Sz Kp (nI (0)) r (by omega) (by omega)) (vGV q_790 q_792 q_9 q_29 q_793) ⟨by decide, by decide, (show _ = some 1 from by decide +kernel)⟩ ⟨Nat.le_of_ble_eq_true rfl, Nat.le_of_ble_eq_true rfl⟩ 0 4 rfl rfl rfl rfl (Nat.le_of_ble_eq_true rfl) dX4_isLike_32 ⟨Nat.zero_le _, Nat.zero_le _⟩ ?_
  refine vAloadN X dX4_isLike_35 0 rfl ?_
  refine vIloadN X dX4_isLike_36 2 rfl ?_
  refine vCallVd X [.int (nI (Ln (Rm r)))] (mm_long0 l D k o sb B Ln Rm Rd Pl Mk G Sz Kp (nI (0)) u (by omega) (by omega)) (vGV q_790 q_792 q_9 q_29 q_793) ⟨by decide, by decide, (show _ = some 1 from by decide +kernel)⟩ ⟨Nat.le_of_ble_eq_true rfl, Nat.le_of_ble_eq_true rfl⟩ 0 4 rfl rfl rfl rfl (Nat.le_of_ble_eq_true rfl) dX4_isLike_37 ⟨Nat.zero_le _, Nat.zero_le _⟩ ?_
  refine vIcmpN_neT X 47 dX4_isLike_40 (by decide) (by omega) (by omega) (by omega) ?_
  refine vIconst X dX4_isLike_47 (v := nI (0)) (by decide) ?_
  refine vIstoreN X [(3, .int (nI (0))), (0, .ref (o 0)), (1, .int (nI (r))), (2, .int (nI (u)))] dX4_isLike_48 (by decide) rfl ?_
  refine vIconst X dX4_isLike_49 (v := nI (0)) (by decide) ?_
  refine vIstore X [(4, .int (nI (0))), (3, .int (nI (0))), (0, .ref (o 0)), (1, .int (nI (r))), (2, .int (nI (u)))] dX4_isLike_50 (by decide) rfl ?_
  refine vIloadN X dX4_isLike_52 1 rfl ?_
  refine vIfN_eqT X 117 dX4_isLike_53 (by decide) (by omega) (by omega) ?_
  refine vIloadN X dX4_isLike_117 1 rfl ?_
  exact vRetZ X hret (by first | rfl | exact nar_bI _) dX4_isLike_118 ⟨rfl, rfl⟩
set_option maxHeartbeats 4000000 in
set_option maxRecDepth 100000 in
theorem mm_isLike0b (l : Launch) (D : va_G) (k : Nat → ClassId) (o : Nat → Nat) (sb : Nat) (B : Nat → Nat → Int32) (Ln Rm : Nat → Nat) (Rd : Nat → Option Nat) (Pl Mk : Nat → Nat) (G : Nat → Nat → Int32) (Sz : Nat → Nat) (Kp : Nat → Int32) (th : Int32) (r u : Nat) (hr : r < 4) (hu : u < 4) (hRm : ∀ r, r < 4 → Rm r < 8) (hLn : ∀ a, Ln a ≤ 256) (hln : Ln (Rm r) = Ln (Rm u)) : vCt l yX4_isLike cX4_isLike 5 (some .boolean) 1 21 0 0 D vCl (vTy k) sb [.ref (o 0), .int (nI (r)), .int (nI (u))] (mW k o B Ln Rm Rd Pl Mk G Sz Kp th) (vDet (some (.int (bI (eqB (B (Rm r)) (B (Rm u)) (Ln (Rm r)))))) (mW k o B Ln Rm Rd Pl Mk G Sz Kp (nI (0)))) := by
  have hRr := hRm r hr
  have hRu := hRm u hu
  have hLr := hLn (Rm r)
  have hLu := hLn (Rm u)
  refine vOf (by decide +kernel) (Nat.le_of_ble_eq_true rfl) (fun p e s m below meth c X hret _ => ?_)
  refine vAloadN X dX4_isLike_0 0 rfl ?_
  refine vAloadN X dX4_isLike_1 0 rfl ?_
  refine vIloadN X dX4_isLike_2 1 rfl ?_
  refine vCallVd X [.ref (o 0)] (mm_isRowT l D k o sb B Ln Rm Rd Pl Mk G Sz Kp th r (by omega)) (vGV q_782 q_784 q_7 q_29 q_785) ⟨by decide, by decide, (show _ = some 1 from by decide +kernel)⟩ ⟨Nat.le_of_ble_eq_true rfl, Nat.le_of_ble_eq_true rfl⟩ 0 4 rfl rfl rfl rfl (Nat.le_of_ble_eq_true rfl) dX4_isLike_3 ⟨Nat.zero_le _, Nat.zero_le _⟩ ?_
  refine vIfN_eqF X 21 dX4_isLike_6 (by decide) (by omega) (by omega) ?_
  refine vAloadN X dX4_isLike_9 0 rfl ?_
  refine vIloadN X dX4_isLike_10 2 rfl ?_
  refine vCallVd X [.ref (o 0)] (mm_isRowT l D k o sb B Ln Rm Rd Pl Mk G Sz Kp th u (by omega)) (vGV q_782 q_784 q_7 q_29 q_785) ⟨by decide, by decide, (show _ = some 1 from by decide +kernel)⟩ ⟨Nat.le_of_ble_eq_true rfl, Nat.le_of_ble_eq_true rfl⟩ 0 4 rfl rfl rfl rfl (Nat.le_of_ble_eq_true rfl) dX4_isLike_11 ⟨Nat.zero_le _, Nat.zero_le _⟩ ?_
  refine vIfN_eqF X 21 dX4_isLike_14 (by decide) (by omega) (by omega) ?_
  refine vIconst X dX4_isLike_17 (v := nI (0)) (by decide) ?_
  refine vGoto X 22 dX4_isLike_18 (by decide) ?_
  refine vCallVd X [] (mm_isWrong0 l D k o sb B Ln Rm Rd Pl Mk G Sz Kp th ) (vGV q_786 q_788 q_8 q_29 q_789) ⟨by decide, by decide, (show _ = some 1 from by decide +kernel)⟩ ⟨Nat.le_of_ble_eq_true rfl, Nat.le_of_ble_eq_true rfl⟩ 0 4 rfl rfl rfl rfl (Nat.le_of_ble_eq_true rfl) dX4_isLike_22 ⟨Nat.zero_le _, Nat.zero_le _⟩ ?_
  refine vIfN_eqT X 30 dX4_isLike_25 (by decide) (by omega) (by omega) ?_
  refine vAloadN X dX4_isLike_30 0 rfl ?_
  refine vIloadN X dX4_isLike_31 1 rfl ?_
  refine vCallVd X [] (mm_long0 l D k o sb B Ln Rm Rd Pl Mk G Sz Kp (nI (0)) r (by omega) (by omega)) (vGV q_790 q_792 q_9 q_29 q_793) ⟨by decide, by decide, (show _ = some 1 from by decide +kernel)⟩ ⟨Nat.le_of_ble_eq_true rfl, Nat.le_of_ble_eq_true rfl⟩ 0 4 rfl rfl rfl rfl (Nat.le_of_ble_eq_true rfl) dX4_isLike_32 ⟨Nat.zero_le _, Nat.zero_le _⟩ ?_
  refine vAloadN X dX4_isLike_35 0 rfl ?_
  refine vIloadN X dX4_isLike_36 2 rfl ?_
  refine vCallVd X [.int (nI (Ln (Rm r)))] (mm_long0 l D k o sb B Ln Rm Rd Pl Mk G Sz Kp (nI (0)) u (by omega) (by omega)) (vGV q_790 q_792 q_9 q_29 q_793) ⟨by decide, by decide, (show _ = some 1 from by decide +kernel)⟩ ⟨Nat.le_of_ble_eq_true rfl, Nat.le_of_ble_eq_true rfl⟩ 0 4 rfl rfl rfl rfl (Nat.le_of_ble_eq_true rfl) dX4_isLike_37 ⟨Nat.zero_le _, Nat.zero_le _⟩ ?_
  refine vIcmpN_neF X 47 dX4_isLike_40 (by decide) (by omega) (by omega) (by omega) ?_
  refine vIconst X dX4_isLike_43 (v := nI (1)) (by decide) ?_
  refine vGoto X 48 dX4_isLike_44 (by decide) ?_
  refine vIstoreN X [(3, .int (nI (1))), (0, .ref (o 0)), (1, .int (nI (r))), (2, .int (nI (u)))] dX4_isLike_48 (by decide) rfl ?_
  refine vIconst X dX4_isLike_49 (v := nI (0)) (by decide) ?_
  refine vIstore X [(4, .int (nI (0))), (3, .int (nI (1))), (0, .ref (o 0)), (1, .int (nI (r))), (2, .int (nI (u)))] dX4_isLike_50 (by decide) rfl ?_
  refine vSub [0, 1, 2, 3, 4] [(4, .int (nI (0))), (3, .int (nI (1))), (0, .ref (o 0)), (1, .int (nI (r))), (2, .int (nI (u)))] rfl ?_
  refine mL_isLike D k o sb B Ln Rm Rd Pl Mk G Sz Kp (nI (0)) r u hr hu hRm hLn hln X ?_ (Ln (Rm r)) 0 _ (by omega) rfl
  refine vIloadN X dX4_isLike_117 0 rfl ?_
  exact vRetZ X hret (by first | rfl | exact nar_bI _) dX4_isLike_118 ⟨rfl, rfl⟩
set_option maxHeartbeats 4000000 in
set_option maxRecDepth 100000 in
theorem mm_isFullT (l : Launch) (D : va_G) (k : Nat → ClassId) (o : Nat → Nat) (sb : Nat) (B : Nat → Nat → Int32) (Ln Rm : Nat → Nat) (Rd : Nat → Option Nat) (Pl Mk : Nat → Nat) (G : Nat → Nat → Int32) (Sz : Nat → Nat) (Kp : Nat → Int32) (th : Int32) (g n : Nat) (hg : g < 3) (hs : Sz g ≤ 256) (hn : n ≤ 256) (h : 256 < Sz g + n) : vCt l yX4_isFull cX4_isFull 3 (some .boolean) 0 0 0 0 D vCl (vTy k) sb [.ref (o 0), .int (nI (g)), .int (nI (n))] (mW k o B Ln Rm Rd Pl Mk G Sz Kp th) (vDet (some (.int (nI (1)))) (mW k o B Ln Rm Rd Pl Mk G Sz Kp th)) := by
  refine vOf (by decide +kernel) (Nat.le_of_ble_eq_true rfl) (fun p e s m below meth c X hret _ => ?_)
  refine vAloadN X dX4_isFull_0 0 rfl ?_
  refine vGet X (C := RX4) (T := TX4) (N := 10) (ci := 4) (vcons inM) rfl 0 rfl 7 (by decide) (List.mem_cons_of_mem _ q_749) (fun _ h => h) rfl dX4_isFull_1 ?_
  refine vIloadN X dX4_isFull_4 1 rfl ?_
  refine vIaload X (v := nI (Sz (g))) 8 1 rfl rfl rfl (by omega) (by decide) rfl dX4_isFull_5 ?_
  refine vIloadN X dX4_isFull_6 2 rfl ?_
  refine vIadd X dX4_isFull_7 (v := nI ((Sz (g)) + (n))) (nI_add _ _) ?_
  refine vSipush X dX4_isFull_8 (v := nI (256)) (by decide) ?_
  refine vIcmpN_leF X 18 dX4_isFull_11 (by decide) (by omega) (by omega) (by omega) ?_
  refine vIconst X dX4_isFull_14 (v := nI (1)) (by decide) ?_
  refine vGoto X 19 dX4_isFull_15 (by decide) ?_
  exact vRetZ X hret (by first | rfl | exact nar_bI _) dX4_isFull_19 ⟨rfl, rfl⟩
set_option maxHeartbeats 4000000 in
set_option maxRecDepth 100000 in
theorem mm_isFullF (l : Launch) (D : va_G) (k : Nat → ClassId) (o : Nat → Nat) (sb : Nat) (B : Nat → Nat → Int32) (Ln Rm : Nat → Nat) (Rd : Nat → Option Nat) (Pl Mk : Nat → Nat) (G : Nat → Nat → Int32) (Sz : Nat → Nat) (Kp : Nat → Int32) (th : Int32) (g n : Nat) (hg : g < 3) (h : Sz g + n ≤ 256) : vCt l yX4_isFull cX4_isFull 3 (some .boolean) 0 0 0 0 D vCl (vTy k) sb [.ref (o 0), .int (nI (g)), .int (nI (n))] (mW k o B Ln Rm Rd Pl Mk G Sz Kp th) (vDet (some (.int (nI (0)))) (mW k o B Ln Rm Rd Pl Mk G Sz Kp th)) := by
  refine vOf (by decide +kernel) (Nat.le_of_ble_eq_true rfl) (fun p e s m below meth c X hret _ => ?_)
  refine vAloadN X dX4_isFull_0 0 rfl ?_
  refine vGet X (C := RX4) (T := TX4) (N := 10) (ci := 4) (vcons inM) rfl 0 rfl 7 (by decide) (List.mem_cons_of_mem _ q_749) (fun _ h => h) rfl dX4_isFull_1 ?_
  refine vIloadN X dX4_isFull_4 1 rfl ?_
  refine vIaload X (v := nI (Sz (g))) 8 1 rfl rfl rfl (by omega) (by decide) rfl dX4_isFull_5 ?_
  refine vIloadN X dX4_isFull_6 2 rfl ?_
  refine vIadd X dX4_isFull_7 (v := nI ((Sz (g)) + (n))) (nI_add _ _) ?_
  refine vSipush X dX4_isFull_8 (v := nI (256)) (by decide) ?_
  refine vIcmpN_leT X 18 dX4_isFull_11 (by decide) (by omega) (by omega) (by omega) ?_
  refine vIconst X dX4_isFull_18 (v := nI (0)) (by decide) ?_
  exact vRetZ X hret (by first | rfl | exact nar_bI _) dX4_isFull_19 ⟨rfl, rfl⟩
set_option maxHeartbeats 4000000 in
set_option maxRecDepth 100000 in
theorem mm_adds (l : Launch) (D : va_G) (k : Nat → ClassId) (o : Nat → Nat) (sb : Nat) (B : Nat → Nat → Int32) (Ln Rm : Nat → Nat) (Rd : Nat → Option Nat) (Pl Mk : Nat → Nat) (G : Nat → Nat → Int32) (Sz : Nat → Nat) (Kp : Nat → Int32) (th : Int32) (g : Nat) (v : Int32) (hg : g < 3) (hs : Sz g < 256) : vCt l yX4_adds cX4_adds 3 none 1 22 0 0 D vCl (vTy k) sb [.ref (o 0), .int (nI (g)), .int (v)] (mW k o B Ln Rm Rd Pl Mk G Sz Kp th) (vDet none (mW k o B Ln Rm Rd Pl Mk (up2 G (g) (Sz (g)) (lb (v))) (va_up Sz (g) ((Sz (g)) + (1))) Kp th)) := by
  refine vOf (by decide +kernel) (Nat.le_of_ble_eq_true rfl) (fun p e s m below meth c X hret _ => ?_)
  refine vAloadN X dX4_adds_0 0 rfl ?_
  refine vGet X (C := RX4) (T := TX4) (N := 10) (ci := 4) (vcons inM) rfl 0 rfl 6 (by decide) (List.mem_cons_of_mem _ q_748) (fun _ h => h) rfl dX4_adds_1 ?_
  refine vSipush X dX4_adds_4 (v := nI (256)) (by decide) ?_
  refine vIloadN X dX4_adds_7 1 rfl ?_
  refine vImul X dX4_adds_8 (v := nI ((256) * (g))) (pk_mul _ _) ?_
  refine vAloadN X dX4_adds_9 0 rfl ?_
  refine vGet X (C := RX4) (T := TX4) (N := 10) (ci := 4) (vcons inM) rfl 0 rfl 7 (by decide) (List.mem_cons_of_mem _ q_749) (fun _ h => h) rfl dX4_adds_10 ?_
  refine vIloadN X dX4_adds_13 1 rfl ?_
  refine vIaload X (v := nI (Sz (g))) 8 1 rfl rfl rfl (by omega) (by decide) rfl dX4_adds_14 ?_
  refine vIadd X dX4_adds_15 (v := nI (((256) * (g)) + (Sz (g)))) (nI_add _ _) ?_
  refine vAloadN X dX4_adds_16 0 rfl ?_
  refine vIloadN X dX4_adds_17 2 rfl ?_
  refine vCallVd X [.int (nI (((256) * (g)) + (Sz (g)))), .ref (o 7)] (mm_low l D k o sb B Ln Rm Rd Pl Mk G Sz Kp th v) (vGV q_822 q_824 q_13 q_29 q_825) ⟨by decide, by decide, (show _ = some 1 from by decide +kernel)⟩ ⟨Nat.le_of_ble_eq_true rfl, Nat.le_of_ble_eq_true rfl⟩ 0 4 rfl rfl rfl rfl (Nat.le_of_ble_eq_true rfl) dX4_adds_18 ⟨Nat.zero_le _, Nat.zero_le _⟩ ?_
  refine vIastore X (g := fl2 (up2 G (g) (Sz (g)) (lb (v)))) 7 1 rfl rfl rfl (by omega) (by decide) (fl2_up _ _ (X := g) (Y := Sz (g)) (by omega) (by omega)) dX4_adds_21 ?_
  refine vWs (ws' := mW k o B Ln Rm Rd Pl Mk (up2 G (g) (Sz (g)) (lb (v))) Sz Kp th) rfl ?_
  refine vAloadN X dX4_adds_22 0 rfl ?_
  refine vGet X (C := RX4) (T := TX4) (N := 10) (ci := 4) (vcons inM) rfl 0 rfl 7 (by decide) (List.mem_cons_of_mem _ q_749) (fun _ h => h) rfl dX4_adds_23 ?_
  refine vIloadN X dX4_adds_26 1 rfl ?_
  refine vDup2 X dX4_adds_27 rfl rfl ?_
  refine vIaload X (v := nI (Sz (g))) 8 1 rfl rfl rfl (by omega) (by decide) rfl dX4_adds_28 ?_
  refine vIconst X dX4_adds_29 (v := nI (1)) (by decide) ?_
  refine vIadd X dX4_adds_30 (v := nI ((Sz (g)) + (1))) (nI_add _ _) ?_
  refine vIastore X (g := (fun q => nI ((va_up Sz (g) ((Sz (g)) + (1))) q))) 8 1 rfl rfl rfl (by omega) (by decide) (nI_up _ _ _) dX4_adds_31 ?_
  refine vWs (ws' := mW k o B Ln Rm Rd Pl Mk (up2 G (g) (Sz (g)) (lb (v))) (va_up Sz (g) ((Sz (g)) + (1))) Kp th) rfl ?_
  exact vRetV X hret dX4_adds_32 ⟨rfl, rfl⟩
set_option maxHeartbeats 4000000 in
set_option maxRecDepth 100000 in
theorem mm_write1 (l : Launch) (D : va_G) (k : Nat → ClassId) (o : Nat → Nat) (sb : Nat) (B : Nat → Nat → Int32) (Ln Rm : Nat → Nat) (Rd : Nat → Option Nat) (Pl Mk : Nat → Nat) (G : Nat → Nat → Int32) (Sz : Nat → Nat) (Kp : Nat → Int32) (th : Int32) (x v : Int32) (hx : ¬ vOther x) : vCt l yX4_write cX4_write 3 (some .int) 2 44 0 0 D vCl (vTy k) sb [.ref (o 0), .int (x), .int (v)] (mW k o B Ln Rm Rd Pl Mk G Sz Kp th) (vDet (some (.int (nI (0)))) (mW k o B Ln Rm Rd Pl Mk G Sz Kp (nI (1)))) := by
  refine vOf (by decide +kernel) (Nat.le_of_ble_eq_true rfl) (fun p e s m below meth c X hret _ => ?_)
  refine vAloadN X dX4_write_0 0 rfl ?_
  refine vAloadN X dX4_write_1 0 rfl ?_
  refine vIloadN X dX4_write_2 1 rfl ?_
  refine vCallVd X [.ref (o 0)] (mm_isOtherF l D k o sb B Ln Rm Rd Pl Mk G Sz Kp th x hx) (vGV q_838 q_840 q_14 q_29 q_841) ⟨by decide, by decide, (show _ = some 1 from by decide +kernel)⟩ ⟨Nat.le_of_ble_eq_true rfl, Nat.le_of_ble_eq_true rfl⟩ 0 4 rfl rfl rfl rfl (Nat.le_of_ble_eq_true rfl) dX4_write_3 ⟨Nat.zero_le _, Nat.zero_le _⟩ ?_
  refine vIfN_neF X 13 dX4_write_6 (by decide) (by omega) (by omega) ?_
  refine vIconst X dX4_write_9 (v := nI (1)) (by decide) ?_
  refine vGoto X 27 dX4_write_10 (by decide) ?_
  refine vCallVd X [] (mm_isWrong1 l D k o sb B Ln Rm Rd Pl Mk G Sz Kp th 1 (by decide) (by decide)) (vGV q_786 q_788 q_8 q_29 q_789) ⟨by decide, by decide, (show _ = some 1 from by decide +kernel)⟩ ⟨Nat.le_of_ble_eq_true rfl, Nat.le_of_ble_eq_true rfl⟩ 0 4 rfl rfl rfl rfl (Nat.le_of_ble_eq_true rfl) dX4_write_27 ⟨Nat.zero_le _, Nat.zero_le _⟩ ?_
  refine vIfN_eqF X 35 dX4_write_30 (by decide) (by omega) (by omega) ?_
  refine vIconst X dX4_write_33 (v := nI (0)) (by decide) ?_
  exact vRetI X hret dX4_write_34 ⟨rfl, rfl⟩
set_option maxHeartbeats 4000000 in
set_option maxRecDepth 100000 in
theorem mm_write2 (l : Launch) (D : va_G) (k : Nat → ClassId) (o : Nat → Nat) (sb : Nat) (B : Nat → Nat → Int32) (Ln Rm : Nat → Nat) (Rd : Nat → Option Nat) (Pl Mk : Nat → Nat) (G : Nat → Nat → Int32) (Sz : Nat → Nat) (Kp : Nat → Int32) (th : Int32) (g : Nat) (v : Int32) (hg : g < 3) (hs : Sz g ≤ 256) (h : 256 < Sz g + 1) : vCt l yX4_write cX4_write 3 (some .int) 2 44 0 0 D vCl (vTy k) sb [.ref (o 0), .int (nI (g)), .int (v)] (mW k o B Ln Rm Rd Pl Mk G Sz Kp th) (vDet (some (.int (nI (0)))) (mW k o B Ln Rm Rd Pl Mk G Sz Kp (nI (2)))) := by
  refine vOf (by decide +kernel) (Nat.le_of_ble_eq_true rfl) (fun p e s m below meth c X hret _ => ?_)
  refine vAloadN X dX4_write_0 0 rfl ?_
  refine vAloadN X dX4_write_1 0 rfl ?_
  refine vIloadN X dX4_write_2 1 rfl ?_
  refine vCallVd X [.ref (o 0)] (mm_isOtherT l D k o sb B Ln Rm Rd Pl Mk G Sz Kp th g (by omega)) (vGV q_838 q_840 q_14 q_29 q_841) ⟨by decide, by decide, (show _ = some 1 from by decide +kernel)⟩ ⟨Nat.le_of_ble_eq_true rfl, Nat.le_of_ble_eq_true rfl⟩ 0 4 rfl rfl rfl rfl (Nat.le_of_ble_eq_true rfl) dX4_write_3 ⟨Nat.zero_le _, Nat.zero_le _⟩ ?_
  refine vIfN_neT X 13 dX4_write_6 (by decide) (by omega) (by omega) ?_
  refine vAloadN X dX4_write_13 0 rfl ?_
  refine vIloadN X dX4_write_14 1 rfl ?_
  refine vIconst X dX4_write_15 (v := nI (1)) (by decide) ?_
  refine vCallVd X [.ref (o 0)] (mm_isFullT l D k o sb B Ln Rm Rd Pl Mk G Sz Kp th g 1 (by omega) (by omega) (by omega) (by omega)) (vGV q_842 q_844 q_15 q_29 q_845) ⟨by decide, by decide, (show _ = some 2 from by decide +kernel)⟩ ⟨Nat.le_of_ble_eq_true rfl, Nat.le_of_ble_eq_true rfl⟩ 0 4 rfl rfl rfl rfl (Nat.le_of_ble_eq_true rfl) dX4_write_16 ⟨Nat.zero_le _, Nat.zero_le _⟩ ?_
  refine vIfN_eqF X 26 dX4_write_19 (by decide) (by omega) (by omega) ?_
  refine vIconst X dX4_write_22 (v := nI (2)) (by decide) ?_
  refine vGoto X 27 dX4_write_23 (by decide) ?_
  refine vCallVd X [] (mm_isWrong1 l D k o sb B Ln Rm Rd Pl Mk G Sz Kp th 2 (by decide) (by decide)) (vGV q_786 q_788 q_8 q_29 q_789) ⟨by decide, by decide, (show _ = some 1 from by decide +kernel)⟩ ⟨Nat.le_of_ble_eq_true rfl, Nat.le_of_ble_eq_true rfl⟩ 0 4 rfl rfl rfl rfl (Nat.le_of_ble_eq_true rfl) dX4_write_27 ⟨Nat.zero_le _, Nat.zero_le _⟩ ?_
  refine vIfN_eqF X 35 dX4_write_30 (by decide) (by omega) (by omega) ?_
  refine vIconst X dX4_write_33 (v := nI (0)) (by decide) ?_
  exact vRetI X hret dX4_write_34 ⟨rfl, rfl⟩
set_option maxHeartbeats 4000000 in
set_option maxRecDepth 100000 in
theorem mm_write0 (l : Launch) (D : va_G) (k : Nat → ClassId) (o : Nat → Nat) (sb : Nat) (B : Nat → Nat → Int32) (Ln Rm : Nat → Nat) (Rd : Nat → Option Nat) (Pl Mk : Nat → Nat) (G : Nat → Nat → Int32) (Sz : Nat → Nat) (Kp : Nat → Int32) (th : Int32) (g : Nat) (v : Int32) (hg : g < 3) (h : Sz g + 1 ≤ 256) : vCt l yX4_write cX4_write 3 (some .int) 2 44 0 0 D vCl (vTy k) sb [.ref (o 0), .int (nI (g)), .int (v)] (mW k o B Ln Rm Rd Pl Mk G Sz Kp th) (vDet (some (.int (nI (Sz g + 1)))) (mW k o B Ln Rm Rd Pl Mk (up2 G (g) (Sz (g)) (lb (v))) (va_up Sz (g) ((Sz (g)) + (1))) Kp (nI (0)))) := by
  refine vOf (by decide +kernel) (Nat.le_of_ble_eq_true rfl) (fun p e s m below meth c X hret _ => ?_)
  refine vAloadN X dX4_write_0 0 rfl ?_
  refine vAloadN X dX4_write_1 0 rfl ?_
  refine vIloadN X dX4_write_2 1 rfl ?_
  refine vCallVd X [.ref (o 0)] (mm_isOtherT l D k o sb B Ln Rm Rd Pl Mk G Sz Kp th g (by omega)) (vGV q_838 q_840 q_14 q_29 q_841) ⟨by decide, by decide, (show _ = some 1 from by decide +kernel)⟩ ⟨Nat.le_of_ble_eq_true rfl, Nat.le_of_ble_eq_true rfl⟩ 0 4 rfl rfl rfl rfl (Nat.le_of_ble_eq_true rfl) dX4_write_3 ⟨Nat.zero_le _, Nat.zero_le _⟩ ?_
  refine vIfN_neT X 13 dX4_write_6 (by decide) (by omega) (by omega) ?_
  refine vAloadN X dX4_write_13 0 rfl ?_
  refine vIloadN X dX4_write_14 1 rfl ?_
  refine vIconst X dX4_write_15 (v := nI (1)) (by decide) ?_
  refine vCallVd X [.ref (o 0)] (mm_isFullF l D k o sb B Ln Rm Rd Pl Mk G Sz Kp th g 1 (by omega) (by omega)) (vGV q_842 q_844 q_15 q_29 q_845) ⟨by decide, by decide, (show _ = some 2 from by decide +kernel)⟩ ⟨Nat.le_of_ble_eq_true rfl, Nat.le_of_ble_eq_true rfl⟩ 0 4 rfl rfl rfl rfl (Nat.le_of_ble_eq_true rfl) dX4_write_16 ⟨Nat.zero_le _, Nat.zero_le _⟩ ?_
  refine vIfN_eqT X 26 dX4_write_19 (by decide) (by omega) (by omega) ?_
  refine vIconst X dX4_write_26 (v := nI (0)) (by decide) ?_
  refine vCallVd X [] (mm_isWrong0 l D k o sb B Ln Rm Rd Pl Mk G Sz Kp th ) (vGV q_786 q_788 q_8 q_29 q_789) ⟨by decide, by decide, (show _ = some 1 from by decide +kernel)⟩ ⟨Nat.le_of_ble_eq_true rfl, Nat.le_of_ble_eq_true rfl⟩ 0 4 rfl rfl rfl rfl (Nat.le_of_ble_eq_true rfl) dX4_write_27 ⟨Nat.zero_le _, Nat.zero_le _⟩ ?_
  refine vIfN_eqT X 35 dX4_write_30 (by decide) (by omega) (by omega) ?_
  refine vAloadN X dX4_write_35 0 rfl ?_
  refine vIloadN X dX4_write_36 1 rfl ?_
  refine vIloadN X dX4_write_37 2 rfl ?_
  refine vCallVd X [] (mm_adds l D k o sb B Ln Rm Rd Pl Mk G Sz Kp (nI (0)) g (v) (by omega) (by omega)) (vGV q_846 q_848 q_16 q_29 q_849) ⟨by decide, by decide, (show _ = some 2 from by decide +kernel)⟩ ⟨Nat.le_of_ble_eq_true rfl, Nat.le_of_ble_eq_true rfl⟩ 0 4 rfl rfl rfl rfl (Nat.le_of_ble_eq_true rfl) dX4_write_38 ⟨Nat.zero_le _, Nat.zero_le _⟩ ?_
  refine vAloadN X dX4_write_41 0 rfl ?_
  refine vGet X (C := RX4) (T := TX4) (N := 10) (ci := 4) (vcons inM) rfl 0 rfl 7 (by decide) (List.mem_cons_of_mem _ q_749) (fun _ h => h) rfl dX4_write_42 ?_
  refine vIloadN X dX4_write_45 1 rfl ?_
  refine vIaload X (v := nI ((va_up Sz (g) ((Sz (g)) + (1))) (g))) 8 1 rfl rfl rfl (by omega) (by decide) rfl dX4_write_46 ?_
  exact vRetI X hret dX4_write_47 ⟨by rw [va_up_eq], rfl⟩
def cpG (G : Nat → Nat → Int32) (g s i : Nat) (src : Nat → Int32) : Nat → Nat → Int32 := fun a b => if a = g ∧ s ≤ b ∧ b < s + i then src (b - s) else G a b
theorem cpG_0 (G : Nat → Nat → Int32) (g s : Nat) (src : Nat → Int32) : G = cpG G g s 0 src := by
  funext a b
  show G a b = if _ then _ else _
  rw [if_neg (by omega)]
theorem cpG_1 (G : Nat → Nat → Int32) (g s i : Nat) (src : Nat → Int32) : up2 (cpG G g s i src) g (s + i) (src i) = cpG G g s (i + 1) src := by
  funext a b
  simp only [up2, cpG]
  by_cases h1 : a = g <;> by_cases h2 : b = s + i
  · subst h2
    have q1 : s ≤ s + i := by omega
    have q3 : s + i - s = i := by omega
    simp [h1, q3]
  · have : (s ≤ b ∧ b < s + (i + 1)) = (s ≤ b ∧ b < s + i) := by simp only [eq_iff_iff]; omega
    simp [h1, h2, this]
  · simp [h1]
  · simp [h1]
theorem va_up_up {α : Type} (L : Nat → α) (j : Nat) (u v : α) : va_up (va_up L j u) j v = va_up L j v := by
  funext q
  by_cases h : q = j <;> simp [va_up, h]
theorem va_up_id {α : Type} (L : Nat → α) (j : Nat) (v : α) (h : L j = v) : L = va_up L j v := by
  funext q
  by_cases h2 : q = j
  · subst h2; simp [va_up, h]
  · simp [va_up, h2]
set_option maxHeartbeats 4000000 in
set_option maxRecDepth 100000 in
theorem mL_writePart {p : Program} {l : Launch} {e : Env} {s : State} {m : MethodId} {args : Array Value} {below : List Frame} {meth : Method} {c : Code} {Q : State → Prop} (D : va_G) (k : Nat → ClassId) (o : Nat → Nat) (sb : Nat) (B : Nat → Nat → Int32) (Ln Rm : Nat → Nat) (Rd : Nat → Option Nat) (Pl Mk : Nat → Nat) (G : Nat → Nat → Int32) (Sz : Nat → Nat) (Kp : Nat → Int32) (th : Int32) (g r f n : Nat) (hg : g < 3) (hr : r < 4) (hp : f + n ≤ Ln (Rm r)) (hs : Sz g + n ≤ 256) (hRm : ∀ r, r < 4 → Rm r < 8) (hLn : ∀ a, Ln a ≤ 256) (hBF : ∀ a b, lb (B a b) = B a b) (X : vCX p s m args meth c cX4_writePart 6 yX4_writePart.cls (Cond.code yX4_writePart cX4_writePart 6 (some .int) :: vGW) D vCl (vTy k) sb) (hex : vV p l e ({ frames := 2, cells := 0, slots := 0, locals := 44 }) s m args below meth c 6 D vCl sb Q (mW k o B Ln Rm Rd Pl Mk (cpG G g (Sz g) n (fun j => B (Rm r) (f + j))) (va_up Sz g (Sz g + n)) Kp th) 0 0 88 [(0, .ref (o 0)), (1, .int (nI (g))), (2, .int (nI (r))), (3, .int (nI (f))), (4, .int (nI (n)))] []) : ∀ (z i : Nat) (G1 : Nat → Nat → Int32) (S1 : Nat → Nat), i + z = n → G1 = cpG G g (Sz g) i (fun j => B (Rm r) (f + j)) → S1 = va_up Sz g (Sz g + i) → vV p l e ({ frames := 2, cells := 0, slots := 0, locals := 44 }) s m args below meth c 6 D vCl sb Q (mW k o B Ln Rm Rd Pl Mk G1 S1 Kp th) 0 0 50 [(5, .int (nI (i))), (0, .ref (o 0)), (1, .int (nI (g))), (2, .int (nI (r))), (3, .int (nI (f))), (4, .int (nI (n)))] [] := by
  intro z
  induction z with
  | zero =>
    intro i G1 S1 hi hG1 hS1
    have hLr := hLn (Rm r)
    have hin : n = i := by omega
    subst hin
    subst hG1
    subst hS1
    refine vIload X dX4_writePart_50 0 rfl ?_
    refine vIload X dX4_writePart_52 5 rfl ?_
    refine vIcmpN_geT X 88 dX4_writePart_54 (by decide) (by omega) (by omega) (by omega) ?_
    refine vSub [1, 2, 3, 4, 5] [(0, .ref (o 0)), (1, .int (nI (g))), (2, .int (nI (r))), (3, .int (nI (f))), (4, .int (nI (n)))] rfl ?_
    exact hex
  | succ z ih =>
    intro i G1 S1 hi hG1 hS1
    have hRr := hRm r hr
    have hLr := hLn (Rm r)
    have hSg : S1 g = Sz g + i := by rw [hS1, va_up_eq]
    refine vIload X dX4_writePart_50 0 rfl ?_
    refine vIload X dX4_writePart_52 5 rfl ?_
    refine vIcmpN_geF X 88 dX4_writePart_54 (by decide) (by omega) (by omega) (by omega) ?_
    refine vAloadN X dX4_writePart_57 1 rfl ?_
    refine vIloadN X dX4_writePart_58 2 rfl ?_
    refine vAloadN X dX4_writePart_59 1 rfl ?_
    refine vGet X (C := RX4) (T := TX4) (N := 10) (ci := 4) (vcons inM) rfl 0 rfl 0 (by decide) (List.mem_cons_of_mem _ q_742) (fun _ h => h) rfl dX4_writePart_60 ?_
    refine vSipush X dX4_writePart_63 (v := nI (256)) (by decide) ?_
    refine vAloadN X dX4_writePart_66 1 rfl ?_
    refine vGet X (C := RX4) (T := TX4) (N := 10) (ci := 4) (vcons inM) rfl 0 rfl 2 (by decide) (List.mem_cons_of_mem _ q_744) (fun _ h => h) rfl dX4_writePart_67 ?_
    refine vIloadN X dX4_writePart_70 3 rfl ?_
    refine vIaload X (v := nI (Rm (r))) 3 1 rfl rfl rfl (by omega) (by decide) rfl dX4_writePart_71 ?_
    refine vImul X dX4_writePart_72 (v := nI ((256) * (Rm (r)))) (pk_mul _ _) ?_
    refine vIloadN X dX4_writePart_73 4 rfl ?_
    refine vIadd X dX4_writePart_74 (v := nI (((256) * (Rm (r))) + (f))) (nI_add _ _) ?_
    refine vIload X dX4_writePart_75 0 rfl ?_
    refine vIadd X dX4_writePart_77 (v := nI ((((256) * (Rm (r))) + (f)) + (i))) (nI_add _ _) ?_
    refine vIaload X (v := B (Rm (r)) (f + i)) 1 1 rfl rfl rfl (by omega) (by decide) (fl2_at _ (X := Rm (r)) (Y := f + i) (by omega) (by omega)) dX4_writePart_78 ?_
    refine vCallVd X [] (mm_adds l D k o sb B Ln Rm Rd Pl Mk G1 S1 Kp th g (B (Rm (r)) (f + i)) (by omega) (by omega)) (vGV q_846 q_848 q_16 q_29 q_849) ⟨by decide, by decide, (show _ = some 2 from by decide +kernel)⟩ ⟨Nat.le_of_ble_eq_true rfl, Nat.le_of_ble_eq_true rfl⟩ 0 4 rfl rfl rfl rfl (Nat.le_of_ble_eq_true rfl) dX4_writePart_79 ⟨Nat.zero_le _, Nat.zero_le _⟩ ?_
    refine vIinc X [(5, .int (nI (i + 1))), (0, .ref (o 0)), (1, .int (nI (g))), (2, .int (nI (r))), (3, .int (nI (f))), (4, .int (nI (n)))] dX4_writePart_82 0 rfl (nI_inc _) (by decide) rfl ?_
    refine vGoto X 50 dX4_writePart_85 (by decide) ?_
    refine vSub [0, 1, 2, 3, 4, 5] [(5, .int (nI (i + 1))), (0, .ref (o 0)), (1, .int (nI (g))), (2, .int (nI (r))), (3, .int (nI (f))), (4, .int (nI (n)))] rfl ?_
    exact ih (i + 1) _ _ (by omega) (by rw [hBF, hSg, hG1]; exact cpG_1 _ _ _ _ _) (by rw [hSg, hS1, va_up_up]; rfl)
set_option maxHeartbeats 4000000 in
set_option maxRecDepth 100000 in
theorem mm_writePart1a (l : Launch) (D : va_G) (k : Nat → ClassId) (o : Nat → Nat) (sb : Nat) (B : Nat → Nat → Int32) (Ln Rm : Nat → Nat) (Rd : Nat → Option Nat) (Pl Mk : Nat → Nat) (G : Nat → Nat → Int32) (Sz : Nat → Nat) (Kp : Nat → Int32) (th : Int32) (x y f n : Int32) (hx : ¬ vOther x) : vCt l yX4_writePart cX4_writePart 6 (some .int) 2 44 0 0 D vCl (vTy k) sb [.ref (o 0), .int (x), .int (y), .int (f), .int (n)] (mW k o B Ln Rm Rd Pl Mk G Sz Kp th) (vDet (some (.int (nI (0)))) (mW k o B Ln Rm Rd Pl Mk G Sz Kp (nI (1)))) := by
  refine vOf (by decide +kernel) (Nat.le_of_ble_eq_true rfl) (fun p e s m below meth c X hret _ => ?_)
  refine vAloadN X dX4_writePart_0 0 rfl ?_
  refine vAloadN X dX4_writePart_1 0 rfl ?_
  refine vIloadN X dX4_writePart_2 1 rfl ?_
  refine vCallVd X [.ref (o 0)] (mm_isOtherF l D k o sb B Ln Rm Rd Pl Mk G Sz Kp th x hx) (vGV q_838 q_840 q_14 q_29 q_841) ⟨by decide, by decide, (show _ = some 1 from by decide +kernel)⟩ ⟨Nat.le_of_ble_eq_true rfl, Nat.le_of_ble_eq_true rfl⟩ 0 4 rfl rfl rfl rfl (Nat.le_of_ble_eq_true rfl) dX4_writePart_3 ⟨Nat.zero_le _, Nat.zero_le _⟩ ?_
  refine vIfN_eqT X 20 dX4_writePart_6 (by decide) (by omega) (by omega) ?_
  refine vIconst X dX4_writePart_20 (v := nI (1)) (by decide) ?_
  refine vGoto X 39 dX4_writePart_21 (by decide) ?_
  refine vCallVd X [] (mm_isWrong1 l D k o sb B Ln Rm Rd Pl Mk G Sz Kp th 1 (by decide) (by decide)) (vGV q_786 q_788 q_8 q_29 q_789) ⟨by decide, by decide, (show _ = some 1 from by decide +kernel)⟩ ⟨Nat.le_of_ble_eq_true rfl, Nat.le_of_ble_eq_true rfl⟩ 0 4 rfl rfl rfl rfl (Nat.le_of_ble_eq_true rfl) dX4_writePart_39 ⟨Nat.zero_le _, Nat.zero_le _⟩ ?_
  refine vIfN_eqF X 47 dX4_writePart_42 (by decide) (by omega) (by omega) ?_
  refine vIconst X dX4_writePart_45 (v := nI (0)) (by decide) ?_
  exact vRetI X hret dX4_writePart_46 ⟨rfl, rfl⟩
set_option maxHeartbeats 4000000 in
set_option maxRecDepth 100000 in
theorem mm_writePart1b (l : Launch) (D : va_G) (k : Nat → ClassId) (o : Nat → Nat) (sb : Nat) (B : Nat → Nat → Int32) (Ln Rm : Nat → Nat) (Rd : Nat → Option Nat) (Pl Mk : Nat → Nat) (G : Nat → Nat → Int32) (Sz : Nat → Nat) (Kp : Nat → Int32) (th : Int32) (g : Nat) (y f n : Int32) (hg : g < 3) (hRm : ∀ r, r < 4 → Rm r < 8) (hLn : ∀ a, Ln a ≤ 256) (hpart : ¬ vPart Ln Rm y f n) : vCt l yX4_writePart cX4_writePart 6 (some .int) 2 44 0 0 D vCl (vTy k) sb [.ref (o 0), .int (nI (g)), .int (y), .int (f), .int (n)] (mW k o B Ln Rm Rd Pl Mk G Sz Kp th) (vDet (some (.int (nI (0)))) (mW k o B Ln Rm Rd Pl Mk G Sz Kp (nI (1)))) := by
  refine vOf (by decide +kernel) (Nat.le_of_ble_eq_true rfl) (fun p e s m below meth c X hret _ => ?_)
  refine vAloadN X dX4_writePart_0 0 rfl ?_
  refine vAloadN X dX4_writePart_1 0 rfl ?_
  refine vIloadN X dX4_writePart_2 1 rfl ?_
  refine vCallVd X [.ref (o 0)] (mm_isOtherT l D k o sb B Ln Rm Rd Pl Mk G Sz Kp th g (by omega)) (vGV q_838 q_840 q_14 q_29 q_841) ⟨by decide, by decide, (show _ = some 1 from by decide +kernel)⟩ ⟨Nat.le_of_ble_eq_true rfl, Nat.le_of_ble_eq_true rfl⟩ 0 4 rfl rfl rfl rfl (Nat.le_of_ble_eq_true rfl) dX4_writePart_3 ⟨Nat.zero_le _, Nat.zero_le _⟩ ?_
  refine vIfN_eqF X 20 dX4_writePart_6 (by decide) (by omega) (by omega) ?_
  refine vAloadN X dX4_writePart_9 0 rfl ?_
  refine vIloadN X dX4_writePart_10 2 rfl ?_
  refine vIloadN X dX4_writePart_11 3 rfl ?_
  refine vIload X dX4_writePart_12 4 rfl ?_
  refine vCallVd X [.ref (o 0)] (mm_isPartF l D k o sb B Ln Rm Rd Pl Mk G Sz Kp th y f n hRm hLn hpart) (vGV q_814 q_816 q_12 q_29 q_817) ⟨by decide, by decide, (show _ = some 3 from by decide +kernel)⟩ ⟨Nat.le_of_ble_eq_true rfl, Nat.le_of_ble_eq_true rfl⟩ 0 4 rfl rfl rfl rfl (Nat.le_of_ble_eq_true rfl) dX4_writePart_14 ⟨Nat.zero_le _, Nat.zero_le _⟩ ?_
  refine vIfN_neF X 24 dX4_writePart_17 (by decide) (by omega) (by omega) ?_
  refine vIconst X dX4_writePart_20 (v := nI (1)) (by decide) ?_
  refine vGoto X 39 dX4_writePart_21 (by decide) ?_
  refine vCallVd X [] (mm_isWrong1 l D k o sb B Ln Rm Rd Pl Mk G Sz Kp th 1 (by decide) (by decide)) (vGV q_786 q_788 q_8 q_29 q_789) ⟨by decide, by decide, (show _ = some 1 from by decide +kernel)⟩ ⟨Nat.le_of_ble_eq_true rfl, Nat.le_of_ble_eq_true rfl⟩ 0 4 rfl rfl rfl rfl (Nat.le_of_ble_eq_true rfl) dX4_writePart_39 ⟨Nat.zero_le _, Nat.zero_le _⟩ ?_
  refine vIfN_eqF X 47 dX4_writePart_42 (by decide) (by omega) (by omega) ?_
  refine vIconst X dX4_writePart_45 (v := nI (0)) (by decide) ?_
  exact vRetI X hret dX4_writePart_46 ⟨rfl, rfl⟩
set_option maxHeartbeats 4000000 in
set_option maxRecDepth 100000 in
theorem mm_writePart2 (l : Launch) (D : va_G) (k : Nat → ClassId) (o : Nat → Nat) (sb : Nat) (B : Nat → Nat → Int32) (Ln Rm : Nat → Nat) (Rd : Nat → Option Nat) (Pl Mk : Nat → Nat) (G : Nat → Nat → Int32) (Sz : Nat → Nat) (Kp : Nat → Int32) (th : Int32) (g r f n : Nat) (hg : g < 3) (hr : r < 4) (hp : f + n ≤ Ln (Rm r)) (hsg : Sz g ≤ 256) (hs : 256 < Sz g + n) (hRm : ∀ r, r < 4 → Rm r < 8) (hLn : ∀ a, Ln a ≤ 256) : vCt l yX4_writePart cX4_writePart 6 (some .int) 2 44 0 0 D vCl (vTy k) sb [.ref (o 0), .int (nI (g)), .int (nI (r)), .int (nI (f)), .int (nI (n))] (mW k o B Ln Rm Rd Pl Mk G Sz Kp th) (vDet (some (.int (nI (0)))) (mW k o B Ln Rm Rd Pl Mk G Sz Kp (nI (2)))) := by
  have hRr := hRm r hr
  have hLr := hLn (Rm r)
  refine vOf (by decide +kernel) (Nat.le_of_ble_eq_true rfl) (fun p e s m below meth c X hret _ => ?_)
  refine vAloadN X dX4_writePart_0 0 rfl ?_
  refine vAloadN X dX4_writePart_1 0 rfl ?_
  refine vIloadN X dX4_writePart_2 1 rfl ?_
  refine vCallVd X [.ref (o 0)] (mm_isOtherT l D k o sb B Ln Rm Rd Pl Mk G Sz Kp th g (by omega)) (vGV q_838 q_840 q_14 q_29 q_841) ⟨by decide, by decide, (show _ = some 1 from by decide +kernel)⟩ ⟨Nat.le_of_ble_eq_true rfl, Nat.le_of_ble_eq_true rfl⟩ 0 4 rfl rfl rfl rfl (Nat.le_of_ble_eq_true rfl) dX4_writePart_3 ⟨Nat.zero_le _, Nat.zero_le _⟩ ?_
  refine vIfN_eqF X 20 dX4_writePart_6 (by decide) (by omega) (by omega) ?_
  refine vAloadN X dX4_writePart_9 0 rfl ?_
  refine vIloadN X dX4_writePart_10 2 rfl ?_
  refine vIloadN X dX4_writePart_11 3 rfl ?_
  refine vIload X dX4_writePart_12 4 rfl ?_
  refine vCallVd X [.ref (o 0)] (mm_isPartT l D k o sb B Ln Rm Rd Pl Mk G Sz Kp th r f n (by omega) (by omega) (by omega) (by omega)) (vGV q_814 q_816 q_12 q_29 q_817) ⟨by decide, by decide, (show _ = some 3 from by decide +kernel)⟩ ⟨Nat.le_of_ble_eq_true rfl, Nat.le_of_ble_eq_true rfl⟩ 0 4 rfl rfl rfl rfl (Nat.le_of_ble_eq_true rfl) dX4_writePart_14 ⟨Nat.zero_le _, Nat.zero_le _⟩ ?_
  refine vIfN_neT X 24 dX4_writePart_17 (by decide) (by omega) (by omega) ?_
  refine vAloadN X dX4_writePart_24 0 rfl ?_
  refine vIloadN X dX4_writePart_25 1 rfl ?_
  refine vIload X dX4_writePart_26 4 rfl ?_
  refine vCallVd X [.ref (o 0)] (mm_isFullT l D k o sb B Ln Rm Rd Pl Mk G Sz Kp th g n (by omega) (by omega) (by omega) (by omega)) (vGV q_842 q_844 q_15 q_29 q_845) ⟨by decide, by decide, (show _ = some 2 from by decide +kernel)⟩ ⟨Nat.le_of_ble_eq_true rfl, Nat.le_of_ble_eq_true rfl⟩ 0 4 rfl rfl rfl rfl (Nat.le_of_ble_eq_true rfl) dX4_writePart_28 ⟨Nat.zero_le _, Nat.zero_le _⟩ ?_
  refine vIfN_eqF X 38 dX4_writePart_31 (by decide) (by omega) (by omega) ?_
  refine vIconst X dX4_writePart_34 (v := nI (2)) (by decide) ?_
  refine vGoto X 39 dX4_writePart_35 (by decide) ?_
  refine vCallVd X [] (mm_isWrong1 l D k o sb B Ln Rm Rd Pl Mk G Sz Kp th 2 (by decide) (by decide)) (vGV q_786 q_788 q_8 q_29 q_789) ⟨by decide, by decide, (show _ = some 1 from by decide +kernel)⟩ ⟨Nat.le_of_ble_eq_true rfl, Nat.le_of_ble_eq_true rfl⟩ 0 4 rfl rfl rfl rfl (Nat.le_of_ble_eq_true rfl) dX4_writePart_39 ⟨Nat.zero_le _, Nat.zero_le _⟩ ?_
  refine vIfN_eqF X 47 dX4_writePart_42 (by decide) (by omega) (by omega) ?_
  refine vIconst X dX4_writePart_45 (v := nI (0)) (by decide) ?_
  exact vRetI X hret dX4_writePart_46 ⟨rfl, rfl⟩
set_option maxHeartbeats 4000000 in
set_option maxRecDepth 100000 in
theorem mm_writePart0 (l : Launch) (D : va_G) (k : Nat → ClassId) (o : Nat → Nat) (sb : Nat) (B : Nat → Nat → Int32) (Ln Rm : Nat → Nat) (Rd : Nat → Option Nat) (Pl Mk : Nat → Nat) (G : Nat → Nat → Int32) (Sz : Nat → Nat) (Kp : Nat → Int32) (th : Int32) (g r f n : Nat) (hg : g < 3) (hr : r < 4) (hp : f + n ≤ Ln (Rm r)) (hs : Sz g + n ≤ 256) (hRm : ∀ r, r < 4 → Rm r < 8) (hLn : ∀ a, Ln a ≤ 256) (hBF : ∀ a b, lb (B a b) = B a b) : vCt l yX4_writePart cX4_writePart 6 (some .int) 2 44 0 0 D vCl (vTy k) sb [.ref (o 0), .int (nI (g)), .int (nI (r)), .int (nI (f)), .int (nI (n))] (mW k o B Ln Rm Rd Pl Mk G Sz Kp th) (vDet (some (.int (nI (Sz g + n)))) (mW k o B Ln Rm Rd Pl Mk (cpG G g (Sz g) n (fun j => B (Rm r) (f + j))) (va_up Sz g (Sz g + n)) Kp (nI (0)))) := by
  have hRr := hRm r hr
  have hLr := hLn (Rm r)
  refine vOf (by decide +kernel) (Nat.le_of_ble_eq_true rfl) (fun p e s m below meth c X hret _ => ?_)
  refine vAloadN X dX4_writePart_0 0 rfl ?_
  refine vAloadN X dX4_writePart_1 0 rfl ?_
  refine vIloadN X dX4_writePart_2 1 rfl ?_
  refine vCallVd X [.ref (o 0)] (mm_isOtherT l D k o sb B Ln Rm Rd Pl Mk G Sz Kp th g (by omega)) (vGV q_838 q_840 q_14 q_29 q_841) ⟨by decide, by decide, (show _ = some 1 from by decide +kernel)⟩ ⟨Nat.le_of_ble_eq_true rfl, Nat.le_of_ble_eq_true rfl⟩ 0 4 rfl rfl rfl rfl (Nat.le_of_ble_eq_true rfl) dX4_writePart_3 ⟨Nat.zero_le _, Nat.zero_le _⟩ ?_
  refine vIfN_eqF X 20 dX4_writePart_6 (by decide) (by omega) (by omega) ?_
  refine vAloadN X dX4_writePart_9 0 rfl ?_
  refine vIloadN X dX4_writePart_10 2 rfl ?_
  refine vIloadN X dX4_writePart_11 3 rfl ?_
  refine vIload X dX4_writePart_12 4 rfl ?_
  refine vCallVd X [.ref (o 0)] (mm_isPartT l D k o sb B Ln Rm Rd Pl Mk G Sz Kp th r f n (by omega) (by omega) (by omega) (by omega)) (vGV q_814 q_816 q_12 q_29 q_817) ⟨by decide, by decide, (show _ = some 3 from by decide +kernel)⟩ ⟨Nat.le_of_ble_eq_true rfl, Nat.le_of_ble_eq_true rfl⟩ 0 4 rfl rfl rfl rfl (Nat.le_of_ble_eq_true rfl) dX4_writePart_14 ⟨Nat.zero_le _, Nat.zero_le _⟩ ?_
  refine vIfN_neT X 24 dX4_writePart_17 (by decide) (by omega) (by omega) ?_
  refine vAloadN X dX4_writePart_24 0 rfl ?_
  refine vIloadN X dX4_writePart_25 1 rfl ?_
  refine vIload X dX4_writePart_26 4 rfl ?_
  refine vCallVd X [.ref (o 0)] (mm_isFullF l D k o sb B Ln Rm Rd Pl Mk G Sz Kp th g n (by omega) (by omega)) (vGV q_842 q_844 q_15 q_29 q_845) ⟨by decide, by decide, (show _ = some 2 from by decide +kernel)⟩ ⟨Nat.le_of_ble_eq_true rfl, Nat.le_of_ble_eq_true rfl⟩ 0 4 rfl rfl rfl rfl (Nat.le_of_ble_eq_true rfl) dX4_writePart_28 ⟨Nat.zero_le _, Nat.zero_le _⟩ ?_
  refine vIfN_eqT X 38 dX4_writePart_31 (by decide) (by omega) (by omega) ?_
  refine vIconst X dX4_writePart_38 (v := nI (0)) (by decide) ?_
  refine vCallVd X [] (mm_isWrong0 l D k o sb B Ln Rm Rd Pl Mk G Sz Kp th ) (vGV q_786 q_788 q_8 q_29 q_789) ⟨by decide, by decide, (show _ = some 1 from by decide +kernel)⟩ ⟨Nat.le_of_ble_eq_true rfl, Nat.le_of_ble_eq_true rfl⟩ 0 4 rfl rfl rfl rfl (Nat.le_of_ble_eq_true rfl) dX4_writePart_39 ⟨Nat.zero_le _, Nat.zero_le _⟩ ?_
  refine vIfN_eqT X 47 dX4_writePart_42 (by decide) (by omega) (by omega) ?_
  refine vIconst X dX4_writePart_47 (v := nI (0)) (by decide) ?_
  refine vIstore X [(5, .int (nI (0))), (0, .ref (o 0)), (1, .int (nI (g))), (2, .int (nI (r))), (3, .int (nI (f))), (4, .int (nI (n)))] dX4_writePart_48 (by decide) rfl ?_
  refine vSub [0, 1, 2, 3, 4, 5] [(5, .int (nI (0))), (0, .ref (o 0)), (1, .int (nI (g))), (2, .int (nI (r))), (3, .int (nI (f))), (4, .int (nI (n)))] rfl ?_
  refine mL_writePart D k o sb B Ln Rm Rd Pl Mk G Sz Kp (nI (0)) g r f n hg hr hp hs hRm hLn hBF X ?_ (n) 0 _ _ (by omega) (cpG_0 _ _ _ _) (va_up_id _ _ _ rfl)
  refine vAloadN X dX4_writePart_88 0 rfl ?_
  refine vGet X (C := RX4) (T := TX4) (N := 10) (ci := 4) (vcons inM) rfl 0 rfl 7 (by decide) (List.mem_cons_of_mem _ q_749) (fun _ h => h) rfl dX4_writePart_89 ?_
  refine vIloadN X dX4_writePart_92 1 rfl ?_
  refine vIaload X (v := nI ((va_up Sz g (Sz g + n)) (g))) 8 1 rfl rfl rfl (by omega) (by decide) rfl dX4_writePart_93 ?_
  exact vRetI X hret dX4_writePart_94 ⟨by rw [va_up_eq], rfl⟩
set_option maxHeartbeats 4000000 in
set_option maxRecDepth 100000 in
theorem mm_writeRow1a (l : Launch) (D : va_G) (k : Nat → ClassId) (o : Nat → Nat) (sb : Nat) (B : Nat → Nat → Int32) (Ln Rm : Nat → Nat) (Rd : Nat → Option Nat) (Pl Mk : Nat → Nat) (G : Nat → Nat → Int32) (Sz : Nat → Nat) (Kp : Nat → Int32) (th : Int32) (x : Int32) (r : Nat) (hx : ¬ vOther x) (hr : r < 4) (hRm : ∀ r, r < 4 → Rm r < 8) (hLn : ∀ a, Ln a ≤ 256) : vCt l yX4_writeRow cX4_writeRow 3 (some .int) 3 69 0 0 D vCl (vTy k) sb [.ref (o 0), .int (x), .int (nI (r))] (mW k o B Ln Rm Rd Pl Mk G Sz Kp th) (vDet (some (.int (nI (0)))) (mW k o B Ln Rm Rd Pl Mk G Sz Kp (nI 1))) := by
  have hRr := hRm r hr
  have hLr := hLn (Rm r)
  refine vOf (by decide +kernel) (Nat.le_of_ble_eq_true rfl) (fun p e s m below meth c X hret _ => ?_)
  refine vAloadN X dX4_writeRow_0 0 rfl ?_
  refine vIloadN X dX4_writeRow_1 1 rfl ?_
  refine vIloadN X dX4_writeRow_2 2 rfl ?_
  refine vIconst X dX4_writeRow_3 (v := nI (0)) (by decide) ?_
  refine vAloadN X dX4_writeRow_4 0 rfl ?_
  refine vIloadN X dX4_writeRow_5 2 rfl ?_
  refine vCallVd X [.int (nI (0)), .int (nI (r)), .int (x), .ref (o 0)] (mm_isRowT l D k o sb B Ln Rm Rd Pl Mk G Sz Kp th r (by omega)) (vGV q_782 q_784 q_7 q_29 q_785) ⟨by decide, by decide, (show _ = some 1 from by decide +kernel)⟩ ⟨Nat.le_of_ble_eq_true rfl, Nat.le_of_ble_eq_true rfl⟩ 0 4 rfl rfl rfl rfl (Nat.le_of_ble_eq_true rfl) dX4_writeRow_6 ⟨Nat.zero_le _, Nat.zero_le _⟩ ?_
  refine vIfN_eqF X 20 dX4_writeRow_9 (by decide) (by omega) (by omega) ?_
  refine vAloadN X dX4_writeRow_12 0 rfl ?_
  refine vIloadN X dX4_writeRow_13 2 rfl ?_
  refine vCallVd X [.int (nI (0)), .int (nI (r)), .int (x), .ref (o 0)] (mm_long0 l D k o sb B Ln Rm Rd Pl Mk G Sz Kp th r (by omega) (by omega)) (vGV q_790 q_792 q_9 q_29 q_793) ⟨by decide, by decide, (show _ = some 1 from by decide +kernel)⟩ ⟨Nat.le_of_ble_eq_true rfl, Nat.le_of_ble_eq_true rfl⟩ 0 4 rfl rfl rfl rfl (Nat.le_of_ble_eq_true rfl) dX4_writeRow_14 ⟨Nat.zero_le _, Nat.zero_le _⟩ ?_
  refine vGoto X 21 dX4_writeRow_17 (by decide) ?_
  refine vCallVd X [] (mm_writePart1a l D k o sb B Ln Rm Rd Pl Mk G Sz Kp th x (nI (r)) (nI (0)) (nI (Ln (Rm r))) hx) (vGV q_858 q_851 q_852 q_29 q_853) ⟨by decide, by decide, (show _ = some 4 from by decide +kernel)⟩ ⟨Nat.le_of_ble_eq_true rfl, Nat.le_of_ble_eq_true rfl⟩ 0 4 rfl rfl rfl rfl (Nat.le_of_ble_eq_true rfl) dX4_writeRow_21 ⟨Nat.zero_le _, Nat.zero_le _⟩ ?_
  exact vRetI X hret dX4_writeRow_24 ⟨rfl, rfl⟩
set_option maxHeartbeats 4000000 in
set_option maxRecDepth 100000 in
theorem mm_writeRow1b (l : Launch) (D : va_G) (k : Nat → ClassId) (o : Nat → Nat) (sb : Nat) (B : Nat → Nat → Int32) (Ln Rm : Nat → Nat) (Rd : Nat → Option Nat) (Pl Mk : Nat → Nat) (G : Nat → Nat → Int32) (Sz : Nat → Nat) (Kp : Nat → Int32) (th : Int32) (x y : Int32) (hx : ¬ vOther x) (hy : ¬ vRow y) : vCt l yX4_writeRow cX4_writeRow 3 (some .int) 3 69 0 0 D vCl (vTy k) sb [.ref (o 0), .int (x), .int (y)] (mW k o B Ln Rm Rd Pl Mk G Sz Kp th) (vDet (some (.int (nI (0)))) (mW k o B Ln Rm Rd Pl Mk G Sz Kp (nI 1))) := by
  refine vOf (by decide +kernel) (Nat.le_of_ble_eq_true rfl) (fun p e s m below meth c X hret _ => ?_)
  refine vAloadN X dX4_writeRow_0 0 rfl ?_
  refine vIloadN X dX4_writeRow_1 1 rfl ?_
  refine vIloadN X dX4_writeRow_2 2 rfl ?_
  refine vIconst X dX4_writeRow_3 (v := nI (0)) (by decide) ?_
  refine vAloadN X dX4_writeRow_4 0 rfl ?_
  refine vIloadN X dX4_writeRow_5 2 rfl ?_
  refine vCallVd X [.int (nI (0)), .int (y), .int (x), .ref (o 0)] (mm_isRowF l D k o sb B Ln Rm Rd Pl Mk G Sz Kp th y hy) (vGV q_782 q_784 q_7 q_29 q_785) ⟨by decide, by decide, (show _ = some 1 from by decide +kernel)⟩ ⟨Nat.le_of_ble_eq_true rfl, Nat.le_of_ble_eq_true rfl⟩ 0 4 rfl rfl rfl rfl (Nat.le_of_ble_eq_true rfl) dX4_writeRow_6 ⟨Nat.zero_le _, Nat.zero_le _⟩ ?_
  refine vIfN_eqT X 20 dX4_writeRow_9 (by decide) (by omega) (by omega) ?_
  refine vIconst X dX4_writeRow_20 (v := nI (0)) (by decide) ?_
  refine vCallVd X [] (mm_writePart1a l D k o sb B Ln Rm Rd Pl Mk G Sz Kp th x y (nI (0)) (nI (0)) hx) (vGV q_858 q_851 q_852 q_29 q_853) ⟨by decide, by decide, (show _ = some 4 from by decide +kernel)⟩ ⟨Nat.le_of_ble_eq_true rfl, Nat.le_of_ble_eq_true rfl⟩ 0 4 rfl rfl rfl rfl (Nat.le_of_ble_eq_true rfl) dX4_writeRow_21 ⟨Nat.zero_le _, Nat.zero_le _⟩ ?_
  exact vRetI X hret dX4_writeRow_24 ⟨rfl, rfl⟩
set_option maxHeartbeats 4000000 in
set_option maxRecDepth 100000 in
theorem mm_writeRow1c (l : Launch) (D : va_G) (k : Nat → ClassId) (o : Nat → Nat) (sb : Nat) (B : Nat → Nat → Int32) (Ln Rm : Nat → Nat) (Rd : Nat → Option Nat) (Pl Mk : Nat → Nat) (G : Nat → Nat → Int32) (Sz : Nat → Nat) (Kp : Nat → Int32) (th : Int32) (g : Nat) (y : Int32) (hg : g < 3) (hy : ¬ vRow y) (hRm : ∀ r, r < 4 → Rm r < 8) (hLn : ∀ a, Ln a ≤ 256) : vCt l yX4_writeRow cX4_writeRow 3 (some .int) 3 69 0 0 D vCl (vTy k) sb [.ref (o 0), .int (nI (g)), .int (y)] (mW k o B Ln Rm Rd Pl Mk G Sz Kp th) (vDet (some (.int (nI (0)))) (mW k o B Ln Rm Rd Pl Mk G Sz Kp (nI 1))) := by
  have hpart : ¬ vPart Ln Rm y (nI 0) (nI 0) := by
    rintro ⟨r, a, b, rfl, hr, -⟩
    exact hy (vRow_nI hr)
  refine vOf (by decide +kernel) (Nat.le_of_ble_eq_true rfl) (fun p e s m below meth c X hret _ => ?_)
  refine vAloadN X dX4_writeRow_0 0 rfl ?_
  refine vIloadN X dX4_writeRow_1 1 rfl ?_
  refine vIloadN X dX4_writeRow_2 2 rfl ?_
  refine vIconst X dX4_writeRow_3 (v := nI (0)) (by decide) ?_
  refine vAloadN X dX4_writeRow_4 0 rfl ?_
  refine vIloadN X dX4_writeRow_5 2 rfl ?_
  refine vCallVd X [.int (nI (0)), .int (y), .int (nI (g)), .ref (o 0)] (mm_isRowF l D k o sb B Ln Rm Rd Pl Mk G Sz Kp th y hy) (vGV q_782 q_784 q_7 q_29 q_785) ⟨by decide, by decide, (show _ = some 1 from by decide +kernel)⟩ ⟨Nat.le_of_ble_eq_true rfl, Nat.le_of_ble_eq_true rfl⟩ 0 4 rfl rfl rfl rfl (Nat.le_of_ble_eq_true rfl) dX4_writeRow_6 ⟨Nat.zero_le _, Nat.zero_le _⟩ ?_
  refine vIfN_eqT X 20 dX4_writeRow_9 (by decide) (by omega) (by omega) ?_
  refine vIconst X dX4_writeRow_20 (v := nI (0)) (by decide) ?_
  refine vCallVd X [] (mm_writePart1b l D k o sb B Ln Rm Rd Pl Mk G Sz Kp th g y (nI (0)) (nI (0)) hg hRm hLn hpart) (vGV q_858 q_851 q_852 q_29 q_853) ⟨by decide, by decide, (show _ = some 4 from by decide +kernel)⟩ ⟨Nat.le_of_ble_eq_true rfl, Nat.le_of_ble_eq_true rfl⟩ 0 4 rfl rfl rfl rfl (Nat.le_of_ble_eq_true rfl) dX4_writeRow_21 ⟨Nat.zero_le _, Nat.zero_le _⟩ ?_
  exact vRetI X hret dX4_writeRow_24 ⟨rfl, rfl⟩
set_option maxHeartbeats 4000000 in
set_option maxRecDepth 100000 in
theorem mm_writeRow2 (l : Launch) (D : va_G) (k : Nat → ClassId) (o : Nat → Nat) (sb : Nat) (B : Nat → Nat → Int32) (Ln Rm : Nat → Nat) (Rd : Nat → Option Nat) (Pl Mk : Nat → Nat) (G : Nat → Nat → Int32) (Sz : Nat → Nat) (Kp : Nat → Int32) (th : Int32) (g r : Nat) (hg : g < 3) (hr : r < 4) (hsg : Sz g ≤ 256) (hs : 256 < Sz g + Ln (Rm r)) (hRm : ∀ r, r < 4 → Rm r < 8) (hLn : ∀ a, Ln a ≤ 256) : vCt l yX4_writeRow cX4_writeRow 3 (some .int) 3 69 0 0 D vCl (vTy k) sb [.ref (o 0), .int (nI (g)), .int (nI (r))] (mW k o B Ln Rm Rd Pl Mk G Sz Kp th) (vDet (some (.int (nI (0)))) (mW k o B Ln Rm Rd Pl Mk G Sz Kp (nI 2))) := by
  have hRr := hRm r hr
  have hLr := hLn (Rm r)
  refine vOf (by decide +kernel) (Nat.le_of_ble_eq_true rfl) (fun p e s m below meth c X hret _ => ?_)
  refine vAloadN X dX4_writeRow_0 0 rfl ?_
  refine vIloadN X dX4_writeRow_1 1 rfl ?_
  refine vIloadN X dX4_writeRow_2 2 rfl ?_
  refine vIconst X dX4_writeRow_3 (v := nI (0)) (by decide) ?_
  refine vAloadN X dX4_writeRow_4 0 rfl ?_
  refine vIloadN X dX4_writeRow_5 2 rfl ?_
  refine vCallVd X [.int (nI (0)), .int (nI (r)), .int (nI (g)), .ref (o 0)] (mm_isRowT l D k o sb B Ln Rm Rd Pl Mk G Sz Kp th r (by omega)) (vGV q_782 q_784 q_7 q_29 q_785) ⟨by decide, by decide, (show _ = some 1 from by decide +kernel)⟩ ⟨Nat.le_of_ble_eq_true rfl, Nat.le_of_ble_eq_true rfl⟩ 0 4 rfl rfl rfl rfl (Nat.le_of_ble_eq_true rfl) dX4_writeRow_6 ⟨Nat.zero_le _, Nat.zero_le _⟩ ?_
  refine vIfN_eqF X 20 dX4_writeRow_9 (by decide) (by omega) (by omega) ?_
  refine vAloadN X dX4_writeRow_12 0 rfl ?_
  refine vIloadN X dX4_writeRow_13 2 rfl ?_
  refine vCallVd X [.int (nI (0)), .int (nI (r)), .int (nI (g)), .ref (o 0)] (mm_long0 l D k o sb B Ln Rm Rd Pl Mk G Sz Kp th r (by omega) (by omega)) (vGV q_790 q_792 q_9 q_29 q_793) ⟨by decide, by decide, (show _ = some 1 from by decide +kernel)⟩ ⟨Nat.le_of_ble_eq_true rfl, Nat.le_of_ble_eq_true rfl⟩ 0 4 rfl rfl rfl rfl (Nat.le_of_ble_eq_true rfl) dX4_writeRow_14 ⟨Nat.zero_le _, Nat.zero_le _⟩ ?_
  refine vGoto X 21 dX4_writeRow_17 (by decide) ?_
  refine vCallVd X [] (mm_writePart2 l D k o sb B Ln Rm Rd Pl Mk G Sz Kp th g r 0 (Ln (Rm r)) hg hr (by omega) hsg (by omega) hRm hLn) (vGV q_858 q_851 q_852 q_29 q_853) ⟨by decide, by decide, (show _ = some 4 from by decide +kernel)⟩ ⟨Nat.le_of_ble_eq_true rfl, Nat.le_of_ble_eq_true rfl⟩ 0 4 rfl rfl rfl rfl (Nat.le_of_ble_eq_true rfl) dX4_writeRow_21 ⟨Nat.zero_le _, Nat.zero_le _⟩ ?_
  exact vRetI X hret dX4_writeRow_24 ⟨rfl, rfl⟩
set_option maxHeartbeats 4000000 in
set_option maxRecDepth 100000 in
theorem mm_writeRow0 (l : Launch) (D : va_G) (k : Nat → ClassId) (o : Nat → Nat) (sb : Nat) (B : Nat → Nat → Int32) (Ln Rm : Nat → Nat) (Rd : Nat → Option Nat) (Pl Mk : Nat → Nat) (G : Nat → Nat → Int32) (Sz : Nat → Nat) (Kp : Nat → Int32) (th : Int32) (g r : Nat) (hg : g < 3) (hr : r < 4) (hs : Sz g + Ln (Rm r) ≤ 256) (hRm : ∀ r, r < 4 → Rm r < 8) (hLn : ∀ a, Ln a ≤ 256) (hBF : ∀ a b, lb (B a b) = B a b) : vCt l yX4_writeRow cX4_writeRow 3 (some .int) 3 69 0 0 D vCl (vTy k) sb [.ref (o 0), .int (nI (g)), .int (nI (r))] (mW k o B Ln Rm Rd Pl Mk G Sz Kp th) (vDet (some (.int (nI (Sz g + Ln (Rm r))))) (mW k o B Ln Rm Rd Pl Mk (cpG G g (Sz g) (Ln (Rm r)) (fun j => B (Rm r) (0 + j))) (va_up Sz g (Sz g + Ln (Rm r))) Kp (nI 0))) := by
  have hRr := hRm r hr
  have hLr := hLn (Rm r)
  refine vOf (by decide +kernel) (Nat.le_of_ble_eq_true rfl) (fun p e s m below meth c X hret _ => ?_)
  refine vAloadN X dX4_writeRow_0 0 rfl ?_
  refine vIloadN X dX4_writeRow_1 1 rfl ?_
  refine vIloadN X dX4_writeRow_2 2 rfl ?_
  refine vIconst X dX4_writeRow_3 (v := nI (0)) (by decide) ?_
  refine vAloadN X dX4_writeRow_4 0 rfl ?_
  refine vIloadN X dX4_writeRow_5 2 rfl ?_
  refine vCallVd X [.int (nI (0)), .int (nI (r)), .int (nI (g)), .ref (o 0)] (mm_isRowT l D k o sb B Ln Rm Rd Pl Mk G Sz Kp th r (by omega)) (vGV q_782 q_784 q_7 q_29 q_785) ⟨by decide, by decide, (show _ = some 1 from by decide +kernel)⟩ ⟨Nat.le_of_ble_eq_true rfl, Nat.le_of_ble_eq_true rfl⟩ 0 4 rfl rfl rfl rfl (Nat.le_of_ble_eq_true rfl) dX4_writeRow_6 ⟨Nat.zero_le _, Nat.zero_le _⟩ ?_
  refine vIfN_eqF X 20 dX4_writeRow_9 (by decide) (by omega) (by omega) ?_
  refine vAloadN X dX4_writeRow_12 0 rfl ?_
  refine vIloadN X dX4_writeRow_13 2 rfl ?_
  refine vCallVd X [.int (nI (0)), .int (nI (r)), .int (nI (g)), .ref (o 0)] (mm_long0 l D k o sb B Ln Rm Rd Pl Mk G Sz Kp th r (by omega) (by omega)) (vGV q_790 q_792 q_9 q_29 q_793) ⟨by decide, by decide, (show _ = some 1 from by decide +kernel)⟩ ⟨Nat.le_of_ble_eq_true rfl, Nat.le_of_ble_eq_true rfl⟩ 0 4 rfl rfl rfl rfl (Nat.le_of_ble_eq_true rfl) dX4_writeRow_14 ⟨Nat.zero_le _, Nat.zero_le _⟩ ?_
  refine vGoto X 21 dX4_writeRow_17 (by decide) ?_
  refine vCallVd X [] (mm_writePart0 l D k o sb B Ln Rm Rd Pl Mk G Sz Kp th g r 0 (Ln (Rm r)) hg hr (by omega) (by omega) hRm hLn hBF) (vGV q_858 q_851 q_852 q_29 q_853) ⟨by decide, by decide, (show _ = some 4 from by decide +kernel)⟩ ⟨Nat.le_of_ble_eq_true rfl, Nat.le_of_ble_eq_true rfl⟩ 0 4 rfl rfl rfl rfl (Nat.le_of_ble_eq_true rfl) dX4_writeRow_21 ⟨Nat.zero_le _, Nat.zero_le _⟩ ?_
  exact vRetI X hret dX4_writeRow_24 ⟨rfl, rfl⟩
end
section
/-- the four bytes of a number, the highest one first -/
def n4 (v : Int32) (j : Nat) : Int32 := lb (v >>> (nI (24 - 8 * j) &&& 31))
theorem cpG_S (G : Nat → Nat → Int32) (g s i : Nat) (src : Nat → Int32) (x : Int32) (hx : src i = x) : up2 (cpG G g s i src) g (s + i) x = cpG G g s (i + 1) src := by
  rw [← hx]; exact cpG_1 G g s i src
set_option maxHeartbeats 4000000 in
set_option maxRecDepth 100000 in
theorem mm_writeNumber1 (l : Launch) (D : va_G) (k : Nat → ClassId) (o : Nat → Nat) (sb : Nat) (B : Nat → Nat → Int32) (Ln Rm : Nat → Nat) (Rd : Nat → Option Nat) (Pl Mk : Nat → Nat) (G : Nat → Nat → Int32) (Sz : Nat → Nat) (Kp : Nat → Int32) (th : Int32) (x v : Int32) (hx : ¬ vOther x) : vCt l yX4_writeNumber cX4_writeNumber 4 (some .int) 2 44 0 0 D vCl (vTy k) sb [.ref (o 0), .int (x), .int (v)] (mW k o B Ln Rm Rd Pl Mk G Sz Kp th) (vDet (some (.int (nI (0)))) (mW k o B Ln Rm Rd Pl Mk G Sz Kp (nI (1)))) := by
  refine vOf (by decide +kernel) (Nat.le_of_ble_eq_true rfl) (fun p e s m below meth c X hret _ => ?_)
  refine vAloadN X dX4_writeNumber_0 0 rfl ?_
  refine vAloadN X dX4_writeNumber_1 0 rfl ?_
  refine vIloadN X dX4_writeNumber_2 1 rfl ?_
  refine vCallVd X [.ref (o 0)] (mm_isOtherF l D k o sb B Ln Rm Rd Pl Mk G Sz Kp th x hx) (vGV q_838 q_840 q_14 q_29 q_841) ⟨by decide, by decide, (show _ = some 1 from by decide +kernel)⟩ ⟨Nat.le_of_ble_eq_true rfl, Nat.le_of_ble_eq_true rfl⟩ 0 4 rfl rfl rfl rfl (Nat.le_of_ble_eq_true rfl) dX4_writeNumber_3 ⟨Nat.zero_le _, Nat.zero_le _⟩ ?_
  refine vIfN_neF X 13 dX4_writeNumber_6 (by decide) (by omega) (by omega) ?_
  refine vIconst X dX4_writeNumber_9 (v := nI (1)) (by decide) ?_
  refine vGoto X 27 dX4_writeNumber_10 (by decide) ?_
  refine vCallVd X [] (mm_isWrong1 l D k o sb B Ln Rm Rd Pl Mk G Sz Kp th 1 (by decide) (by decide)) (vGV q_786 q_788 q_8 q_29 q_789) ⟨by decide, by decide, (show _ = some 1 from by decide +kernel)⟩ ⟨Nat.le_of_ble_eq_true rfl, Nat.le_of_ble_eq_true rfl⟩ 0 4 rfl rfl rfl rfl (Nat.le_of_ble_eq_true rfl) dX4_writeNumber_27 ⟨Nat.zero_le _, Nat.zero_le _⟩ ?_
  refine vIfN_eqF X 35 dX4_writeNumber_30 (by decide) (by omega) (by omega) ?_
  refine vIconst X dX4_writeNumber_33 (v := nI (0)) (by decide) ?_
  exact vRetI X hret dX4_writeNumber_34 ⟨rfl, rfl⟩
set_option maxHeartbeats 4000000 in
set_option maxRecDepth 100000 in
theorem mm_writeNumber2 (l : Launch) (D : va_G) (k : Nat → ClassId) (o : Nat → Nat) (sb : Nat) (B : Nat → Nat → Int32) (Ln Rm : Nat → Nat) (Rd : Nat → Option Nat) (Pl Mk : Nat → Nat) (G : Nat → Nat → Int32) (Sz : Nat → Nat) (Kp : Nat → Int32) (th : Int32) (g : Nat) (v : Int32) (hg : g < 3) (hs : Sz g ≤ 256) (h : 256 < Sz g + 4) : vCt l yX4_writeNumber cX4_writeNumber 4 (some .int) 2 44 0 0 D vCl (vTy k) sb [.ref (o 0), .int (nI (g)), .int (v)] (mW k o B Ln Rm Rd Pl Mk G Sz Kp th) (vDet (some (.int (nI (0)))) (mW k o B Ln Rm Rd Pl Mk G Sz Kp (nI (2)))) := by
  refine vOf (by decide +kernel) (Nat.le_of_ble_eq_true rfl) (fun p e s m below meth c X hret _ => ?_)
  refine vAloadN X dX4_writeNumber_0 0 rfl ?_
  refine vAloadN X dX4_writeNumber_1 0 rfl ?_
  refine vIloadN X dX4_writeNumber_2 1 rfl ?_
  refine vCallVd X [.ref (o 0)] (mm_isOtherT l D k o sb B Ln Rm Rd Pl Mk G Sz Kp th g (by omega)) (vGV q_838 q_840 q_14 q_29 q_841) ⟨by decide, by decide, (show _ = some 1 from by decide +kernel)⟩ ⟨Nat.le_of_ble_eq_true rfl, Nat.le_of_ble_eq_true rfl⟩ 0 4 rfl rfl rfl rfl (Nat.le_of_ble_eq_true rfl) dX4_writeNumber_3 ⟨Nat.zero_le _, Nat.zero_le _⟩ ?_
  refine vIfN_neT X 13 dX4_writeNumber_6 (by decide) (by omega) (by omega) ?_
  refine vAloadN X dX4_writeNumber_13 0 rfl ?_
  refine vIloadN X dX4_writeNumber_14 1 rfl ?_
  refine vIconst X dX4_writeNumber_15 (v := nI (4)) (by decide) ?_
  refine vCallVd X [.ref (o 0)] (mm_isFullT l D k o sb B Ln Rm Rd Pl Mk G Sz Kp th g 4 (by omega) (by omega) (by omega) (by omega)) (vGV q_842 q_844 q_15 q_29 q_845) ⟨by decide, by decide, (show _ = some 2 from by decide +kernel)⟩ ⟨Nat.le_of_ble_eq_true rfl, Nat.le_of_ble_eq_true rfl⟩ 0 4 rfl rfl rfl rfl (Nat.le_of_ble_eq_true rfl) dX4_writeNumber_16 ⟨Nat.zero_le _, Nat.zero_le _⟩ ?_
  refine vIfN_eqF X 26 dX4_writeNumber_19 (by decide) (by omega) (by omega) ?_
  refine vIconst X dX4_writeNumber_22 (v := nI (2)) (by decide) ?_
  refine vGoto X 27 dX4_writeNumber_23 (by decide) ?_
  refine vCallVd X [] (mm_isWrong1 l D k o sb B Ln Rm Rd Pl Mk G Sz Kp th 2 (by decide) (by decide)) (vGV q_786 q_788 q_8 q_29 q_789) ⟨by decide, by decide, (show _ = some 1 from by decide +kernel)⟩ ⟨Nat.le_of_ble_eq_true rfl, Nat.le_of_ble_eq_true rfl⟩ 0 4 rfl rfl rfl rfl (Nat.le_of_ble_eq_true rfl) dX4_writeNumber_27 ⟨Nat.zero_le _, Nat.zero_le _⟩ ?_
  refine vIfN_eqF X 35 dX4_writeNumber_30 (by decide) (by omega) (by omega) ?_
  refine vIconst X dX4_writeNumber_33 (v := nI (0)) (by decide) ?_
  exact vRetI X hret dX4_writeNumber_34 ⟨rfl, rfl⟩
set_option maxHeartbeats 4000000 in
set_option maxRecDepth 100000 in
theorem mm_writeNumber0 (l : Launch) (D : va_G) (k : Nat → ClassId) (o : Nat → Nat) (sb : Nat) (B : Nat → Nat → Int32) (Ln Rm : Nat → Nat) (Rd : Nat → Option Nat) (Pl Mk : Nat → Nat) (G : Nat → Nat → Int32) (Sz : Nat → Nat) (Kp : Nat → Int32) (th : Int32) (g : Nat) (v : Int32) (hg : g < 3) (h : Sz g + 4 ≤ 256) : vCt l yX4_writeNumber cX4_writeNumber 4 (some .int) 2 44 0 0 D vCl (vTy k) sb [.ref (o 0), .int (nI (g)), .int (v)] (mW k o B Ln Rm Rd Pl Mk G Sz Kp th) (vDet (some (.int (nI (Sz g + 4)))) (mW k o B Ln Rm Rd Pl Mk (cpG G g (Sz g) 4 (n4 v)) (va_up Sz g (Sz g + 4)) Kp (nI (0)))) := by
  refine vOf (by decide +kernel) (Nat.le_of_ble_eq_true rfl) (fun p e s m below meth c X hret _ => ?_)
  refine vAloadN X dX4_writeNumber_0 0 rfl ?_
  refine vAloadN X dX4_writeNumber_1 0 rfl ?_
  refine vIloadN X dX4_writeNumber_2 1 rfl ?_
  refine vCallVd X [.ref (o 0)] (mm_isOtherT l D k o sb B Ln Rm Rd Pl Mk G Sz Kp th g (by omega)) (vGV q_838 q_840 q_14 q_29 q_841) ⟨by decide, by decide, (show _ = some 1 from by decide +kernel)⟩ ⟨Nat.le_of_ble_eq_true rfl, Nat.le_of_ble_eq_true rfl⟩ 0 4 rfl rfl rfl rfl (Nat.le_of_ble_eq_true rfl) dX4_writeNumber_3 ⟨Nat.zero_le _, Nat.zero_le _⟩ ?_
  refine vIfN_neT X 13 dX4_writeNumber_6 (by decide) (by omega) (by omega) ?_
  refine vAloadN X dX4_writeNumber_13 0 rfl ?_
  refine vIloadN X dX4_writeNumber_14 1 rfl ?_
  refine vIconst X dX4_writeNumber_15 (v := nI (4)) (by decide) ?_
  refine vCallVd X [.ref (o 0)] (mm_isFullF l D k o sb B Ln Rm Rd Pl Mk G Sz Kp th g 4 (by omega) (by omega)) (vGV q_842 q_844 q_15 q_29 q_845) ⟨by decide, by decide, (show _ = some 2 from by decide +kernel)⟩ ⟨Nat.le_of_ble_eq_true rfl, Nat.le_of_ble_eq_true rfl⟩ 0 4 rfl rfl rfl rfl (Nat.le_of_ble_eq_true rfl) dX4_writeNumber_16 ⟨Nat.zero_le _, Nat.zero_le _⟩ ?_
  refine vIfN_eqT X 26 dX4_writeNumber_19 (by decide) (by omega) (by omega) ?_
  refine vIconst X dX4_writeNumber_26 (v := nI (0)) (by decide) ?_
  refine vCallVd X [] (mm_isWrong0 l D k o sb B Ln Rm Rd Pl Mk G Sz Kp th ) (vGV q_786 q_788 q_8 q_29 q_789) ⟨by decide, by decide, (show _ = some 1 from by decide +kernel)⟩ ⟨Nat.le_of_ble_eq_true rfl, Nat.le_of_ble_eq_true rfl⟩ 0 4 rfl rfl rfl rfl (Nat.le_of_ble_eq_true rfl) dX4_writeNumber_27 ⟨Nat.zero_le _, Nat.zero_le _⟩ ?_
  refine vIfN_eqT X 35 dX4_writeNumber_30 (by decide) (by omega) (by omega) ?_
  refine vBipush X dX4_writeNumber_35 (v := nI (24)) (by decide) ?_
  refine vIstoreN X [(3, .int (nI (24))), (0, .ref (o 0)), (1, .int (nI (g))), (2, .int (v))] dX4_writeNumber_37 (by decide) rfl ?_
  refine vIloadN X dX4_writeNumber_38 0 rfl ?_
  refine vIfN_ltF X 56 dX4_writeNumber_39 (by decide) (by omega) (by omega) ?_
  refine vAloadN X dX4_writeNumber_42 1 rfl ?_
  refine vIloadN X dX4_writeNumber_43 2 rfl ?_
  refine vIloadN X dX4_writeNumber_44 3 rfl ?_
  refine vIloadN X dX4_writeNumber_45 0 rfl ?_
  refine vIshr X dX4_writeNumber_46 (v := (v) >>> ((nI (24)) &&& 31)) rfl ?_
  refine vCallVd X [] (mm_adds l D k o sb B Ln Rm Rd Pl Mk G Sz Kp (nI (0)) g ((v) >>> ((nI (24)) &&& 31)) (by omega) (by first | omega | (rw [va_up_eq]; omega))) (vGV q_846 q_848 q_16 q_29 q_849) ⟨by decide, by decide, (show _ = some 2 from by decide +kernel)⟩ ⟨Nat.le_of_ble_eq_true rfl, Nat.le_of_ble_eq_true rfl⟩ 0 4 rfl rfl rfl rfl (Nat.le_of_ble_eq_true rfl) dX4_writeNumber_47 ⟨Nat.zero_le _, Nat.zero_le _⟩ ?_
  refine vIinc X [(3, .int (nI (16))), (0, .ref (o 0)), (1, .int (nI (g))), (2, .int (v))] dX4_writeNumber_50 0 rfl (by decide) (by decide) rfl ?_
  refine vGoto X 38 dX4_writeNumber_53 (by decide) ?_
  refine vWs (ws' := mW k o B Ln Rm Rd Pl Mk (cpG G g (Sz g) 1 (n4 v)) (va_up Sz g (Sz g + 1)) Kp (nI (0))) (by rw [show up2 G g (Sz g) (lb (v >>> (nI 24 &&& 31))) = cpG G g (Sz g) 1 (n4 v) from (congrArg (fun z => up2 z g (Sz g) _) (cpG_0 G g (Sz g) (n4 v))).trans (cpG_S G g (Sz g) 0 (n4 v) _ rfl)]) ?_
  refine vIloadN X dX4_writeNumber_38 0 rfl ?_
  refine vIfN_ltF X 56 dX4_writeNumber_39 (by decide) (by omega) (by omega) ?_
  refine vAloadN X dX4_writeNumber_42 1 rfl ?_
  refine vIloadN X dX4_writeNumber_43 2 rfl ?_
  refine vIloadN X dX4_writeNumber_44 3 rfl ?_
  refine vIloadN X dX4_writeNumber_45 0 rfl ?_
  refine vIshr X dX4_writeNumber_46 (v := (v) >>> ((nI (16)) &&& 31)) rfl ?_
  refine vCallVd X [] (mm_adds l D k o sb B Ln Rm Rd Pl Mk (cpG G g (Sz g) 1 (n4 v)) (va_up Sz g (Sz g + 1)) Kp (nI (0)) g ((v) >>> ((nI (16)) &&& 31)) (by omega) (by first | omega | (rw [va_up_eq]; omega))) (vGV q_846 q_848 q_16 q_29 q_849) ⟨by decide, by decide, (show _ = some 2 from by decide +kernel)⟩ ⟨Nat.le_of_ble_eq_true rfl, Nat.le_of_ble_eq_true rfl⟩ 0 4 rfl rfl rfl rfl (Nat.le_of_ble_eq_true rfl) dX4_writeNumber_47 ⟨Nat.zero_le _, Nat.zero_le _⟩ ?_
  refine vIinc X [(3, .int (nI (8))), (0, .ref (o 0)), (1, .int (nI (g))), (2, .int (v))] dX4_writeNumber_50 0 rfl (by decide) (by decide) rfl ?_
  refine vGoto X 38 dX4_writeNumber_53 (by decide) ?_
  refine vWs (ws' := mW k o B Ln Rm Rd Pl Mk (cpG G g (Sz g) 2 (n4 v)) (va_up Sz g (Sz g + 2)) Kp (nI (0))) (by rw [va_up_eq, va_up_up, show up2 (cpG G g (Sz g) 1 (n4 v)) g (Sz g + 1) (lb (v >>> (nI 16 &&& 31))) = cpG G g (Sz g) 2 (n4 v) from cpG_S G g (Sz g) 1 (n4 v) _ rfl]) ?_
  refine vIloadN X dX4_writeNumber_38 0 rfl ?_
  refine vIfN_ltF X 56 dX4_writeNumber_39 (by decide) (by omega) (by omega) ?_
  refine vAloadN X dX4_writeNumber_42 1 rfl ?_
  refine vIloadN X dX4_writeNumber_43 2 rfl ?_
  refine vIloadN X dX4_writeNumber_44 3 rfl ?_
  refine vIloadN X dX4_writeNumber_45 0 rfl ?_
  refine vIshr X dX4_writeNumber_46 (v := (v) >>> ((nI (8)) &&& 31)) rfl ?_
  refine vCallVd X [] (mm_adds l D k o sb B Ln Rm Rd Pl Mk (cpG G g (Sz g) 2 (n4 v)) (va_up Sz g (Sz g + 2)) Kp (nI (0)) g ((v) >>> ((nI (8)) &&& 31)) (by omega) (by first | omega | (rw [va_up_eq]; omega))) (vGV q_846 q_848 q_16 q_29 q_849) ⟨by decide, by decide, (show _ = some 2 from by decide +kernel)⟩ ⟨Nat.le_of_ble_eq_true rfl, Nat.le_of_ble_eq_true rfl⟩ 0 4 rfl rfl rfl rfl (Nat.le_of_ble_eq_true rfl) dX4_writeNumber_47 ⟨Nat.zero_le _, Nat.zero_le _⟩ ?_
  refine vIinc X [(3, .int (nI (0))), (0, .ref (o 0)), (1, .int (nI (g))), (2, .int (v))] dX4_writeNumber_50 0 rfl (by decide) (by decide) rfl ?_
  refine vGoto X 38 dX4_writeNumber_53 (by decide) ?_
  refine vWs (ws' := mW k o B Ln Rm Rd Pl Mk (cpG G g (Sz g) 3 (n4 v)) (va_up Sz g (Sz g + 3)) Kp (nI (0))) (by rw [va_up_eq, va_up_up, show up2 (cpG G g (Sz g) 2 (n4 v)) g (Sz g + 2) (lb (v >>> (nI 8 &&& 31))) = cpG G g (Sz g) 3 (n4 v) from cpG_S G g (Sz g) 2 (n4 v) _ rfl]) ?_
  refine vIloadN X dX4_writeNumber_38 0 rfl ?_
  refine vIfN_ltF X 56 dX4_writeNumber_39 (by decide) (by omega) (by omega) ?_
  refine vAloadN X dX4_writeNumber_42 1 rfl ?_
  refine vIloadN X dX4_writeNumber_43 2 rfl ?_
  refine vIloadN X dX4_writeNumber_44 3 rfl ?_
  refine vIloadN X dX4_writeNumber_45 0 rfl ?_
  refine vIshr X dX4_writeNumber_46 (v := (v) >>> ((nI (0)) &&& 31)) rfl ?_
  refine vCallVd X [] (mm_adds l D k o sb B Ln Rm Rd Pl Mk (cpG G g (Sz g) 3 (n4 v)) (va_up Sz g (Sz g + 3)) Kp (nI (0)) g ((v) >>> ((nI (0)) &&& 31)) (by omega) (by first | omega | (rw [va_up_eq]; omega))) (vGV q_846 q_848 q_16 q_29 q_849) ⟨by decide, by decide, (show _ = some 2 from by decide +kernel)⟩ ⟨Nat.le_of_ble_eq_true rfl, Nat.le_of_ble_eq_true rfl⟩ 0 4 rfl rfl rfl rfl (Nat.le_of_ble_eq_true rfl) dX4_writeNumber_47 ⟨Nat.zero_le _, Nat.zero_le _⟩ ?_
  refine vIinc X [(3, .int ((-8 : Int32))), (0, .ref (o 0)), (1, .int (nI (g))), (2, .int (v))] dX4_writeNumber_50 0 rfl (by decide) (by decide) rfl ?_
  refine vGoto X 38 dX4_writeNumber_53 (by decide) ?_
  refine vWs (ws' := mW k o B Ln Rm Rd Pl Mk (cpG G g (Sz g) 4 (n4 v)) (va_up Sz g (Sz g + 4)) Kp (nI (0))) (by rw [va_up_eq, va_up_up, show up2 (cpG G g (Sz g) 3 (n4 v)) g (Sz g + 3) (lb (v >>> (nI 0 &&& 31))) = cpG G g (Sz g) 4 (n4 v) from cpG_S G g (Sz g) 3 (n4 v) _ rfl]) ?_
  refine vIloadN X dX4_writeNumber_38 0 rfl ?_
  refine vIf_ltT X 56 dX4_writeNumber_39 (by decide) (by first | assumption | exact Int32.not_lt.mpr (by assumption) | exact Int32.not_le.mpr (by assumption) | exact Int32.not_lt.mp (by assumption) | exact Int32.not_le.mp (by assumption) | decide) ?_
  refine vAloadN X dX4_writeNumber_56 1 rfl ?_
  refine vGet X (C := RX4) (T := TX4) (N := 10) (ci := 4) (vcons inM) rfl 0 rfl 7 (by decide) (List.mem_cons_of_mem _ q_749) (fun _ h => h) rfl dX4_writeNumber_57 ?_
  refine vIloadN X dX4_writeNumber_60 2 rfl ?_
  refine vIaload X (v := nI ((va_up Sz g (Sz g + 4)) (g))) 8 1 rfl rfl rfl (by omega) (by decide) rfl dX4_writeNumber_61 ?_
  exact vRetI X hret dX4_writeNumber_62 ⟨by rw [va_up_eq], rfl⟩
set_option maxHeartbeats 4000000 in
set_option maxRecDepth 100000 in
theorem mm_size1 (l : Launch) (D : va_G) (k : Nat → ClassId) (o : Nat → Nat) (sb : Nat) (B : Nat → Nat → Int32) (Ln Rm : Nat → Nat) (Rd : Nat → Option Nat) (Pl Mk : Nat → Nat) (G : Nat → Nat → Int32) (Sz : Nat → Nat) (Kp : Nat → Int32) (th : Int32) (x : Int32) (hx : ¬ vOther x) : vCt l yX4_size cX4_size 2 (some .int) 1 21 0 0 D vCl (vTy k) sb [.ref (o 0), .int (x)] (mW k o B Ln Rm Rd Pl Mk G Sz Kp th) (vDet (some (.int (nI (0)))) (mW k o B Ln Rm Rd Pl Mk G Sz Kp (nI (1)))) := by
  refine vOf (by decide +kernel) (Nat.le_of_ble_eq_true rfl) (fun p e s m below meth c X hret _ => ?_)
  refine vAloadN X dX4_size_0 0 rfl ?_
  refine vAloadN X dX4_size_1 0 rfl ?_
  refine vIloadN X dX4_size_2 1 rfl ?_
  refine vCallVd X [.ref (o 0)] (mm_isOtherF l D k o sb B Ln Rm Rd Pl Mk G Sz Kp th x hx) (vGV q_838 q_840 q_14 q_29 q_841) ⟨by decide, by decide, (show _ = some 1 from by decide +kernel)⟩ ⟨Nat.le_of_ble_eq_true rfl, Nat.le_of_ble_eq_true rfl⟩ 0 4 rfl rfl rfl rfl (Nat.le_of_ble_eq_true rfl) dX4_size_3 ⟨Nat.zero_le _, Nat.zero_le _⟩ ?_
  refine vIfN_eqT X 13 dX4_size_6 (by decide) (by omega) (by omega) ?_
  refine vIconst X dX4_size_13 (v := nI (1)) (by decide) ?_
  refine vCallVd X [] (mm_isWrong1 l D k o sb B Ln Rm Rd Pl Mk G Sz Kp th 1 (by decide) (by decide)) (vGV q_786 q_788 q_8 q_29 q_789) ⟨by decide, by decide, (show _ = some 1 from by decide +kernel)⟩ ⟨Nat.le_of_ble_eq_true rfl, Nat.le_of_ble_eq_true rfl⟩ 0 4 rfl rfl rfl rfl (Nat.le_of_ble_eq_true rfl) dX4_size_14 ⟨Nat.zero_le _, Nat.zero_le _⟩ ?_
  refine vIfN_eqF X 24 dX4_size_17 (by decide) (by omega) (by omega) ?_
  refine vIconst X dX4_size_20 (v := nI (0)) (by decide) ?_
  refine vGoto X 30 dX4_size_21 (by decide) ?_
  exact vRetI X hret dX4_size_30 ⟨rfl, rfl⟩
set_option maxHeartbeats 4000000 in
set_option maxRecDepth 100000 in
theorem mm_size0 (l : Launch) (D : va_G) (k : Nat → ClassId) (o : Nat → Nat) (sb : Nat) (B : Nat → Nat → Int32) (Ln Rm : Nat → Nat) (Rd : Nat → Option Nat) (Pl Mk : Nat → Nat) (G : Nat → Nat → Int32) (Sz : Nat → Nat) (Kp : Nat → Int32) (th : Int32) (g : Nat) (hg : g < 3) : vCt l yX4_size cX4_size 2 (some .int) 1 21 0 0 D vCl (vTy k) sb [.ref (o 0), .int (nI (g))] (mW k o B Ln Rm Rd Pl Mk G Sz Kp th) (vDet (some (.int (nI (Sz g)))) (mW k o B Ln Rm Rd Pl Mk G Sz Kp (nI (0)))) := by
  refine vOf (by decide +kernel) (Nat.le_of_ble_eq_true rfl) (fun p e s m below meth c X hret _ => ?_)
  refine vAloadN X dX4_size_0 0 rfl ?_
  refine vAloadN X dX4_size_1 0 rfl ?_
  refine vIloadN X dX4_size_2 1 rfl ?_
  refine vCallVd X [.ref (o 0)] (mm_isOtherT l D k o sb B Ln Rm Rd Pl Mk G Sz Kp th g (by omega)) (vGV q_838 q_840 q_14 q_29 q_841) ⟨by decide, by decide, (show _ = some 1 from by decide +kernel)⟩ ⟨Nat.le_of_ble_eq_true rfl, Nat.le_of_ble_eq_true rfl⟩ 0 4 rfl rfl rfl rfl (Nat.le_of_ble_eq_true rfl) dX4_size_3 ⟨Nat.zero_le _, Nat.zero_le _⟩ ?_
  refine vIfN_eqF X 13 dX4_size_6 (by decide) (by omega) (by omega) ?_
  refine vIconst X dX4_size_9 (v := nI (0)) (by decide) ?_
  refine vGoto X 14 dX4_size_10 (by decide) ?_
  refine vCallVd X [] (mm_isWrong0 l D k o sb B Ln Rm Rd Pl Mk G Sz Kp th ) (vGV q_786 q_788 q_8 q_29 q_789) ⟨by decide, by decide, (show _ = some 1 from by decide +kernel)⟩ ⟨Nat.le_of_ble_eq_true rfl, Nat.le_of_ble_eq_true rfl⟩ 0 4 rfl rfl rfl rfl (Nat.le_of_ble_eq_true rfl) dX4_size_14 ⟨Nat.zero_le _, Nat.zero_le _⟩ ?_
  refine vIfN_eqT X 24 dX4_size_17 (by decide) (by omega) (by omega) ?_
  refine vAloadN X dX4_size_24 0 rfl ?_
  refine vGet X (C := RX4) (T := TX4) (N := 10) (ci := 4) (vcons inM) rfl 0 rfl 7 (by decide) (List.mem_cons_of_mem _ q_749) (fun _ h => h) rfl dX4_size_25 ?_
  refine vIloadN X dX4_size_28 1 rfl ?_
  refine vIaload X (v := nI (Sz (g))) 8 1 rfl rfl rfl (by omega) (by decide) rfl dX4_size_29 ?_
  exact vRetI X hret dX4_size_30 ⟨rfl, rfl⟩
set_option maxHeartbeats 4000000 in
set_option maxRecDepth 100000 in
theorem mm_empty1 (l : Launch) (D : va_G) (k : Nat → ClassId) (o : Nat → Nat) (sb : Nat) (B : Nat → Nat → Int32) (Ln Rm : Nat → Nat) (Rd : Nat → Option Nat) (Pl Mk : Nat → Nat) (G : Nat → Nat → Int32) (Sz : Nat → Nat) (Kp : Nat → Int32) (th : Int32) (x : Int32) (hx : ¬ vOther x) : vCt l yX4_empty cX4_empty 3 (some .int) 1 21 0 0 D vCl (vTy k) sb [.ref (o 0), .int (x)] (mW k o B Ln Rm Rd Pl Mk G Sz Kp th) (vDet (some (.int (nI (0)))) (mW k o B Ln Rm Rd Pl Mk G Sz Kp (nI (1)))) := by
  refine vOf (by decide +kernel) (Nat.le_of_ble_eq_true rfl) (fun p e s m below meth c X hret _ => ?_)
  refine vAloadN X dX4_empty_0 0 rfl ?_
  refine vAloadN X dX4_empty_1 0 rfl ?_
  refine vIloadN X dX4_empty_2 1 rfl ?_
  refine vCallVd X [.ref (o 0)] (mm_isOtherF l D k o sb B Ln Rm Rd Pl Mk G Sz Kp th x hx) (vGV q_838 q_840 q_14 q_29 q_841) ⟨by decide, by decide, (show _ = some 1 from by decide +kernel)⟩ ⟨Nat.le_of_ble_eq_true rfl, Nat.le_of_ble_eq_true rfl⟩ 0 4 rfl rfl rfl rfl (Nat.le_of_ble_eq_true rfl) dX4_empty_3 ⟨Nat.zero_le _, Nat.zero_le _⟩ ?_
  refine vIfN_eqT X 13 dX4_empty_6 (by decide) (by omega) (by omega) ?_
  refine vIconst X dX4_empty_13 (v := nI (1)) (by decide) ?_
  refine vCallVd X [] (mm_isWrong1 l D k o sb B Ln Rm Rd Pl Mk G Sz Kp th 1 (by decide) (by decide)) (vGV q_786 q_788 q_8 q_29 q_789) ⟨by decide, by decide, (show _ = some 1 from by decide +kernel)⟩ ⟨Nat.le_of_ble_eq_true rfl, Nat.le_of_ble_eq_true rfl⟩ 0 4 rfl rfl rfl rfl (Nat.le_of_ble_eq_true rfl) dX4_empty_14 ⟨Nat.zero_le _, Nat.zero_le _⟩ ?_
  refine vIfN_eqF X 22 dX4_empty_17 (by decide) (by omega) (by omega) ?_
  refine vIconst X dX4_empty_20 (v := nI (0)) (by decide) ?_
  exact vRetI X hret dX4_empty_21 ⟨rfl, rfl⟩
set_option maxHeartbeats 4000000 in
set_option maxRecDepth 100000 in
theorem mm_empty0 (l : Launch) (D : va_G) (k : Nat → ClassId) (o : Nat → Nat) (sb : Nat) (B : Nat → Nat → Int32) (Ln Rm : Nat → Nat) (Rd : Nat → Option Nat) (Pl Mk : Nat → Nat) (G : Nat → Nat → Int32) (Sz : Nat → Nat) (Kp : Nat → Int32) (th : Int32) (g : Nat) (hg : g < 3) : vCt l yX4_empty cX4_empty 3 (some .int) 1 21 0 0 D vCl (vTy k) sb [.ref (o 0), .int (nI (g))] (mW k o B Ln Rm Rd Pl Mk G Sz Kp th) (vDet (some (.int (nI (Sz g)))) (mW k o B Ln Rm Rd Pl Mk G (va_up Sz (g) (0)) Kp (nI (0)))) := by
  refine vOf (by decide +kernel) (Nat.le_of_ble_eq_true rfl) (fun p e s m below meth c X hret _ => ?_)
  refine vAloadN X dX4_empty_0 0 rfl ?_
  refine vAloadN X dX4_empty_1 0 rfl ?_
  refine vIloadN X dX4_empty_2 1 rfl ?_
  refine vCallVd X [.ref (o 0)] (mm_isOtherT l D k o sb B Ln Rm Rd Pl Mk G Sz Kp th g (by omega)) (vGV q_838 q_840 q_14 q_29 q_841) ⟨by decide, by decide, (show _ = some 1 from by decide +kernel)⟩ ⟨Nat.le_of_ble_eq_true rfl, Nat.le_of_ble_eq_true rfl⟩ 0 4 rfl rfl rfl rfl (Nat.le_of_ble_eq_true rfl) dX4_empty_3 ⟨Nat.zero_le _, Nat.zero_le _⟩ ?_
  refine vIfN_eqF X 13 dX4_empty_6 (by decide) (by omega) (by omega) ?_
  refine vIconst X dX4_empty_9 (v := nI (0)) (by decide) ?_
  refine vGoto X 14 dX4_empty_10 (by decide) ?_
  refine vCallVd X [] (mm_isWrong0 l D k o sb B Ln Rm Rd Pl Mk G Sz Kp th ) (vGV q_786 q_788 q_8 q_29 q_789) ⟨by decide, by decide, (show _ = some 1 from by decide +kernel)⟩ ⟨Nat.le_of_ble_eq_true rfl, Nat.le_of_ble_eq_true rfl⟩ 0 4 rfl rfl rfl rfl (Nat.le_of_ble_eq_true rfl) dX4_empty_14 ⟨Nat.zero_le _, Nat.zero_le _⟩ ?_
  refine vIfN_eqT X 22 dX4_empty_17 (by decide) (by omega) (by omega) ?_
  refine vAloadN X dX4_empty_22 0 rfl ?_
  refine vGet X (C := RX4) (T := TX4) (N := 10) (ci := 4) (vcons inM) rfl 0 rfl 7 (by decide) (List.mem_cons_of_mem _ q_749) (fun _ h => h) rfl dX4_empty_23 ?_
  refine vIloadN X dX4_empty_26 1 rfl ?_
  refine vIaload X (v := nI (Sz (g))) 8 1 rfl rfl rfl (by omega) (by decide) rfl dX4_empty_27 ?_
  refine vIstoreN X [(2, .int (nI (Sz (g)))), (0, .ref (o 0)), (1, .int (nI (g)))] dX4_empty_28 (by decide) rfl ?_
  refine vAloadN X dX4_empty_29 1 rfl ?_
  refine vGet X (C := RX4) (T := TX4) (N := 10) (ci := 4) (vcons inM) rfl 0 rfl 7 (by decide) (List.mem_cons_of_mem _ q_749) (fun _ h => h) rfl dX4_empty_30 ?_
  refine vIloadN X dX4_empty_33 2 rfl ?_
  refine vIconst X dX4_empty_34 (v := nI (0)) (by decide) ?_
  refine vIastore X (g := (fun q => nI ((va_up Sz (g) (0)) q))) 8 1 rfl rfl rfl (by omega) (by decide) (nI_up _ _ _) dX4_empty_35 ?_
  refine vWs (ws' := mW k o B Ln Rm Rd Pl Mk G (va_up Sz (g) (0)) Kp (nI (0))) rfl ?_
  refine vIloadN X dX4_empty_36 0 rfl ?_
  exact vRetI X hret dX4_empty_37 ⟨rfl, rfl⟩
def cpK (Kp : Nat → Int32) (i : Nat) (src : Nat → Int32) : Nat → Int32 := fun j => if j < i then src j else Kp j
theorem cpK_0 (Kp : Nat → Int32) (src : Nat → Int32) : Kp = cpK Kp 0 src := by funext j; simp [cpK]
theorem cpK_1 (Kp : Nat → Int32) (i : Nat) (src : Nat → Int32) : upd (cpK Kp i src) i (src i) = cpK Kp (i + 1) src := by
  funext j
  simp only [upd, cpK]
  by_cases h : j = i
  · subst h; simp
  · have : (j < i + 1) = (j < i) := by simp only [eq_iff_iff]; omega
    simp [h, this]
theorem cpB_K (B : Nat → Nat → Int32) (F n : Nat) (Kp src : Nat → Int32) : cpB B F n (cpK Kp n src) = cpB B F n src := cpB_congr (fun j h => by simp [cpK, h])
theorem cpG_congr {G : Nat → Nat → Int32} {g s n : Nat} {K1 K2 : Nat → Int32} (h : ∀ j, j < n → K1 j = K2 j) : cpG G g s n K1 = cpG G g s n K2 := by
  funext a b
  simp only [cpG]
  by_cases q : a = g ∧ s ≤ b ∧ b < s + n
  · rw [if_pos q, if_pos q, h _ (by omega)]
  · rw [if_neg q, if_neg q]
theorem cpG_K (G : Nat → Nat → Int32) (g s n : Nat) (Kp src : Nat → Int32) : cpG G g s n (cpK Kp n src) = cpG G g s n src := cpG_congr (fun j h => by simp [cpK, h])
set_option maxHeartbeats 4000000 in
set_option maxRecDepth 100000 in
theorem mL_take {p : Program} {l : Launch} {e : Env} {s : State} {m : MethodId} {args : Array Value} {below : List Frame} {meth : Method} {c : Code} {Q : State → Prop} (D : va_G) (k : Nat → ClassId) (o : Nat → Nat) (sb : Nat) (B : Nat → Nat → Int32) (Ln Rm : Nat → Nat) (Rd : Nat → Option Nat) (Pl Mk : Nat → Nat) (G : Nat → Nat → Int32) (Sz : Nat → Nat) (Kp : Nat → Int32) (th : Int32) (g r : Nat) (hg : g < 3) (hs : Sz g ≤ 256) (X : vCX p s m args meth c cX4_take 4 yX4_take.cls (Cond.code yX4_take cX4_take 4 (some .int) :: vGW) D vCl (vTy k) sb) (hex : vV p l e ({ frames := 2, cells := 0, slots := 0, locals := 47 }) s m args below meth c 4 D vCl sb Q (mW k o B Ln Rm Rd Pl Mk G Sz (cpK Kp (Sz g) (G g)) th) 0 0 66 [(0, .ref (o 0)), (1, .int (nI (g))), (2, .int (nI (r)))] []) : ∀ (z i : Nat) (K1 : Nat → Int32), i + z = Sz g → K1 = cpK Kp i (G g) → vV p l e ({ frames := 2, cells := 0, slots := 0, locals := 47 }) s m args below meth c 4 D vCl sb Q (mW k o B Ln Rm Rd Pl Mk G Sz K1 th) 0 0 32 [(3, .int (nI (i))), (0, .ref (o 0)), (1, .int (nI (g))), (2, .int (nI (r)))] [] := by
  intro z
  induction z with
  | zero =>
    intro i K1 hi hK1
    have hin : i = Sz g := by omega
    subst hin
    subst hK1
    refine vIloadN X dX4_take_32 0 rfl ?_
    refine vAloadN X dX4_take_33 1 rfl ?_
    refine vGet X (C := RX4) (T := TX4) (N := 10) (ci := 4) (vcons inM) rfl 0 rfl 7 (by decide) (List.mem_cons_of_mem _ q_749) (fun _ h => h) rfl dX4_take_34 ?_
    refine vIloadN X dX4_take_37 2 rfl ?_
    refine vIaload X (v := nI (Sz (g))) 8 1 rfl rfl rfl (by omega) (by decide) rfl dX4_take_38 ?_
    refine vIcmpN_geT X 66 dX4_take_39 (by decide) (by omega) (by omega) (by omega) ?_
    refine vSub [1, 2, 3] [(0, .ref (o 0)), (1, .int (nI (g))), (2, .int (nI (r)))] rfl ?_
    exact hex
  | succ z ih =>
    intro i K1 hi hK1
    refine vIloadN X dX4_take_32 0 rfl ?_
    refine vAloadN X dX4_take_33 1 rfl ?_
    refine vGet X (C := RX4) (T := TX4) (N := 10) (ci := 4) (vcons inM) rfl 0 rfl 7 (by decide) (List.mem_cons_of_mem _ q_749) (fun _ h => h) rfl dX4_take_34 ?_
    refine vIloadN X dX4_take_37 2 rfl ?_
    refine vIaload X (v := nI (Sz (g))) 8 1 rfl rfl rfl (by omega) (by decide) rfl dX4_take_38 ?_
    refine vIcmpN_geF X 66 dX4_take_39 (by decide) (by omega) (by omega) (by omega) ?_
    refine vAloadN X dX4_take_42 1 rfl ?_
    refine vGet X (C := RX4) (T := TX4) (N := 10) (ci := 4) (vcons inM) rfl 0 rfl 8 (by decide) (List.mem_cons_of_mem _ q_750) (fun _ h => h) rfl dX4_take_43 ?_
    refine vIloadN X dX4_take_46 0 rfl ?_
    refine vAloadN X dX4_take_47 1 rfl ?_
    refine vGet X (C := RX4) (T := TX4) (N := 10) (ci := 4) (vcons inM) rfl 0 rfl 6 (by decide) (List.mem_cons_of_mem _ q_748) (fun _ h => h) rfl dX4_take_48 ?_
    refine vSipush X dX4_take_51 (v := nI (256)) (by decide) ?_
    refine vIloadN X dX4_take_54 2 rfl ?_
    refine vImul X dX4_take_55 (v := nI ((256) * (g))) (pk_mul _ _) ?_
    refine vIloadN X dX4_take_56 0 rfl ?_
    refine vIadd X dX4_take_57 (v := nI (((256) * (g)) + (i))) (nI_add _ _) ?_
    refine vIaload X (v := G (g) (i)) 7 1 rfl rfl rfl (by omega) (by decide) (fl2_at _ (X := g) (Y := i) (by omega) (by omega)) dX4_take_58 ?_
    refine vIastore X (g := upd K1 (i) (G (g) (i))) 9 1 rfl rfl rfl (by omega) (by decide) rfl dX4_take_59 ?_
    refine vWs (ws' := mW k o B Ln Rm Rd Pl Mk G Sz (upd K1 (i) (G (g) (i))) th) rfl ?_
    refine vIinc X [(3, .int (nI (i + 1))), (0, .ref (o 0)), (1, .int (nI (g))), (2, .int (nI (r)))] dX4_take_60 0 rfl (nI_inc _) (by decide) rfl ?_
    refine vGoto X 32 dX4_take_63 (by decide) ?_
    refine vSub [0, 1, 2, 3] [(3, .int (nI (i + 1))), (0, .ref (o 0)), (1, .int (nI (g))), (2, .int (nI (r)))] rfl ?_
    exact ih (i + 1) _ (by omega) (by rw [hK1]; exact cpK_1 _ _ _)
set_option maxHeartbeats 4000000 in
set_option maxRecDepth 100000 in
theorem mm_take1a (l : Launch) (D : va_G) (k : Nat → ClassId) (o : Nat → Nat) (sb : Nat) (B : Nat → Nat → Int32) (Ln Rm : Nat → Nat) (Rd : Nat → Option Nat) (Pl Mk : Nat → Nat) (G : Nat → Nat → Int32) (Sz : Nat → Nat) (Kp : Nat → Int32) (th : Int32) (x y : Int32) (hx : ¬ vOther x) : vCt l yX4_take cX4_take 4 (some .int) 2 47 0 0 D vCl (vTy k) sb [.ref (o 0), .int (x), .int (y)] (mW k o B Ln Rm Rd Pl Mk G Sz Kp th) (vDet (some (.int (nI (0)))) (mW k o B Ln Rm Rd Pl Mk G Sz Kp (nI (1)))) := by
  refine vOf (by decide +kernel) (Nat.le_of_ble_eq_true rfl) (fun p e s m below meth c X hret _ => ?_)
  refine vAloadN X dX4_take_0 0 rfl ?_
  refine vAloadN X dX4_take_1 0 rfl ?_
  refine vIloadN X dX4_take_2 1 rfl ?_
  refine vCallVd X [.ref (o 0)] (mm_isOtherF l D k o sb B Ln Rm Rd Pl Mk G Sz Kp th x hx) (vGV q_838 q_840 q_14 q_29 q_841) ⟨by decide, by decide, (show _ = some 1 from by decide +kernel)⟩ ⟨Nat.le_of_ble_eq_true rfl, Nat.le_of_ble_eq_true rfl⟩ 0 4 rfl rfl rfl rfl (Nat.le_of_ble_eq_true rfl) dX4_take_3 ⟨Nat.zero_le _, Nat.zero_le _⟩ ?_
  refine vIfN_eqT X 21 dX4_take_6 (by decide) (by omega) (by omega) ?_
  refine vIconst X dX4_take_21 (v := nI (1)) (by decide) ?_
  refine vCallVd X [] (mm_isWrong1 l D k o sb B Ln Rm Rd Pl Mk G Sz Kp th 1 (by decide) (by decide)) (vGV q_786 q_788 q_8 q_29 q_789) ⟨by decide, by decide, (show _ = some 1 from by decide +kernel)⟩ ⟨Nat.le_of_ble_eq_true rfl, Nat.le_of_ble_eq_true rfl⟩ 0 4 rfl rfl rfl rfl (Nat.le_of_ble_eq_true rfl) dX4_take_22 ⟨Nat.zero_le _, Nat.zero_le _⟩ ?_
  refine vIfN_eqF X 30 dX4_take_25 (by decide) (by omega) (by omega) ?_
  refine vIconst X dX4_take_28 (v := nI (0)) (by decide) ?_
  exact vRetI X hret dX4_take_29 ⟨rfl, rfl⟩
set_option maxHeartbeats 4000000 in
set_option maxRecDepth 100000 in
theorem mm_take1b (l : Launch) (D : va_G) (k : Nat → ClassId) (o : Nat → Nat) (sb : Nat) (B : Nat → Nat → Int32) (Ln Rm : Nat → Nat) (Rd : Nat → Option Nat) (Pl Mk : Nat → Nat) (G : Nat → Nat → Int32) (Sz : Nat → Nat) (Kp : Nat → Int32) (th : Int32) (g : Nat) (y : Int32) (hg : g < 3) (hy : ¬ vRow y) : vCt l yX4_take cX4_take 4 (some .int) 2 47 0 0 D vCl (vTy k) sb [.ref (o 0), .int (nI (g)), .int (y)] (mW k o B Ln Rm Rd Pl Mk G Sz Kp th) (vDet (some (.int (nI (0)))) (mW k o B Ln Rm Rd Pl Mk G Sz Kp (nI (1)))) := by
  refine vOf (by decide +kernel) (Nat.le_of_ble_eq_true rfl) (fun p e s m below meth c X hret _ => ?_)
  refine vAloadN X dX4_take_0 0 rfl ?_
  refine vAloadN X dX4_take_1 0 rfl ?_
  refine vIloadN X dX4_take_2 1 rfl ?_
  refine vCallVd X [.ref (o 0)] (mm_isOtherT l D k o sb B Ln Rm Rd Pl Mk G Sz Kp th g (by omega)) (vGV q_838 q_840 q_14 q_29 q_841) ⟨by decide, by decide, (show _ = some 1 from by decide +kernel)⟩ ⟨Nat.le_of_ble_eq_true rfl, Nat.le_of_ble_eq_true rfl⟩ 0 4 rfl rfl rfl rfl (Nat.le_of_ble_eq_true rfl) dX4_take_3 ⟨Nat.zero_le _, Nat.zero_le _⟩ ?_
  refine vIfN_eqF X 21 dX4_take_6 (by decide) (by omega) (by omega) ?_
  refine vAloadN X dX4_take_9 0 rfl ?_
  refine vIloadN X dX4_take_10 2 rfl ?_
  refine vCallVd X [.ref (o 0)] (mm_isRowF l D k o sb B Ln Rm Rd Pl Mk G Sz Kp th y hy) (vGV q_782 q_784 q_7 q_29 q_785) ⟨by decide, by decide, (show _ = some 1 from by decide +kernel)⟩ ⟨Nat.le_of_ble_eq_true rfl, Nat.le_of_ble_eq_true rfl⟩ 0 4 rfl rfl rfl rfl (Nat.le_of_ble_eq_true rfl) dX4_take_11 ⟨Nat.zero_le _, Nat.zero_le _⟩ ?_
  refine vIfN_eqT X 21 dX4_take_14 (by decide) (by omega) (by omega) ?_
  refine vIconst X dX4_take_21 (v := nI (1)) (by decide) ?_
  refine vCallVd X [] (mm_isWrong1 l D k o sb B Ln Rm Rd Pl Mk G Sz Kp th 1 (by decide) (by decide)) (vGV q_786 q_788 q_8 q_29 q_789) ⟨by decide, by decide, (show _ = some 1 from by decide +kernel)⟩ ⟨Nat.le_of_ble_eq_true rfl, Nat.le_of_ble_eq_true rfl⟩ 0 4 rfl rfl rfl rfl (Nat.le_of_ble_eq_true rfl) dX4_take_22 ⟨Nat.zero_le _, Nat.zero_le _⟩ ?_
  refine vIfN_eqF X 30 dX4_take_25 (by decide) (by omega) (by omega) ?_
  refine vIconst X dX4_take_28 (v := nI (0)) (by decide) ?_
  exact vRetI X hret dX4_take_29 ⟨rfl, rfl⟩
set_option maxHeartbeats 4000000 in
set_option maxRecDepth 100000 in
theorem mm_take0 (l : Launch) (D : va_G) (k : Nat → ClassId) (o : Nat → Nat) (sb : Nat) (B : Nat → Nat → Int32) (Ln Rm : Nat → Nat) (Rd : Nat → Option Nat) (Pl Mk : Nat → Nat) (G : Nat → Nat → Int32) (Sz : Nat → Nat) (Kp : Nat → Int32) (th : Int32) (g r F : Nat) (hg : g < 3) (hr : r < 4) (hs : Sz g ≤ 256) (hF : mFree Rm Rd F) (hRm : ∀ r, r < 4 → Rm r < 8) (hRd : ∀ g, g < 3 → ∀ b, Rd g = some b → b < 8) : vCt l yX4_take cX4_take 4 (some .int) 2 47 0 0 D vCl (vTy k) sb [.ref (o 0), .int (nI (g)), .int (nI (r))] (mW k o B Ln Rm Rd Pl Mk G Sz Kp th) (vDet (some (.int (nI (Sz g)))) (mW k o (cpB B F (Sz (g)) (cpK Kp (Sz g) (G g))) (va_up Ln F (Sz (g))) (va_up Rm r F) Rd Pl Mk G Sz (cpK Kp (Sz g) (G g)) (nI (0)))) := by
  refine vOf (by decide +kernel) (Nat.le_of_ble_eq_true rfl) (fun p e s m below meth c X hret _ => ?_)
  refine vAloadN X dX4_take_0 0 rfl ?_
  refine vAloadN X dX4_take_1 0 rfl ?_
  refine vIloadN X dX4_take_2 1 rfl ?_
  refine vCallVd X [.ref (o 0)] (mm_isOtherT l D k o sb B Ln Rm Rd Pl Mk G Sz Kp th g (by omega)) (vGV q_838 q_840 q_14 q_29 q_841) ⟨by decide, by decide, (show _ = some 1 from by decide +kernel)⟩ ⟨Nat.le_of_ble_eq_true rfl, Nat.le_of_ble_eq_true rfl⟩ 0 4 rfl rfl rfl rfl (Nat.le_of_ble_eq_true rfl) dX4_take_3 ⟨Nat.zero_le _, Nat.zero_le _⟩ ?_
  refine vIfN_eqF X 21 dX4_take_6 (by decide) (by omega) (by omega) ?_
  refine vAloadN X dX4_take_9 0 rfl ?_
  refine vIloadN X dX4_take_10 2 rfl ?_
  refine vCallVd X [.ref (o 0)] (mm_isRowT l D k o sb B Ln Rm Rd Pl Mk G Sz Kp th r (by omega)) (vGV q_782 q_784 q_7 q_29 q_785) ⟨by decide, by decide, (show _ = some 1 from by decide +kernel)⟩ ⟨Nat.le_of_ble_eq_true rfl, Nat.le_of_ble_eq_true rfl⟩ 0 4 rfl rfl rfl rfl (Nat.le_of_ble_eq_true rfl) dX4_take_11 ⟨Nat.zero_le _, Nat.zero_le _⟩ ?_
  refine vIfN_eqF X 21 dX4_take_14 (by decide) (by omega) (by omega) ?_
  refine vIconst X dX4_take_17 (v := nI (0)) (by decide) ?_
  refine vGoto X 22 dX4_take_18 (by decide) ?_
  refine vCallVd X [] (mm_isWrong0 l D k o sb B Ln Rm Rd Pl Mk G Sz Kp th ) (vGV q_786 q_788 q_8 q_29 q_789) ⟨by decide, by decide, (show _ = some 1 from by decide +kernel)⟩ ⟨Nat.le_of_ble_eq_true rfl, Nat.le_of_ble_eq_true rfl⟩ 0 4 rfl rfl rfl rfl (Nat.le_of_ble_eq_true rfl) dX4_take_22 ⟨Nat.zero_le _, Nat.zero_le _⟩ ?_
  refine vIfN_eqT X 30 dX4_take_25 (by decide) (by omega) (by omega) ?_
  refine vIconst X dX4_take_30 (v := nI (0)) (by decide) ?_
  refine vIstoreN X [(3, .int (nI (0))), (0, .ref (o 0)), (1, .int (nI (g))), (2, .int (nI (r)))] dX4_take_31 (by decide) rfl ?_
  refine vSub [0, 1, 2, 3] [(3, .int (nI (0))), (0, .ref (o 0)), (1, .int (nI (g))), (2, .int (nI (r)))] rfl ?_
  refine mL_take D k o sb B Ln Rm Rd Pl Mk G Sz Kp (nI (0)) g r hg hs X ?_ (Sz g) 0 _ (by omega) (cpK_0 _ _)
  refine vAloadN X dX4_take_66 0 rfl ?_
  refine vIloadN X dX4_take_67 2 rfl ?_
  refine vAloadN X dX4_take_68 0 rfl ?_
  refine vGet X (C := RX4) (T := TX4) (N := 10) (ci := 4) (vcons inM) rfl 0 rfl 7 (by decide) (List.mem_cons_of_mem _ q_749) (fun _ h => h) rfl dX4_take_69 ?_
  refine vIloadN X dX4_take_72 1 rfl ?_
  refine vIaload X (v := nI (Sz (g))) 8 1 rfl rfl rfl (by omega) (by decide) rfl dX4_take_73 ?_
  refine vCallVd X [] (mm_becomes l D k o sb B Ln Rm Rd Pl Mk G Sz (cpK Kp (Sz g) (G g)) (nI (0)) r (Sz (g)) F (by omega) (by omega) hF hRm hRd) (vGV q_794 q_796 q_10 q_29 q_797) ⟨by decide, by decide, (show _ = some 2 from by decide +kernel)⟩ ⟨Nat.le_of_ble_eq_true rfl, Nat.le_of_ble_eq_true rfl⟩ 0 4 rfl rfl rfl rfl (Nat.le_of_ble_eq_true rfl) dX4_take_74 ⟨Nat.zero_le _, Nat.zero_le _⟩ ?_
  refine vAloadN X dX4_take_77 0 rfl ?_
  refine vGet X (C := RX4) (T := TX4) (N := 10) (ci := 4) (vcons inM) rfl 0 rfl 7 (by decide) (List.mem_cons_of_mem _ q_749) (fun _ h => h) rfl dX4_take_78 ?_
  refine vIloadN X dX4_take_81 1 rfl ?_
  refine vIaload X (v := nI (Sz (g))) 8 1 rfl rfl rfl (by omega) (by decide) rfl dX4_take_82 ?_
  exact vRetI X hret dX4_take_83 ⟨rfl, rfl⟩
set_option maxHeartbeats 4000000 in
set_option maxRecDepth 100000 in
theorem mm_leftOf (l : Launch) (D : va_G) (k : Nat → ClassId) (o : Nat → Nat) (sb : Nat) (B : Nat → Nat → Int32) (Ln Rm : Nat → Nat) (Rd : Nat → Option Nat) (Pl Mk : Nat → Nat) (G : Nat → Nat → Int32) (Sz : Nat → Nat) (Kp : Nat → Int32) (th : Int32) (g a P : Nat) (hg : g < 3) (hgRd : Rd g = some a) (ha : a < 8) (hla : Ln a ≤ 256) (hP : Pl g = P) (hpl : P ≤ Ln a) : vCt l yX4_leftOf cX4_leftOf 2 (some .int) 0 0 0 0 D vCl (vTy k) sb [.ref (o 0), .int (nI (g))] (mW k o B Ln Rm Rd Pl Mk G Sz Kp th) (vDet (some (.int (nI (Ln a - P)))) (mW k o B Ln Rm Rd Pl Mk G Sz Kp th)) := by
  refine vOf (by decide +kernel) (Nat.le_of_ble_eq_true rfl) (fun p e s m below meth c X hret _ => ?_)
  refine vAloadN X dX4_leftOf_0 0 rfl ?_
  refine vGet X (C := RX4) (T := TX4) (N := 10) (ci := 4) (vcons inM) rfl 0 rfl 1 (by decide) (List.mem_cons_of_mem _ q_743) (fun _ h => h) rfl dX4_leftOf_1 ?_
  refine vAloadN X dX4_leftOf_4 0 rfl ?_
  refine vGet X (C := RX4) (T := TX4) (N := 10) (ci := 4) (vcons inM) rfl 0 rfl 3 (by decide) (List.mem_cons_of_mem _ q_745) (fun _ h => h) rfl dX4_leftOf_5 ?_
  refine vIloadN X dX4_leftOf_8 1 rfl ?_
  refine vIaload X (v := nI (a)) 4 1 rfl rfl rfl (by omega) (by decide) (oI_some hgRd) dX4_leftOf_9 ?_
  refine vIaload X (v := nI (Ln (a))) 2 1 rfl rfl rfl (by omega) (by decide) rfl dX4_leftOf_10 ?_
  refine vAloadN X dX4_leftOf_11 0 rfl ?_
  refine vGet X (C := RX4) (T := TX4) (N := 10) (ci := 4) (vcons inM) rfl 0 rfl 4 (by decide) (List.mem_cons_of_mem _ q_746) (fun _ h => h) rfl dX4_leftOf_12 ?_
  refine vIloadN X dX4_leftOf_15 1 rfl ?_
  refine vIaload X (v := nI (P)) 5 1 rfl rfl rfl (by omega) (by decide) (congrArg nI hP) dX4_leftOf_16 ?_
  refine vIsub X dX4_leftOf_17 (v := nI ((Ln (a)) - (P))) (pk_sub (by omega)) ?_
  exact vRetI X hret dX4_leftOf_18 ⟨rfl, rfl⟩
set_option maxHeartbeats 4000000 in
set_option maxRecDepth 100000 in
theorem mm_next (l : Launch) (D : va_G) (k : Nat → ClassId) (o : Nat → Nat) (sb : Nat) (B : Nat → Nat → Int32) (Ln Rm : Nat → Nat) (Rd : Nat → Option Nat) (Pl Mk : Nat → Nat) (G : Nat → Nat → Int32) (Sz : Nat → Nat) (Kp : Nat → Int32) (th : Int32) (g a P : Nat) (hg : g < 3) (hgRd : Rd g = some a) (ha : a < 8) (hP : Pl g = P) (hpl : P < 256) : vCt l yX4_next cX4_next 2 (some .int) 0 0 0 0 D vCl (vTy k) sb [.ref (o 0), .int (nI (g))] (mW k o B Ln Rm Rd Pl Mk G Sz Kp th) (vDet (some (.int (B a P))) (mW k o B Ln Rm Rd Pl Mk G Sz Kp th)) := by
  refine vOf (by decide +kernel) (Nat.le_of_ble_eq_true rfl) (fun p e s m below meth c X hret _ => ?_)
  refine vAloadN X dX4_next_0 0 rfl ?_
  refine vGet X (C := RX4) (T := TX4) (N := 10) (ci := 4) (vcons inM) rfl 0 rfl 0 (by decide) (List.mem_cons_of_mem _ q_742) (fun _ h => h) rfl dX4_next_1 ?_
  refine vSipush X dX4_next_4 (v := nI (256)) (by decide) ?_
  refine vAloadN X dX4_next_7 0 rfl ?_
  refine vGet X (C := RX4) (T := TX4) (N := 10) (ci := 4) (vcons inM) rfl 0 rfl 3 (by decide) (List.mem_cons_of_mem _ q_745) (fun _ h => h) rfl dX4_next_8 ?_
  refine vIloadN X dX4_next_11 1 rfl ?_
  refine vIaload X (v := nI (a)) 4 1 rfl rfl rfl (by omega) (by decide) (oI_some hgRd) dX4_next_12 ?_
  refine vImul X dX4_next_13 (v := nI ((256) * (a))) (pk_mul _ _) ?_
  refine vAloadN X dX4_next_14 0 rfl ?_
  refine vGet X (C := RX4) (T := TX4) (N := 10) (ci := 4) (vcons inM) rfl 0 rfl 4 (by decide) (List.mem_cons_of_mem _ q_746) (fun _ h => h) rfl dX4_next_15 ?_
  refine vIloadN X dX4_next_18 1 rfl ?_
  refine vIaload X (v := nI (P)) 5 1 rfl rfl rfl (by omega) (by decide) (congrArg nI hP) dX4_next_19 ?_
  refine vIadd X dX4_next_20 (v := nI (((256) * (a)) + (P))) (nI_add _ _) ?_
  refine vIaload X (v := B (a) (P)) 1 1 rfl rfl rfl (by omega) (by decide) (fl2_at _ (X := a) (Y := P) (by omega) (by omega)) dX4_next_21 ?_
  exact vRetI X hret dX4_next_22 ⟨rfl, rfl⟩
set_option maxHeartbeats 4000000 in
set_option maxRecDepth 100000 in
theorem mm_open1a (l : Launch) (D : va_G) (k : Nat → ClassId) (o : Nat → Nat) (sb : Nat) (B : Nat → Nat → Int32) (Ln Rm : Nat → Nat) (Rd : Nat → Option Nat) (Pl Mk : Nat → Nat) (G : Nat → Nat → Int32) (Sz : Nat → Nat) (Kp : Nat → Int32) (th : Int32) (x y : Int32) (hx : ¬ vOther x) : vCt l yX4_open cX4_open 3 (some .int) 1 21 0 0 D vCl (vTy k) sb [.ref (o 0), .int (x), .int (y)] (mW k o B Ln Rm Rd Pl Mk G Sz Kp th) (vDet (some (.int (nI (0)))) (mW k o B Ln Rm Rd Pl Mk G Sz Kp (nI (1)))) := by
  refine vOf (by decide +kernel) (Nat.le_of_ble_eq_true rfl) (fun p e s m below meth c X hret _ => ?_)
  refine vAloadN X dX4_open_0 0 rfl ?_
  refine vAloadN X dX4_open_1 0 rfl ?_
  refine vIloadN X dX4_open_2 1 rfl ?_
  refine vCallVd X [.ref (o 0)] (mm_isOtherF l D k o sb B Ln Rm Rd Pl Mk G Sz Kp th x hx) (vGV q_838 q_840 q_14 q_29 q_841) ⟨by decide, by decide, (show _ = some 1 from by decide +kernel)⟩ ⟨Nat.le_of_ble_eq_true rfl, Nat.le_of_ble_eq_true rfl⟩ 0 4 rfl rfl rfl rfl (Nat.le_of_ble_eq_true rfl) dX4_open_3 ⟨Nat.zero_le _, Nat.zero_le _⟩ ?_
  refine vIfN_eqT X 21 dX4_open_6 (by decide) (by omega) (by omega) ?_
  refine vIconst X dX4_open_21 (v := nI (1)) (by decide) ?_
  refine vCallVd X [] (mm_isWrong1 l D k o sb B Ln Rm Rd Pl Mk G Sz Kp th 1 (by decide) (by decide)) (vGV q_786 q_788 q_8 q_29 q_789) ⟨by decide, by decide, (show _ = some 1 from by decide +kernel)⟩ ⟨Nat.le_of_ble_eq_true rfl, Nat.le_of_ble_eq_true rfl⟩ 0 4 rfl rfl rfl rfl (Nat.le_of_ble_eq_true rfl) dX4_open_22 ⟨Nat.zero_le _, Nat.zero_le _⟩ ?_
  refine vIfN_eqF X 30 dX4_open_25 (by decide) (by omega) (by omega) ?_
  refine vIconst X dX4_open_28 (v := nI (0)) (by decide) ?_
  exact vRetI X hret dX4_open_29 ⟨rfl, rfl⟩
set_option maxHeartbeats 4000000 in
set_option maxRecDepth 100000 in
theorem mm_open1b (l : Launch) (D : va_G) (k : Nat → ClassId) (o : Nat → Nat) (sb : Nat) (B : Nat → Nat → Int32) (Ln Rm : Nat → Nat) (Rd : Nat → Option Nat) (Pl Mk : Nat → Nat) (G : Nat → Nat → Int32) (Sz : Nat → Nat) (Kp : Nat → Int32) (th : Int32) (g : Nat) (y : Int32) (hg : g < 3) (hy : ¬ vRow y) : vCt l yX4_open cX4_open 3 (some .int) 1 21 0 0 D vCl (vTy k) sb [.ref (o 0), .int (nI (g)), .int (y)] (mW k o B Ln Rm Rd Pl Mk G Sz Kp th) (vDet (some (.int (nI (0)))) (mW k o B Ln Rm Rd Pl Mk G Sz Kp (nI (1)))) := by
  refine vOf (by decide +kernel) (Nat.le_of_ble_eq_true rfl) (fun p e s m below meth c X hret _ => ?_)
  refine vAloadN X dX4_open_0 0 rfl ?_
  refine vAloadN X dX4_open_1 0 rfl ?_
  refine vIloadN X dX4_open_2 1 rfl ?_
  refine vCallVd X [.ref (o 0)] (mm_isOtherT l D k o sb B Ln Rm Rd Pl Mk G Sz Kp th g (by omega)) (vGV q_838 q_840 q_14 q_29 q_841) ⟨by decide, by decide, (show _ = some 1 from by decide +kernel)⟩ ⟨Nat.le_of_ble_eq_true rfl, Nat.le_of_ble_eq_true rfl⟩ 0 4 rfl rfl rfl rfl (Nat.le_of_ble_eq_true rfl) dX4_open_3 ⟨Nat.zero_le _, Nat.zero_le _⟩ ?_
  refine vIfN_eqF X 21 dX4_open_6 (by decide) (by omega) (by omega) ?_
  refine vAloadN X dX4_open_9 0 rfl ?_
  refine vIloadN X dX4_open_10 2 rfl ?_
  refine vCallVd X [.ref (o 0)] (mm_isRowF l D k o sb B Ln Rm Rd Pl Mk G Sz Kp th y hy) (vGV q_782 q_784 q_7 q_29 q_785) ⟨by decide, by decide, (show _ = some 1 from by decide +kernel)⟩ ⟨Nat.le_of_ble_eq_true rfl, Nat.le_of_ble_eq_true rfl⟩ 0 4 rfl rfl rfl rfl (Nat.le_of_ble_eq_true rfl) dX4_open_11 ⟨Nat.zero_le _, Nat.zero_le _⟩ ?_
  refine vIfN_eqT X 21 dX4_open_14 (by decide) (by omega) (by omega) ?_
  refine vIconst X dX4_open_21 (v := nI (1)) (by decide) ?_
  refine vCallVd X [] (mm_isWrong1 l D k o sb B Ln Rm Rd Pl Mk G Sz Kp th 1 (by decide) (by decide)) (vGV q_786 q_788 q_8 q_29 q_789) ⟨by decide, by decide, (show _ = some 1 from by decide +kernel)⟩ ⟨Nat.le_of_ble_eq_true rfl, Nat.le_of_ble_eq_true rfl⟩ 0 4 rfl rfl rfl rfl (Nat.le_of_ble_eq_true rfl) dX4_open_22 ⟨Nat.zero_le _, Nat.zero_le _⟩ ?_
  refine vIfN_eqF X 30 dX4_open_25 (by decide) (by omega) (by omega) ?_
  refine vIconst X dX4_open_28 (v := nI (0)) (by decide) ?_
  exact vRetI X hret dX4_open_29 ⟨rfl, rfl⟩
set_option maxHeartbeats 4000000 in
set_option maxRecDepth 100000 in
theorem mm_open0 (l : Launch) (D : va_G) (k : Nat → ClassId) (o : Nat → Nat) (sb : Nat) (B : Nat → Nat → Int32) (Ln Rm : Nat → Nat) (Rd : Nat → Option Nat) (Pl Mk : Nat → Nat) (G : Nat → Nat → Int32) (Sz : Nat → Nat) (Kp : Nat → Int32) (th : Int32) (g r : Nat) (hg : g < 3) (hr : r < 4) (hRm : ∀ r, r < 4 → Rm r < 8) (hLn : ∀ a, Ln a ≤ 256) : vCt l yX4_open cX4_open 3 (some .int) 1 21 0 0 D vCl (vTy k) sb [.ref (o 0), .int (nI (g)), .int (nI (r))] (mW k o B Ln Rm Rd Pl Mk G Sz Kp th) (vDet (some (.int (nI (Ln (Rm r))))) (mW k o B Ln Rm (va_up Rd (g) (some (Rm (r)))) (va_up Pl (g) (0)) (va_up Mk (g) (0)) G Sz Kp (nI (0)))) := by
  have hRr := hRm r hr
  have hLr := hLn (Rm r)
  refine vOf (by decide +kernel) (Nat.le_of_ble_eq_true rfl) (fun p e s m below meth c X hret _ => ?_)
  refine vAloadN X dX4_open_0 0 rfl ?_
  refine vAloadN X dX4_open_1 0 rfl ?_
  refine vIloadN X dX4_open_2 1 rfl ?_
  refine vCallVd X [.ref (o 0)] (mm_isOtherT l D k o sb B Ln Rm Rd Pl Mk G Sz Kp th g (by omega)) (vGV q_838 q_840 q_14 q_29 q_841) ⟨by decide, by decide, (show _ = some 1 from by decide +kernel)⟩ ⟨Nat.le_of_ble_eq_true rfl, Nat.le_of_ble_eq_true rfl⟩ 0 4 rfl rfl rfl rfl (Nat.le_of_ble_eq_true rfl) dX4_open_3 ⟨Nat.zero_le _, Nat.zero_le _⟩ ?_
  refine vIfN_eqF X 21 dX4_open_6 (by decide) (by omega) (by omega) ?_
  refine vAloadN X dX4_open_9 0 rfl ?_
  refine vIloadN X dX4_open_10 2 rfl ?_
  refine vCallVd X [.ref (o 0)] (mm_isRowT l D k o sb B Ln Rm Rd Pl Mk G Sz Kp th r (by omega)) (vGV q_782 q_784 q_7 q_29 q_785) ⟨by decide, by decide, (show _ = some 1 from by decide +kernel)⟩ ⟨Nat.le_of_ble_eq_true rfl, Nat.le_of_ble_eq_true rfl⟩ 0 4 rfl rfl rfl rfl (Nat.le_of_ble_eq_true rfl) dX4_open_11 ⟨Nat.zero_le _, Nat.zero_le _⟩ ?_
  refine vIfN_eqF X 21 dX4_open_14 (by decide) (by omega) (by omega) ?_
  refine vIconst X dX4_open_17 (v := nI (0)) (by decide) ?_
  refine vGoto X 22 dX4_open_18 (by decide) ?_
  refine vCallVd X [] (mm_isWrong0 l D k o sb B Ln Rm Rd Pl Mk G Sz Kp th ) (vGV q_786 q_788 q_8 q_29 q_789) ⟨by decide, by decide, (show _ = some 1 from by decide +kernel)⟩ ⟨Nat.le_of_ble_eq_true rfl, Nat.le_of_ble_eq_true rfl⟩ 0 4 rfl rfl rfl rfl (Nat.le_of_ble_eq_true rfl) dX4_open_22 ⟨Nat.zero_le _, Nat.zero_le _⟩ ?_
  refine vIfN_eqT X 30 dX4_open_25 (by decide) (by omega) (by omega) ?_
  refine vAloadN X dX4_open_30 0 rfl ?_
  refine vGet X (C := RX4) (T := TX4) (N := 10) (ci := 4) (vcons inM) rfl 0 rfl 3 (by decide) (List.mem_cons_of_mem _ q_745) (fun _ h => h) rfl dX4_open_31 ?_
  refine vIloadN X dX4_open_34 1 rfl ?_
  refine vAloadN X dX4_open_35 0 rfl ?_
  refine vGet X (C := RX4) (T := TX4) (N := 10) (ci := 4) (vcons inM) rfl 0 rfl 2 (by decide) (List.mem_cons_of_mem _ q_744) (fun _ h => h) rfl dX4_open_36 ?_
  refine vIloadN X dX4_open_39 2 rfl ?_
  refine vIaload X (v := nI (Rm (r))) 3 1 rfl rfl rfl (by omega) (by decide) rfl dX4_open_40 ?_
  refine vIastore X (g := (fun q => oI ((va_up Rd (g) (some (Rm (r)))) q))) 4 1 rfl rfl rfl (by omega) (by decide) (oI_up _ _ _) dX4_open_41 ?_
  refine vWs (ws' := mW k o B Ln Rm (va_up Rd (g) (some (Rm (r)))) Pl Mk G Sz Kp (nI (0))) rfl ?_
  refine vAloadN X dX4_open_42 0 rfl ?_
  refine vGet X (C := RX4) (T := TX4) (N := 10) (ci := 4) (vcons inM) rfl 0 rfl 4 (by decide) (List.mem_cons_of_mem _ q_746) (fun _ h => h) rfl dX4_open_43 ?_
  refine vIloadN X dX4_open_46 1 rfl ?_
  refine vIconst X dX4_open_47 (v := nI (0)) (by decide) ?_
  refine vIastore X (g := (fun q => nI ((va_up Pl (g) (0)) q))) 5 1 rfl rfl rfl (by omega) (by decide) (nI_up _ _ _) dX4_open_48 ?_
  refine vWs (ws' := mW k o B Ln Rm (va_up Rd (g) (some (Rm (r)))) (va_up Pl (g) (0)) Mk G Sz Kp (nI (0))) rfl ?_
  refine vAloadN X dX4_open_49 0 rfl ?_
  refine vGet X (C := RX4) (T := TX4) (N := 10) (ci := 4) (vcons inM) rfl 0 rfl 5 (by decide) (List.mem_cons_of_mem _ q_747) (fun _ h => h) rfl dX4_open_50 ?_
  refine vIloadN X dX4_open_53 1 rfl ?_
  refine vIconst X dX4_open_54 (v := nI (0)) (by decide) ?_
  refine vIastore X (g := (fun q => nI ((va_up Mk (g) (0)) q))) 6 1 rfl rfl rfl (by omega) (by decide) (nI_up _ _ _) dX4_open_55 ?_
  refine vWs (ws' := mW k o B Ln Rm (va_up Rd (g) (some (Rm (r)))) (va_up Pl (g) (0)) (va_up Mk (g) (0)) G Sz Kp (nI (0))) rfl ?_
  refine vAloadN X dX4_open_56 0 rfl ?_
  refine vIloadN X dX4_open_57 1 rfl ?_
  refine vCallVd X [] (mm_leftOf l D k o sb B Ln Rm (va_up Rd (g) (some (Rm (r)))) (va_up Pl (g) (0)) (va_up Mk (g) (0)) G Sz Kp (nI (0)) g (Rm r) 0 (by omega) (va_up_eq _ _ _) (by omega) (by omega) (va_up_eq _ _ _) (by omega)) (vGV q_879 q_881 q_17 q_29 q_882) ⟨by decide, by decide, (show _ = some 1 from by decide +kernel)⟩ ⟨Nat.le_of_ble_eq_true rfl, Nat.le_of_ble_eq_true rfl⟩ 0 4 rfl rfl rfl rfl (Nat.le_of_ble_eq_true rfl) dX4_open_58 ⟨Nat.zero_le _, Nat.zero_le _⟩ ?_
  exact vRetI X hret dX4_open_61 ⟨rfl, rfl⟩
set_option maxHeartbeats 4000000 in
set_option maxRecDepth 100000 in
theorem mm_isOpen1 (l : Launch) (D : va_G) (k : Nat → ClassId) (o : Nat → Nat) (sb : Nat) (B : Nat → Nat → Int32) (Ln Rm : Nat → Nat) (Rd : Nat → Option Nat) (Pl Mk : Nat → Nat) (G : Nat → Nat → Int32) (Sz : Nat → Nat) (Kp : Nat → Int32) (th : Int32) (x : Int32) (hx : ¬ vOther x) : vCt l yX4_isOpen cX4_isOpen 2 (some .boolean) 1 21 0 0 D vCl (vTy k) sb [.ref (o 0), .int (x)] (mW k o B Ln Rm Rd Pl Mk G Sz Kp th) (vDet (some (.int (nI (0)))) (mW k o B Ln Rm Rd Pl Mk G Sz Kp (nI (1)))) := by
  refine vOf (by decide +kernel) (Nat.le_of_ble_eq_true rfl) (fun p e s m below meth c X hret _ => ?_)
  refine vAloadN X dX4_isOpen_0 0 rfl ?_
  refine vAloadN X dX4_isOpen_1 0 rfl ?_
  refine vIloadN X dX4_isOpen_2 1 rfl ?_
  refine vCallVd X [.ref (o 0)] (mm_isOtherF l D k o sb B Ln Rm Rd Pl Mk G Sz Kp th x hx) (vGV q_838 q_840 q_14 q_29 q_841) ⟨by decide, by decide, (show _ = some 1 from by decide +kernel)⟩ ⟨Nat.le_of_ble_eq_true rfl, Nat.le_of_ble_eq_true rfl⟩ 0 4 rfl rfl rfl rfl (Nat.le_of_ble_eq_true rfl) dX4_isOpen_3 ⟨Nat.zero_le _, Nat.zero_le _⟩ ?_
  refine vIfN_eqT X 13 dX4_isOpen_6 (by decide) (by omega) (by omega) ?_
  refine vIconst X dX4_isOpen_13 (v := nI (1)) (by decide) ?_
  refine vCallVd X [] (mm_isWrong1 l D k o sb B Ln Rm Rd Pl Mk G Sz Kp th 1 (by decide) (by decide)) (vGV q_786 q_788 q_8 q_29 q_789) ⟨by decide, by decide, (show _ = some 1 from by decide +kernel)⟩ ⟨Nat.le_of_ble_eq_true rfl, Nat.le_of_ble_eq_true rfl⟩ 0 4 rfl rfl rfl rfl (Nat.le_of_ble_eq_true rfl) dX4_isOpen_14 ⟨Nat.zero_le _, Nat.zero_le _⟩ ?_
  refine vIfN_neT X 33 dX4_isOpen_17 (by decide) (by omega) (by omega) ?_
  refine vIconst X dX4_isOpen_33 (v := nI (0)) (by decide) ?_
  exact vRetZ X hret (by first | rfl | exact nar_bI _) dX4_isOpen_34 ⟨rfl, rfl⟩
set_option maxHeartbeats 4000000 in
set_option maxRecDepth 100000 in
theorem mm_isOpen0a (l : Launch) (D : va_G) (k : Nat → ClassId) (o : Nat → Nat) (sb : Nat) (B : Nat → Nat → Int32) (Ln Rm : Nat → Nat) (Rd : Nat → Option Nat) (Pl Mk : Nat → Nat) (G : Nat → Nat → Int32) (Sz : Nat → Nat) (Kp : Nat → Int32) (th : Int32) (g : Nat) (hg : g < 3) (hgRd : Rd g = none) : vCt l yX4_isOpen cX4_isOpen 2 (some .boolean) 1 21 0 0 D vCl (vTy k) sb [.ref (o 0), .int (nI (g))] (mW k o B Ln Rm Rd Pl Mk G Sz Kp th) (vDet (some (.int (nI (0)))) (mW k o B Ln Rm Rd Pl Mk G Sz Kp (nI (0)))) := by
  refine vOf (by decide +kernel) (Nat.le_of_ble_eq_true rfl) (fun p e s m below meth c X hret _ => ?_)
  refine vAloadN X dX4_isOpen_0 0 rfl ?_
  refine vAloadN X dX4_isOpen_1 0 rfl ?_
  refine vIloadN X dX4_isOpen_2 1 rfl ?_
  refine vCallVd X [.ref (o 0)] (mm_isOtherT l D k o sb B Ln Rm Rd Pl Mk G Sz Kp th g (by omega)) (vGV q_838 q_840 q_14 q_29 q_841) ⟨by decide, by decide, (show _ = some 1 from by decide +kernel)⟩ ⟨Nat.le_of_ble_eq_true rfl, Nat.le_of_ble_eq_true rfl⟩ 0 4 rfl rfl rfl rfl (Nat.le_of_ble_eq_true rfl) dX4_isOpen_3 ⟨Nat.zero_le _, Nat.zero_le _⟩ ?_
  refine vIfN_eqF X 13 dX4_isOpen_6 (by decide) (by omega) (by omega) ?_
  refine vIconst X dX4_isOpen_9 (v := nI (0)) (by decide) ?_
  refine vGoto X 14 dX4_isOpen_10 (by decide) ?_
  refine vCallVd X [] (mm_isWrong0 l D k o sb B Ln Rm Rd Pl Mk G Sz Kp th ) (vGV q_786 q_788 q_8 q_29 q_789) ⟨by decide, by decide, (show _ = some 1 from by decide +kernel)⟩ ⟨Nat.le_of_ble_eq_true rfl, Nat.le_of_ble_eq_true rfl⟩ 0 4 rfl rfl rfl rfl (Nat.le_of_ble_eq_true rfl) dX4_isOpen_14 ⟨Nat.zero_le _, Nat.zero_le _⟩ ?_
  refine vIfN_neF X 33 dX4_isOpen_17 (by decide) (by omega) (by omega) ?_
  refine vAloadN X dX4_isOpen_20 0 rfl ?_
  refine vGet X (C := RX4) (T := TX4) (N := 10) (ci := 4) (vcons inM) rfl 0 rfl 3 (by decide) (List.mem_cons_of_mem _ q_745) (fun _ h => h) rfl dX4_isOpen_21 ?_
  refine vIloadN X dX4_isOpen_24 1 rfl ?_
  refine vIaload X (v := (-1 : Int32)) 4 1 rfl rfl rfl (by omega) (by decide) (oI_none hgRd) dX4_isOpen_25 ?_
  refine vIf_ltT X 33 dX4_isOpen_26 (by decide) (by first | assumption | exact Int32.not_lt.mpr (by assumption) | exact Int32.not_le.mpr (by assumption) | exact Int32.not_lt.mp (by assumption) | exact Int32.not_le.mp (by assumption) | decide) ?_
  refine vIconst X dX4_isOpen_33 (v := nI (0)) (by decide) ?_
  exact vRetZ X hret (by first | rfl | exact nar_bI _) dX4_isOpen_34 ⟨rfl, rfl⟩
set_option maxHeartbeats 4000000 in
set_option maxRecDepth 100000 in
theorem mm_isOpen0b (l : Launch) (D : va_G) (k : Nat → ClassId) (o : Nat → Nat) (sb : Nat) (B : Nat → Nat → Int32) (Ln Rm : Nat → Nat) (Rd : Nat → Option Nat) (Pl Mk : Nat → Nat) (G : Nat → Nat → Int32) (Sz : Nat → Nat) (Kp : Nat → Int32) (th : Int32) (g a : Nat) (hg : g < 3) (hgRd : Rd g = some a) (ha : a < 8) : vCt l yX4_isOpen cX4_isOpen 2 (some .boolean) 1 21 0 0 D vCl (vTy k) sb [.ref (o 0), .int (nI (g))] (mW k o B Ln Rm Rd Pl Mk G Sz Kp th) (vDet (some (.int (nI (1)))) (mW k o B Ln Rm Rd Pl Mk G Sz Kp (nI (0)))) := by
  refine vOf (by decide +kernel) (Nat.le_of_ble_eq_true rfl) (fun p e s m below meth c X hret _ => ?_)
  refine vAloadN X dX4_isOpen_0 0 rfl ?_
  refine vAloadN X dX4_isOpen_1 0 rfl ?_
  refine vIloadN X dX4_isOpen_2 1 rfl ?_
  refine vCallVd X [.ref (o 0)] (mm_isOtherT l D k o sb B Ln Rm Rd Pl Mk G Sz Kp th g (by omega)) (vGV q_838 q_840 q_14 q_29 q_841) ⟨by decide, by decide, (show _ = some 1 from by decide +kernel)⟩ ⟨Nat.le_of_ble_eq_true rfl, Nat.le_of_ble_eq_true rfl⟩ 0 4 rfl rfl rfl rfl (Nat.le_of_ble_eq_true rfl) dX4_isOpen_3 ⟨Nat.zero_le _, Nat.zero_le _⟩ ?_
  refine vIfN_eqF X 13 dX4_isOpen_6 (by decide) (by omega) (by omega) ?_
  refine vIconst X dX4_isOpen_9 (v := nI (0)) (by decide) ?_
  refine vGoto X 14 dX4_isOpen_10 (by decide) ?_
  refine vCallVd X [] (mm_isWrong0 l D k o sb B Ln Rm Rd Pl Mk G Sz Kp th ) (vGV q_786 q_788 q_8 q_29 q_789) ⟨by decide, by decide, (show _ = some 1 from by decide +kernel)⟩ ⟨Nat.le_of_ble_eq_true rfl, Nat.le_of_ble_eq_true rfl⟩ 0 4 rfl rfl rfl rfl (Nat.le_of_ble_eq_true rfl) dX4_isOpen_14 ⟨Nat.zero_le _, Nat.zero_le _⟩ ?_
  refine vIfN_neF X 33 dX4_isOpen_17 (by decide) (by omega) (by omega) ?_
  refine vAloadN X dX4_isOpen_20 0 rfl ?_
  refine vGet X (C := RX4) (T := TX4) (N := 10) (ci := 4) (vcons inM) rfl 0 rfl 3 (by decide) (List.mem_cons_of_mem _ q_745) (fun _ h => h) rfl dX4_isOpen_21 ?_
  refine vIloadN X dX4_isOpen_24 1 rfl ?_
  refine vIaload X (v := nI (a)) 4 1 rfl rfl rfl (by omega) (by decide) (oI_some hgRd) dX4_isOpen_25 ?_
  refine vIfN_ltF X 33 dX4_isOpen_26 (by decide) (by omega) (by omega) ?_
  refine vIconst X dX4_isOpen_29 (v := nI (1)) (by decide) ?_
  refine vGoto X 34 dX4_isOpen_30 (by decide) ?_
  exact vRetZ X hret (by first | rfl | exact nar_bI _) dX4_isOpen_34 ⟨rfl, rfl⟩
set_option maxHeartbeats 4000000 in
set_option maxRecDepth 100000 in
theorem mm_isShut1 (l : Launch) (D : va_G) (k : Nat → ClassId) (o : Nat → Nat) (sb : Nat) (B : Nat → Nat → Int32) (Ln Rm : Nat → Nat) (Rd : Nat → Option Nat) (Pl Mk : Nat → Nat) (G : Nat → Nat → Int32) (Sz : Nat → Nat) (Kp : Nat → Int32) (th : Int32) (x : Int32) (hx : ¬ vOther x) : vCt l yX4_isShut cX4_isShut 2 (some .boolean) 1 21 0 0 D vCl (vTy k) sb [.ref (o 0), .int (x)] (mW k o B Ln Rm Rd Pl Mk G Sz Kp th) (vDet (some (.int (nI (1)))) (mW k o B Ln Rm Rd Pl Mk G Sz Kp (nI (1)))) := by
  refine vOf (by decide +kernel) (Nat.le_of_ble_eq_true rfl) (fun p e s m below meth c X hret _ => ?_)
  refine vAloadN X dX4_isShut_0 0 rfl ?_
  refine vAloadN X dX4_isShut_1 0 rfl ?_
  refine vIloadN X dX4_isShut_2 1 rfl ?_
  refine vCallVd X [.ref (o 0)] (mm_isOtherF l D k o sb B Ln Rm Rd Pl Mk G Sz Kp th x hx) (vGV q_838 q_840 q_14 q_29 q_841) ⟨by decide, by decide, (show _ = some 1 from by decide +kernel)⟩ ⟨Nat.le_of_ble_eq_true rfl, Nat.le_of_ble_eq_true rfl⟩ 0 4 rfl rfl rfl rfl (Nat.le_of_ble_eq_true rfl) dX4_isShut_3 ⟨Nat.zero_le _, Nat.zero_le _⟩ ?_
  refine vIfN_neF X 13 dX4_isShut_6 (by decide) (by omega) (by omega) ?_
  refine vIconst X dX4_isShut_9 (v := nI (1)) (by decide) ?_
  refine vGoto X 27 dX4_isShut_10 (by decide) ?_
  refine vCallVd X [] (mm_isWrong1 l D k o sb B Ln Rm Rd Pl Mk G Sz Kp th 1 (by decide) (by decide)) (vGV q_786 q_788 q_8 q_29 q_789) ⟨by decide, by decide, (show _ = some 1 from by decide +kernel)⟩ ⟨Nat.le_of_ble_eq_true rfl, Nat.le_of_ble_eq_true rfl⟩ 0 4 rfl rfl rfl rfl (Nat.le_of_ble_eq_true rfl) dX4_isShut_27 ⟨Nat.zero_le _, Nat.zero_le _⟩ ?_
  exact vRetZ X hret (by first | rfl | exact nar_bI _) dX4_isShut_30 ⟨rfl, rfl⟩
set_option maxHeartbeats 4000000 in
set_option maxRecDepth 100000 in
theorem mm_isShut2 (l : Launch) (D : va_G) (k : Nat → ClassId) (o : Nat → Nat) (sb : Nat) (B : Nat → Nat → Int32) (Ln Rm : Nat → Nat) (Rd : Nat → Option Nat) (Pl Mk : Nat → Nat) (G : Nat → Nat → Int32) (Sz : Nat → Nat) (Kp : Nat → Int32) (th : Int32) (g : Nat) (hg : g < 3) (hgRd : Rd g = none) : vCt l yX4_isShut cX4_isShut 2 (some .boolean) 1 21 0 0 D vCl (vTy k) sb [.ref (o 0), .int (nI (g))] (mW k o B Ln Rm Rd Pl Mk G Sz Kp th) (vDet (some (.int (nI (1)))) (mW k o B Ln Rm Rd Pl Mk G Sz Kp (nI (2)))) := by
  refine vOf (by decide +kernel) (Nat.le_of_ble_eq_true rfl) (fun p e s m below meth c X hret _ => ?_)
  refine vAloadN X dX4_isShut_0 0 rfl ?_
  refine vAloadN X dX4_isShut_1 0 rfl ?_
  refine vIloadN X dX4_isShut_2 1 rfl ?_
  refine vCallVd X [.ref (o 0)] (mm_isOtherT l D k o sb B Ln Rm Rd Pl Mk G Sz Kp th g (by omega)) (vGV q_838 q_840 q_14 q_29 q_841) ⟨by decide, by decide, (show _ = some 1 from by decide +kernel)⟩ ⟨Nat.le_of_ble_eq_true rfl, Nat.le_of_ble_eq_true rfl⟩ 0 4 rfl rfl rfl rfl (Nat.le_of_ble_eq_true rfl) dX4_isShut_3 ⟨Nat.zero_le _, Nat.zero_le _⟩ ?_
  refine vIfN_neT X 13 dX4_isShut_6 (by decide) (by omega) (by omega) ?_
  refine vAloadN X dX4_isShut_13 0 rfl ?_
  refine vGet X (C := RX4) (T := TX4) (N := 10) (ci := 4) (vcons inM) rfl 0 rfl 3 (by decide) (List.mem_cons_of_mem _ q_745) (fun _ h => h) rfl dX4_isShut_14 ?_
  refine vIloadN X dX4_isShut_17 1 rfl ?_
  refine vIaload X (v := (-1 : Int32)) 4 1 rfl rfl rfl (by omega) (by decide) (oI_none hgRd) dX4_isShut_18 ?_
  refine vIf_geF X 26 dX4_isShut_19 (by decide) (by first | assumption | exact Int32.not_lt.mpr (by assumption) | exact Int32.not_le.mpr (by assumption) | exact Int32.not_lt.mp (by assumption) | exact Int32.not_le.mp (by assumption) | decide) ?_
  refine vIconst X dX4_isShut_22 (v := nI (2)) (by decide) ?_
  refine vGoto X 27 dX4_isShut_23 (by decide) ?_
  refine vCallVd X [] (mm_isWrong1 l D k o sb B Ln Rm Rd Pl Mk G Sz Kp th 2 (by decide) (by decide)) (vGV q_786 q_788 q_8 q_29 q_789) ⟨by decide, by decide, (show _ = some 1 from by decide +kernel)⟩ ⟨Nat.le_of_ble_eq_true rfl, Nat.le_of_ble_eq_true rfl⟩ 0 4 rfl rfl rfl rfl (Nat.le_of_ble_eq_true rfl) dX4_isShut_27 ⟨Nat.zero_le _, Nat.zero_le _⟩ ?_
  exact vRetZ X hret (by first | rfl | exact nar_bI _) dX4_isShut_30 ⟨rfl, rfl⟩
set_option maxHeartbeats 4000000 in
set_option maxRecDepth 100000 in
theorem mm_isShut0 (l : Launch) (D : va_G) (k : Nat → ClassId) (o : Nat → Nat) (sb : Nat) (B : Nat → Nat → Int32) (Ln Rm : Nat → Nat) (Rd : Nat → Option Nat) (Pl Mk : Nat → Nat) (G : Nat → Nat → Int32) (Sz : Nat → Nat) (Kp : Nat → Int32) (th : Int32) (g a : Nat) (hg : g < 3) (hgRd : Rd g = some a) (ha : a < 8) : vCt l yX4_isShut cX4_isShut 2 (some .boolean) 1 21 0 0 D vCl (vTy k) sb [.ref (o 0), .int (nI (g))] (mW k o B Ln Rm Rd Pl Mk G Sz Kp th) (vDet (some (.int (nI (0)))) (mW k o B Ln Rm Rd Pl Mk G Sz Kp (nI (0)))) := by
  refine vOf (by decide +kernel) (Nat.le_of_ble_eq_true rfl) (fun p e s m below meth c X hret _ => ?_)
  refine vAloadN X dX4_isShut_0 0 rfl ?_
  refine vAloadN X dX4_isShut_1 0 rfl ?_
  refine vIloadN X dX4_isShut_2 1 rfl ?_
  refine vCallVd X [.ref (o 0)] (mm_isOtherT l D k o sb B Ln Rm Rd Pl Mk G Sz Kp th g (by omega)) (vGV q_838 q_840 q_14 q_29 q_841) ⟨by decide, by decide, (show _ = some 1 from by decide +kernel)⟩ ⟨Nat.le_of_ble_eq_true rfl, Nat.le_of_ble_eq_true rfl⟩ 0 4 rfl rfl rfl rfl (Nat.le_of_ble_eq_true rfl) dX4_isShut_3 ⟨Nat.zero_le _, Nat.zero_le _⟩ ?_
  refine vIfN_neT X 13 dX4_isShut_6 (by decide) (by omega) (by omega) ?_
  refine vAloadN X dX4_isShut_13 0 rfl ?_
  refine vGet X (C := RX4) (T := TX4) (N := 10) (ci := 4) (vcons inM) rfl 0 rfl 3 (by decide) (List.mem_cons_of_mem _ q_745) (fun _ h => h) rfl dX4_isShut_14 ?_
  refine vIloadN X dX4_isShut_17 1 rfl ?_
  refine vIaload X (v := nI (a)) 4 1 rfl rfl rfl (by omega) (by decide) (oI_some hgRd) dX4_isShut_18 ?_
  refine vIfN_geT X 26 dX4_isShut_19 (by decide) (by omega) (by omega) ?_
  refine vIconst X dX4_isShut_26 (v := nI (0)) (by decide) ?_
  refine vCallVd X [] (mm_isWrong0 l D k o sb B Ln Rm Rd Pl Mk G Sz Kp th ) (vGV q_786 q_788 q_8 q_29 q_789) ⟨by decide, by decide, (show _ = some 1 from by decide +kernel)⟩ ⟨Nat.le_of_ble_eq_true rfl, Nat.le_of_ble_eq_true rfl⟩ 0 4 rfl rfl rfl rfl (Nat.le_of_ble_eq_true rfl) dX4_isShut_27 ⟨Nat.zero_le _, Nat.zero_le _⟩ ?_
  exact vRetZ X hret (by first | rfl | exact nar_bI _) dX4_isShut_30 ⟨rfl, rfl⟩
set_option maxHeartbeats 4000000 in
set_option maxRecDepth 100000 in
theorem mm_read1 (l : Launch) (D : va_G) (k : Nat → ClassId) (o : Nat → Nat) (sb : Nat) (B : Nat → Nat → Int32) (Ln Rm : Nat → Nat) (Rd : Nat → Option Nat) (Pl Mk : Nat → Nat) (G : Nat → Nat → Int32) (Sz : Nat → Nat) (Kp : Nat → Int32) (th : Int32) (x : Int32)  (hx : ¬ vOther x) : vCt l yX4_read cX4_read 2 (some .int) 2 42 0 0 D vCl (vTy k) sb [.ref (o 0), .int (x)] (mW k o B Ln Rm Rd Pl Mk G Sz Kp th) (vDet (some (.int (nI (0)))) (mW k o B Ln Rm Rd Pl Mk G Sz Kp (nI 1))) := by
  refine vOf (by decide +kernel) (Nat.le_of_ble_eq_true rfl) (fun p e s m below meth c X hret _ => ?_)
  refine vAloadN X dX4_read_0 0 rfl ?_
  refine vIloadN X dX4_read_1 1 rfl ?_
  refine vCallVd X [] (mm_isShut1 l D k o sb B Ln Rm Rd Pl Mk G Sz Kp th x hx) (vGV q_891 q_893 q_18 q_29 q_894) ⟨by decide, by decide, (show _ = some 1 from by decide +kernel)⟩ ⟨Nat.le_of_ble_eq_true rfl, Nat.le_of_ble_eq_true rfl⟩ 0 4 rfl rfl rfl rfl (Nat.le_of_ble_eq_true rfl) dX4_read_2 ⟨Nat.zero_le _, Nat.zero_le _⟩ ?_
  refine vIfN_eqF X 10 dX4_read_5 (by decide) (by omega) (by omega) ?_
  refine vIconst X dX4_read_8 (v := nI (0)) (by decide) ?_
  exact vRetI X hret dX4_read_9 ⟨rfl, rfl⟩
set_option maxHeartbeats 4000000 in
set_option maxRecDepth 100000 in
theorem mm_read2 (l : Launch) (D : va_G) (k : Nat → ClassId) (o : Nat → Nat) (sb : Nat) (B : Nat → Nat → Int32) (Ln Rm : Nat → Nat) (Rd : Nat → Option Nat) (Pl Mk : Nat → Nat) (G : Nat → Nat → Int32) (Sz : Nat → Nat) (Kp : Nat → Int32) (th : Int32) (g : Nat)  (hg : g < 3) (hgRd : Rd g = none) : vCt l yX4_read cX4_read 2 (some .int) 2 42 0 0 D vCl (vTy k) sb [.ref (o 0), .int (nI (g))] (mW k o B Ln Rm Rd Pl Mk G Sz Kp th) (vDet (some (.int (nI (0)))) (mW k o B Ln Rm Rd Pl Mk G Sz Kp (nI 2))) := by
  refine vOf (by decide +kernel) (Nat.le_of_ble_eq_true rfl) (fun p e s m below meth c X hret _ => ?_)
  refine vAloadN X dX4_read_0 0 rfl ?_
  refine vIloadN X dX4_read_1 1 rfl ?_
  refine vCallVd X [] (mm_isShut2 l D k o sb B Ln Rm Rd Pl Mk G Sz Kp th g hg hgRd) (vGV q_891 q_893 q_18 q_29 q_894) ⟨by decide, by decide, (show _ = some 1 from by decide +kernel)⟩ ⟨Nat.le_of_ble_eq_true rfl, Nat.le_of_ble_eq_true rfl⟩ 0 4 rfl rfl rfl rfl (Nat.le_of_ble_eq_true rfl) dX4_read_2 ⟨Nat.zero_le _, Nat.zero_le _⟩ ?_
  refine vIfN_eqF X 10 dX4_read_5 (by decide) (by omega) (by omega) ?_
  refine vIconst X dX4_read_8 (v := nI (0)) (by decide) ?_
  exact vRetI X hret dX4_read_9 ⟨rfl, rfl⟩
set_option maxHeartbeats 4000000 in
set_option maxRecDepth 100000 in
theorem mm_find1 (l : Launch) (D : va_G) (k : Nat → ClassId) (o : Nat → Nat) (sb : Nat) (B : Nat → Nat → Int32) (Ln Rm : Nat → Nat) (Rd : Nat → Option Nat) (Pl Mk : Nat → Nat) (G : Nat → Nat → Int32) (Sz : Nat → Nat) (Kp : Nat → Int32) (th : Int32) (x : Int32) (v : Int32) (hx : ¬ vOther x) : vCt l yX4_find cX4_find 5 (some .int) 2 42 0 0 D vCl (vTy k) sb [.ref (o 0), .int (x), .int (v)] (mW k o B Ln Rm Rd Pl Mk G Sz Kp th) (vDet (some (.int (nI (0)))) (mW k o B Ln Rm Rd Pl Mk G Sz Kp (nI 1))) := by
  refine vOf (by decide +kernel) (Nat.le_of_ble_eq_true rfl) (fun p e s m below meth c X hret _ => ?_)
  refine vAloadN X dX4_find_0 0 rfl ?_
  refine vIloadN X dX4_find_1 1 rfl ?_
  refine vCallVd X [] (mm_isShut1 l D k o sb B Ln Rm Rd Pl Mk G Sz Kp th x hx) (vGV q_891 q_893 q_18 q_29 q_894) ⟨by decide, by decide, (show _ = some 1 from by decide +kernel)⟩ ⟨Nat.le_of_ble_eq_true rfl, Nat.le_of_ble_eq_true rfl⟩ 0 4 rfl rfl rfl rfl (Nat.le_of_ble_eq_true rfl) dX4_find_2 ⟨Nat.zero_le _, Nat.zero_le _⟩ ?_
  refine vIfN_eqF X 10 dX4_find_5 (by decide) (by omega) (by omega) ?_
  refine vIconst X dX4_find_8 (v := nI (0)) (by decide) ?_
  exact vRetI X hret dX4_find_9 ⟨rfl, rfl⟩
set_option maxHeartbeats 4000000 in
set_option maxRecDepth 100000 in
theorem mm_find2 (l : Launch) (D : va_G) (k : Nat → ClassId) (o : Nat → Nat) (sb : Nat) (B : Nat → Nat → Int32) (Ln Rm : Nat → Nat) (Rd : Nat → Option Nat) (Pl Mk : Nat → Nat) (G : Nat → Nat → Int32) (Sz : Nat → Nat) (Kp : Nat → Int32) (th : Int32) (g : Nat) (v : Int32) (hg : g < 3) (hgRd : Rd g = none) : vCt l yX4_find cX4_find 5 (some .int) 2 42 0 0 D vCl (vTy k) sb [.ref (o 0), .int (nI (g)), .int (v)] (mW k o B Ln Rm Rd Pl Mk G Sz Kp th) (vDet (some (.int (nI (0)))) (mW k o B Ln Rm Rd Pl Mk G Sz Kp (nI 2))) := by
  refine vOf (by decide +kernel) (Nat.le_of_ble_eq_true rfl) (fun p e s m below meth c X hret _ => ?_)
  refine vAloadN X dX4_find_0 0 rfl ?_
  refine vIloadN X dX4_find_1 1 rfl ?_
  refine vCallVd X [] (mm_isShut2 l D k o sb B Ln Rm Rd Pl Mk G Sz Kp th g hg hgRd) (vGV q_891 q_893 q_18 q_29 q_894) ⟨by decide, by decide, (show _ = some 1 from by decide +kernel)⟩ ⟨Nat.le_of_ble_eq_true rfl, Nat.le_of_ble_eq_true rfl⟩ 0 4 rfl rfl rfl rfl (Nat.le_of_ble_eq_true rfl) dX4_find_2 ⟨Nat.zero_le _, Nat.zero_le _⟩ ?_
  refine vIfN_eqF X 10 dX4_find_5 (by decide) (by omega) (by omega) ?_
  refine vIconst X dX4_find_8 (v := nI (0)) (by decide) ?_
  exact vRetI X hret dX4_find_9 ⟨rfl, rfl⟩
set_option maxHeartbeats 4000000 in
set_option maxRecDepth 100000 in
theorem mm_left1 (l : Launch) (D : va_G) (k : Nat → ClassId) (o : Nat → Nat) (sb : Nat) (B : Nat → Nat → Int32) (Ln Rm : Nat → Nat) (Rd : Nat → Option Nat) (Pl Mk : Nat → Nat) (G : Nat → Nat → Int32) (Sz : Nat → Nat) (Kp : Nat → Int32) (th : Int32) (x : Int32)  (hx : ¬ vOther x) : vCt l yX4_left cX4_left 2 (some .int) 2 42 0 0 D vCl (vTy k) sb [.ref (o 0), .int (x)] (mW k o B Ln Rm Rd Pl Mk G Sz Kp th) (vDet (some (.int (nI (0)))) (mW k o B Ln Rm Rd Pl Mk G Sz Kp (nI 1))) := by
  refine vOf (by decide +kernel) (Nat.le_of_ble_eq_true rfl) (fun p e s m below meth c X hret _ => ?_)
  refine vAloadN X dX4_left_0 0 rfl ?_
  refine vIloadN X dX4_left_1 1 rfl ?_
  refine vCallVd X [] (mm_isShut1 l D k o sb B Ln Rm Rd Pl Mk G Sz Kp th x hx) (vGV q_891 q_893 q_18 q_29 q_894) ⟨by decide, by decide, (show _ = some 1 from by decide +kernel)⟩ ⟨Nat.le_of_ble_eq_true rfl, Nat.le_of_ble_eq_true rfl⟩ 0 4 rfl rfl rfl rfl (Nat.le_of_ble_eq_true rfl) dX4_left_2 ⟨Nat.zero_le _, Nat.zero_le _⟩ ?_
  refine vIfN_eqF X 12 dX4_left_5 (by decide) (by omega) (by omega) ?_
  refine vIconst X dX4_left_8 (v := nI (0)) (by decide) ?_
  refine vGoto X 17 dX4_left_9 (by decide) ?_
  exact vRetI X hret dX4_left_17 ⟨rfl, rfl⟩
set_option maxHeartbeats 4000000 in
set_option maxRecDepth 100000 in
theorem mm_left2 (l : Launch) (D : va_G) (k : Nat → ClassId) (o : Nat → Nat) (sb : Nat) (B : Nat → Nat → Int32) (Ln Rm : Nat → Nat) (Rd : Nat → Option Nat) (Pl Mk : Nat → Nat) (G : Nat → Nat → Int32) (Sz : Nat → Nat) (Kp : Nat → Int32) (th : Int32) (g : Nat)  (hg : g < 3) (hgRd : Rd g = none) : vCt l yX4_left cX4_left 2 (some .int) 2 42 0 0 D vCl (vTy k) sb [.ref (o 0), .int (nI (g))] (mW k o B Ln Rm Rd Pl Mk G Sz Kp th) (vDet (some (.int (nI (0)))) (mW k o B Ln Rm Rd Pl Mk G Sz Kp (nI 2))) := by
  refine vOf (by decide +kernel) (Nat.le_of_ble_eq_true rfl) (fun p e s m below meth c X hret _ => ?_)
  refine vAloadN X dX4_left_0 0 rfl ?_
  refine vIloadN X dX4_left_1 1 rfl ?_
  refine vCallVd X [] (mm_isShut2 l D k o sb B Ln Rm Rd Pl Mk G Sz Kp th g hg hgRd) (vGV q_891 q_893 q_18 q_29 q_894) ⟨by decide, by decide, (show _ = some 1 from by decide +kernel)⟩ ⟨Nat.le_of_ble_eq_true rfl, Nat.le_of_ble_eq_true rfl⟩ 0 4 rfl rfl rfl rfl (Nat.le_of_ble_eq_true rfl) dX4_left_2 ⟨Nat.zero_le _, Nat.zero_le _⟩ ?_
  refine vIfN_eqF X 12 dX4_left_5 (by decide) (by omega) (by omega) ?_
  refine vIconst X dX4_left_8 (v := nI (0)) (by decide) ?_
  refine vGoto X 17 dX4_left_9 (by decide) ?_
  exact vRetI X hret dX4_left_17 ⟨rfl, rfl⟩
set_option maxHeartbeats 4000000 in
set_option maxRecDepth 100000 in
theorem mm_mark1 (l : Launch) (D : va_G) (k : Nat → ClassId) (o : Nat → Nat) (sb : Nat) (B : Nat → Nat → Int32) (Ln Rm : Nat → Nat) (Rd : Nat → Option Nat) (Pl Mk : Nat → Nat) (G : Nat → Nat → Int32) (Sz : Nat → Nat) (Kp : Nat → Int32) (th : Int32) (x : Int32) (v : Int32) (hx : ¬ vOther x) : vCt l yX4_mark cX4_mark 3 (some .int) 2 42 0 0 D vCl (vTy k) sb [.ref (o 0), .int (x), .int (v)] (mW k o B Ln Rm Rd Pl Mk G Sz Kp th) (vDet (some (.int (nI (0)))) (mW k o B Ln Rm Rd Pl Mk G Sz Kp (nI 1))) := by
  refine vOf (by decide +kernel) (Nat.le_of_ble_eq_true rfl) (fun p e s m below meth c X hret _ => ?_)
  refine vAloadN X dX4_mark_0 0 rfl ?_
  refine vIloadN X dX4_mark_1 1 rfl ?_
  refine vCallVd X [] (mm_isShut1 l D k o sb B Ln Rm Rd Pl Mk G Sz Kp th x hx) (vGV q_891 q_893 q_18 q_29 q_894) ⟨by decide, by decide, (show _ = some 1 from by decide +kernel)⟩ ⟨Nat.le_of_ble_eq_true rfl, Nat.le_of_ble_eq_true rfl⟩ 0 4 rfl rfl rfl rfl (Nat.le_of_ble_eq_true rfl) dX4_mark_2 ⟨Nat.zero_le _, Nat.zero_le _⟩ ?_
  refine vIfN_eqF X 10 dX4_mark_5 (by decide) (by omega) (by omega) ?_
  refine vIconst X dX4_mark_8 (v := nI (0)) (by decide) ?_
  exact vRetI X hret dX4_mark_9 ⟨rfl, rfl⟩
set_option maxHeartbeats 4000000 in
set_option maxRecDepth 100000 in
theorem mm_mark2 (l : Launch) (D : va_G) (k : Nat → ClassId) (o : Nat → Nat) (sb : Nat) (B : Nat → Nat → Int32) (Ln Rm : Nat → Nat) (Rd : Nat → Option Nat) (Pl Mk : Nat → Nat) (G : Nat → Nat → Int32) (Sz : Nat → Nat) (Kp : Nat → Int32) (th : Int32) (g : Nat) (v : Int32) (hg : g < 3) (hgRd : Rd g = none) : vCt l yX4_mark cX4_mark 3 (some .int) 2 42 0 0 D vCl (vTy k) sb [.ref (o 0), .int (nI (g)), .int (v)] (mW k o B Ln Rm Rd Pl Mk G Sz Kp th) (vDet (some (.int (nI (0)))) (mW k o B Ln Rm Rd Pl Mk G Sz Kp (nI 2))) := by
  refine vOf (by decide +kernel) (Nat.le_of_ble_eq_true rfl) (fun p e s m below meth c X hret _ => ?_)
  refine vAloadN X dX4_mark_0 0 rfl ?_
  refine vIloadN X dX4_mark_1 1 rfl ?_
  refine vCallVd X [] (mm_isShut2 l D k o sb B Ln Rm Rd Pl Mk G Sz Kp th g hg hgRd) (vGV q_891 q_893 q_18 q_29 q_894) ⟨by decide, by decide, (show _ = some 1 from by decide +kernel)⟩ ⟨Nat.le_of_ble_eq_true rfl, Nat.le_of_ble_eq_true rfl⟩ 0 4 rfl rfl rfl rfl (Nat.le_of_ble_eq_true rfl) dX4_mark_2 ⟨Nat.zero_le _, Nat.zero_le _⟩ ?_
  refine vIfN_eqF X 10 dX4_mark_5 (by decide) (by omega) (by omega) ?_
  refine vIconst X dX4_mark_8 (v := nI (0)) (by decide) ?_
  exact vRetI X hret dX4_mark_9 ⟨rfl, rfl⟩
set_option maxHeartbeats 4000000 in
set_option maxRecDepth 100000 in
theorem mm_back1 (l : Launch) (D : va_G) (k : Nat → ClassId) (o : Nat → Nat) (sb : Nat) (B : Nat → Nat → Int32) (Ln Rm : Nat → Nat) (Rd : Nat → Option Nat) (Pl Mk : Nat → Nat) (G : Nat → Nat → Int32) (Sz : Nat → Nat) (Kp : Nat → Int32) (th : Int32) (x : Int32)  (hx : ¬ vOther x) : vCt l yX4_back cX4_back 2 (some .int) 2 42 0 0 D vCl (vTy k) sb [.ref (o 0), .int (x)] (mW k o B Ln Rm Rd Pl Mk G Sz Kp th) (vDet (some (.int (nI (0)))) (mW k o B Ln Rm Rd Pl Mk G Sz Kp (nI 1))) := by
  refine vOf (by decide +kernel) (Nat.le_of_ble_eq_true rfl) (fun p e s m below meth c X hret _ => ?_)
  refine vAloadN X dX4_back_0 0 rfl ?_
  refine vIloadN X dX4_back_1 1 rfl ?_
  refine vCallVd X [] (mm_isShut1 l D k o sb B Ln Rm Rd Pl Mk G Sz Kp th x hx) (vGV q_891 q_893 q_18 q_29 q_894) ⟨by decide, by decide, (show _ = some 1 from by decide +kernel)⟩ ⟨Nat.le_of_ble_eq_true rfl, Nat.le_of_ble_eq_true rfl⟩ 0 4 rfl rfl rfl rfl (Nat.le_of_ble_eq_true rfl) dX4_back_2 ⟨Nat.zero_le _, Nat.zero_le _⟩ ?_
  refine vIfN_eqF X 10 dX4_back_5 (by decide) (by omega) (by omega) ?_
  refine vIconst X dX4_back_8 (v := nI (0)) (by decide) ?_
  exact vRetI X hret dX4_back_9 ⟨rfl, rfl⟩
set_option maxHeartbeats 4000000 in
set_option maxRecDepth 100000 in
theorem mm_back2 (l : Launch) (D : va_G) (k : Nat → ClassId) (o : Nat → Nat) (sb : Nat) (B : Nat → Nat → Int32) (Ln Rm : Nat → Nat) (Rd : Nat → Option Nat) (Pl Mk : Nat → Nat) (G : Nat → Nat → Int32) (Sz : Nat → Nat) (Kp : Nat → Int32) (th : Int32) (g : Nat)  (hg : g < 3) (hgRd : Rd g = none) : vCt l yX4_back cX4_back 2 (some .int) 2 42 0 0 D vCl (vTy k) sb [.ref (o 0), .int (nI (g))] (mW k o B Ln Rm Rd Pl Mk G Sz Kp th) (vDet (some (.int (nI (0)))) (mW k o B Ln Rm Rd Pl Mk G Sz Kp (nI 2))) := by
  refine vOf (by decide +kernel) (Nat.le_of_ble_eq_true rfl) (fun p e s m below meth c X hret _ => ?_)
  refine vAloadN X dX4_back_0 0 rfl ?_
  refine vIloadN X dX4_back_1 1 rfl ?_
  refine vCallVd X [] (mm_isShut2 l D k o sb B Ln Rm Rd Pl Mk G Sz Kp th g hg hgRd) (vGV q_891 q_893 q_18 q_29 q_894) ⟨by decide, by decide, (show _ = some 1 from by decide +kernel)⟩ ⟨Nat.le_of_ble_eq_true rfl, Nat.le_of_ble_eq_true rfl⟩ 0 4 rfl rfl rfl rfl (Nat.le_of_ble_eq_true rfl) dX4_back_2 ⟨Nat.zero_le _, Nat.zero_le _⟩ ?_
  refine vIfN_eqF X 10 dX4_back_5 (by decide) (by omega) (by omega) ?_
  refine vIconst X dX4_back_8 (v := nI (0)) (by decide) ?_
  exact vRetI X hret dX4_back_9 ⟨rfl, rfl⟩
set_option maxHeartbeats 4000000 in
set_option maxRecDepth 100000 in
theorem mm_read0a (l : Launch) (D : va_G) (k : Nat → ClassId) (o : Nat → Nat) (sb : Nat) (B : Nat → Nat → Int32) (Ln Rm : Nat → Nat) (Rd : Nat → Option Nat) (Pl Mk : Nat → Nat) (G : Nat → Nat → Int32) (Sz : Nat → Nat) (Kp : Nat → Int32) (th : Int32) (g a : Nat) (hg : g < 3) (hgRd : Rd g = some a) (ha : a < 8) (hla : Ln a ≤ 256) (hpl : Pl g ≤ Ln a) (hl : Pl g = Ln a) : vCt l yX4_read cX4_read 2 (some .int) 2 42 0 0 D vCl (vTy k) sb [.ref (o 0), .int (nI (g))] (mW k o B Ln Rm Rd Pl Mk G Sz Kp th) (vDet (some (.int ((-1 : Int32)))) (mW k o B Ln Rm Rd Pl Mk G Sz Kp (nI 0))) := by
  refine vOf (by decide +kernel) (Nat.le_of_ble_eq_true rfl) (fun p e s m below meth c X hret _ => ?_)
  refine vAloadN X dX4_read_0 0 rfl ?_
  refine vIloadN X dX4_read_1 1 rfl ?_
  refine vCallVd X [] (mm_isShut0 l D k o sb B Ln Rm Rd Pl Mk G Sz Kp th g a hg hgRd ha) (vGV q_891 q_893 q_18 q_29 q_894) ⟨by decide, by decide, (show _ = some 1 from by decide +kernel)⟩ ⟨Nat.le_of_ble_eq_true rfl, Nat.le_of_ble_eq_true rfl⟩ 0 4 rfl rfl rfl rfl (Nat.le_of_ble_eq_true rfl) dX4_read_2 ⟨Nat.zero_le _, Nat.zero_le _⟩ ?_
  refine vIfN_eqT X 10 dX4_read_5 (by decide) (by omega) (by omega) ?_
  refine vAloadN X dX4_read_10 0 rfl ?_
  refine vIloadN X dX4_read_11 1 rfl ?_
  refine vCallVd X [] (mm_leftOf l D k o sb B Ln Rm Rd Pl Mk G Sz Kp (nI 0) g a (Pl (g)) (by omega) hgRd (by omega) (by omega) rfl (by omega)) (vGV q_879 q_881 q_17 q_29 q_882) ⟨by decide, by decide, (show _ = some 1 from by decide +kernel)⟩ ⟨Nat.le_of_ble_eq_true rfl, Nat.le_of_ble_eq_true rfl⟩ 0 4 rfl rfl rfl rfl (Nat.le_of_ble_eq_true rfl) dX4_read_12 ⟨Nat.zero_le _, Nat.zero_le _⟩ ?_
  refine vIfN_neF X 20 dX4_read_15 (by decide) (by omega) (by omega) ?_
  refine vIconst X dX4_read_18 (v := (-1 : Int32)) (by decide) ?_
  exact vRetI X hret dX4_read_19 ⟨rfl, rfl⟩
set_option maxHeartbeats 4000000 in
set_option maxRecDepth 100000 in
theorem mm_read0b (l : Launch) (D : va_G) (k : Nat → ClassId) (o : Nat → Nat) (sb : Nat) (B : Nat → Nat → Int32) (Ln Rm : Nat → Nat) (Rd : Nat → Option Nat) (Pl Mk : Nat → Nat) (G : Nat → Nat → Int32) (Sz : Nat → Nat) (Kp : Nat → Int32) (th : Int32) (g a : Nat) (hg : g < 3) (hgRd : Rd g = some a) (ha : a < 8) (hla : Ln a ≤ 256) (hpl : Pl g ≤ Ln a) (hl : Pl g < Ln a) : vCt l yX4_read cX4_read 2 (some .int) 2 42 0 0 D vCl (vTy k) sb [.ref (o 0), .int (nI (g))] (mW k o B Ln Rm Rd Pl Mk G Sz Kp th) (vDet (some (.int ((B a (Pl g)) &&& (nI 255)))) (mW k o B Ln Rm Rd (va_up Pl (g) ((Pl (g)) + (1))) Mk G Sz Kp (nI 0))) := by
  refine vOf (by decide +kernel) (Nat.le_of_ble_eq_true rfl) (fun p e s m below meth c X hret _ => ?_)
  refine vAloadN X dX4_read_0 0 rfl ?_
  refine vIloadN X dX4_read_1 1 rfl ?_
  refine vCallVd X [] (mm_isShut0 l D k o sb B Ln Rm Rd Pl Mk G Sz Kp th g a hg hgRd ha) (vGV q_891 q_893 q_18 q_29 q_894) ⟨by decide, by decide, (show _ = some 1 from by decide +kernel)⟩ ⟨Nat.le_of_ble_eq_true rfl, Nat.le_of_ble_eq_true rfl⟩ 0 4 rfl rfl rfl rfl (Nat.le_of_ble_eq_true rfl) dX4_read_2 ⟨Nat.zero_le _, Nat.zero_le _⟩ ?_
  refine vIfN_eqT X 10 dX4_read_5 (by decide) (by omega) (by omega) ?_
  refine vAloadN X dX4_read_10 0 rfl ?_
  refine vIloadN X dX4_read_11 1 rfl ?_
  refine vCallVd X [] (mm_leftOf l D k o sb B Ln Rm Rd Pl Mk G Sz Kp (nI 0) g a (Pl (g)) (by omega) hgRd (by omega) (by omega) rfl (by omega)) (vGV q_879 q_881 q_17 q_29 q_882) ⟨by decide, by decide, (show _ = some 1 from by decide +kernel)⟩ ⟨Nat.le_of_ble_eq_true rfl, Nat.le_of_ble_eq_true rfl⟩ 0 4 rfl rfl rfl rfl (Nat.le_of_ble_eq_true rfl) dX4_read_12 ⟨Nat.zero_le _, Nat.zero_le _⟩ ?_
  refine vIfN_neT X 20 dX4_read_15 (by decide) (by omega) (by omega) ?_
  refine vAloadN X dX4_read_20 0 rfl ?_
  refine vGet X (C := RX4) (T := TX4) (N := 10) (ci := 4) (vcons inM) rfl 0 rfl 4 (by decide) (List.mem_cons_of_mem _ q_746) (fun _ h => h) rfl dX4_read_21 ?_
  refine vIloadN X dX4_read_24 1 rfl ?_
  refine vDup2 X dX4_read_25 rfl rfl ?_
  refine vIaload X (v := nI (Pl (g))) 5 1 rfl rfl rfl (by omega) (by decide) rfl dX4_read_26 ?_
  refine vIconst X dX4_read_27 (v := nI (1)) (by decide) ?_
  refine vIadd X dX4_read_28 (v := nI ((Pl (g)) + (1))) (nI_add _ _) ?_
  refine vIastore X (g := (fun q => nI ((va_up Pl (g) ((Pl (g)) + (1))) q))) 5 1 rfl rfl rfl (by omega) (by decide) (nI_up _ _ _) dX4_read_29 ?_
  refine vWs (ws' := mW k o B Ln Rm Rd (va_up Pl (g) ((Pl (g)) + (1))) Mk G Sz Kp (nI 0)) rfl ?_
  refine vAloadN X dX4_read_30 0 rfl ?_
  refine vGet X (C := RX4) (T := TX4) (N := 10) (ci := 4) (vcons inM) rfl 0 rfl 0 (by decide) (List.mem_cons_of_mem _ q_742) (fun _ h => h) rfl dX4_read_31 ?_
  refine vSipush X dX4_read_34 (v := nI (256)) (by decide) ?_
  refine vAloadN X dX4_read_37 0 rfl ?_
  refine vGet X (C := RX4) (T := TX4) (N := 10) (ci := 4) (vcons inM) rfl 0 rfl 3 (by decide) (List.mem_cons_of_mem _ q_745) (fun _ h => h) rfl dX4_read_38 ?_
  refine vIloadN X dX4_read_41 1 rfl ?_
  refine vIaload X (v := nI (a)) 4 1 rfl rfl rfl (by omega) (by decide) (oI_some hgRd) dX4_read_42 ?_
  refine vImul X dX4_read_43 (v := nI ((256) * (a))) (pk_mul _ _) ?_
  refine vAloadN X dX4_read_44 0 rfl ?_
  refine vGet X (C := RX4) (T := TX4) (N := 10) (ci := 4) (vcons inM) rfl 0 rfl 4 (by decide) (List.mem_cons_of_mem _ q_746) (fun _ h => h) rfl dX4_read_45 ?_
  refine vIloadN X dX4_read_48 1 rfl ?_
  refine vIaload X (v := nI ((Pl (g)) + (1))) 5 1 rfl rfl rfl (by omega) (by decide) (congrArg nI (va_up_eq _ _ _)) dX4_read_49 ?_
  refine vIadd X dX4_read_50 (v := nI (((256) * (a)) + ((Pl (g)) + (1)))) (nI_add _ _) ?_
  refine vIconst X dX4_read_51 (v := nI (1)) (by decide) ?_
  refine vIsub X dX4_read_52 (v := nI ((((256) * (a)) + ((Pl (g)) + (1))) - (1))) (pk_sub (by omega)) ?_
  refine vIaload X (v := B (a) ((Pl (g)) + (1) - 1)) 1 1 rfl rfl rfl (by omega) (by decide) (fl2_at _ (X := a) (Y := (Pl (g)) + (1) - 1) (by omega) (by omega)) dX4_read_53 ?_
  refine vSipush X dX4_read_54 (v := nI (255)) (by decide) ?_
  refine vIand X dX4_read_57 (v := (B (a) ((Pl (g)) + (1) - 1)) &&& (nI (255))) rfl ?_
  exact vRetI X hret dX4_read_58 ⟨rfl, rfl⟩
set_option maxHeartbeats 4000000 in
set_option maxRecDepth 100000 in
theorem mm_left0 (l : Launch) (D : va_G) (k : Nat → ClassId) (o : Nat → Nat) (sb : Nat) (B : Nat → Nat → Int32) (Ln Rm : Nat → Nat) (Rd : Nat → Option Nat) (Pl Mk : Nat → Nat) (G : Nat → Nat → Int32) (Sz : Nat → Nat) (Kp : Nat → Int32) (th : Int32) (g a : Nat) (hg : g < 3) (hgRd : Rd g = some a) (ha : a < 8) (hla : Ln a ≤ 256) (hpl : Pl g ≤ Ln a) : vCt l yX4_left cX4_left 2 (some .int) 2 42 0 0 D vCl (vTy k) sb [.ref (o 0), .int (nI (g))] (mW k o B Ln Rm Rd Pl Mk G Sz Kp th) (vDet (some (.int (nI (Ln a - Pl g)))) (mW k o B Ln Rm Rd Pl Mk G Sz Kp (nI 0))) := by
  refine vOf (by decide +kernel) (Nat.le_of_ble_eq_true rfl) (fun p e s m below meth c X hret _ => ?_)
  refine vAloadN X dX4_left_0 0 rfl ?_
  refine vIloadN X dX4_left_1 1 rfl ?_
  refine vCallVd X [] (mm_isShut0 l D k o sb B Ln Rm Rd Pl Mk G Sz Kp th g a hg hgRd ha) (vGV q_891 q_893 q_18 q_29 q_894) ⟨by decide, by decide, (show _ = some 1 from by decide +kernel)⟩ ⟨Nat.le_of_ble_eq_true rfl, Nat.le_of_ble_eq_true rfl⟩ 0 4 rfl rfl rfl rfl (Nat.le_of_ble_eq_true rfl) dX4_left_2 ⟨Nat.zero_le _, Nat.zero_le _⟩ ?_
  refine vIfN_eqT X 12 dX4_left_5 (by decide) (by omega) (by omega) ?_
  refine vAloadN X dX4_left_12 0 rfl ?_
  refine vIloadN X dX4_left_13 1 rfl ?_
  refine vCallVd X [] (mm_leftOf l D k o sb B Ln Rm Rd Pl Mk G Sz Kp (nI 0) g a (Pl (g)) (by omega) hgRd (by omega) (by omega) rfl (by omega)) (vGV q_879 q_881 q_17 q_29 q_882) ⟨by decide, by decide, (show _ = some 1 from by decide +kernel)⟩ ⟨Nat.le_of_ble_eq_true rfl, Nat.le_of_ble_eq_true rfl⟩ 0 4 rfl rfl rfl rfl (Nat.le_of_ble_eq_true rfl) dX4_left_14 ⟨Nat.zero_le _, Nat.zero_le _⟩ ?_
  exact vRetI X hret dX4_left_17 ⟨rfl, rfl⟩
set_option maxHeartbeats 4000000 in
set_option maxRecDepth 100000 in
theorem mm_mark0 (l : Launch) (D : va_G) (k : Nat → ClassId) (o : Nat → Nat) (sb : Nat) (B : Nat → Nat → Int32) (Ln Rm : Nat → Nat) (Rd : Nat → Option Nat) (Pl Mk : Nat → Nat) (G : Nat → Nat → Int32) (Sz : Nat → Nat) (Kp : Nat → Int32) (th : Int32) (g a : Nat) (v : Int32) (hg : g < 3) (hgRd : Rd g = some a) (ha : a < 8) (hla : Ln a ≤ 256) (hpl : Pl g ≤ Ln a) : vCt l yX4_mark cX4_mark 3 (some .int) 2 42 0 0 D vCl (vTy k) sb [.ref (o 0), .int (nI (g)), .int (v)] (mW k o B Ln Rm Rd Pl Mk G Sz Kp th) (vDet (some (.int (nI (Ln a - Pl g)))) (mW k o B Ln Rm Rd Pl (va_up Mk (g) (Pl (g))) G Sz Kp (nI 0))) := by
  refine vOf (by decide +kernel) (Nat.le_of_ble_eq_true rfl) (fun p e s m below meth c X hret _ => ?_)
  refine vAloadN X dX4_mark_0 0 rfl ?_
  refine vIloadN X dX4_mark_1 1 rfl ?_
  refine vCallVd X [] (mm_isShut0 l D k o sb B Ln Rm Rd Pl Mk G Sz Kp th g a hg hgRd ha) (vGV q_891 q_893 q_18 q_29 q_894) ⟨by decide, by decide, (show _ = some 1 from by decide +kernel)⟩ ⟨Nat.le_of_ble_eq_true rfl, Nat.le_of_ble_eq_true rfl⟩ 0 4 rfl rfl rfl rfl (Nat.le_of_ble_eq_true rfl) dX4_mark_2 ⟨Nat.zero_le _, Nat.zero_le _⟩ ?_
  refine vIfN_eqT X 10 dX4_mark_5 (by decide) (by omega) (by omega) ?_
  refine vAloadN X dX4_mark_10 0 rfl ?_
  refine vGet X (C := RX4) (T := TX4) (N := 10) (ci := 4) (vcons inM) rfl 0 rfl 5 (by decide) (List.mem_cons_of_mem _ q_747) (fun _ h => h) rfl dX4_mark_11 ?_
  refine vIloadN X dX4_mark_14 1 rfl ?_
  refine vAloadN X dX4_mark_15 0 rfl ?_
  refine vGet X (C := RX4) (T := TX4) (N := 10) (ci := 4) (vcons inM) rfl 0 rfl 4 (by decide) (List.mem_cons_of_mem _ q_746) (fun _ h => h) rfl dX4_mark_16 ?_
  refine vIloadN X dX4_mark_19 1 rfl ?_
  refine vIaload X (v := nI (Pl (g))) 5 1 rfl rfl rfl (by omega) (by decide) rfl dX4_mark_20 ?_
  refine vIastore X (g := (fun q => nI ((va_up Mk (g) (Pl (g))) q))) 6 1 rfl rfl rfl (by omega) (by decide) (nI_up _ _ _) dX4_mark_21 ?_
  refine vWs (ws' := mW k o B Ln Rm Rd Pl (va_up Mk (g) (Pl (g))) G Sz Kp (nI 0)) rfl ?_
  refine vAloadN X dX4_mark_22 0 rfl ?_
  refine vIloadN X dX4_mark_23 1 rfl ?_
  refine vCallVd X [] (mm_leftOf l D k o sb B Ln Rm Rd Pl (va_up Mk (g) (Pl (g))) G Sz Kp (nI 0) g a (Pl (g)) (by omega) hgRd (by omega) (by omega) rfl (by omega)) (vGV q_879 q_881 q_17 q_29 q_882) ⟨by decide, by decide, (show _ = some 1 from by decide +kernel)⟩ ⟨Nat.le_of_ble_eq_true rfl, Nat.le_of_ble_eq_true rfl⟩ 0 4 rfl rfl rfl rfl (Nat.le_of_ble_eq_true rfl) dX4_mark_24 ⟨Nat.zero_le _, Nat.zero_le _⟩ ?_
  exact vRetI X hret dX4_mark_27 ⟨rfl, rfl⟩
set_option maxHeartbeats 4000000 in
set_option maxRecDepth 100000 in
theorem mm_back0 (l : Launch) (D : va_G) (k : Nat → ClassId) (o : Nat → Nat) (sb : Nat) (B : Nat → Nat → Int32) (Ln Rm : Nat → Nat) (Rd : Nat → Option Nat) (Pl Mk : Nat → Nat) (G : Nat → Nat → Int32) (Sz : Nat → Nat) (Kp : Nat → Int32) (th : Int32) (g a : Nat) (hg : g < 3) (hgRd : Rd g = some a) (ha : a < 8) (hla : Ln a ≤ 256) (hpl : Pl g ≤ Ln a) (hmk : Mk g ≤ Ln a) : vCt l yX4_back cX4_back 2 (some .int) 2 42 0 0 D vCl (vTy k) sb [.ref (o 0), .int (nI (g))] (mW k o B Ln Rm Rd Pl Mk G Sz Kp th) (vDet (some (.int (nI (Ln a - Mk g)))) (mW k o B Ln Rm Rd (va_up Pl (g) (Mk (g))) Mk G Sz Kp (nI 0))) := by
  refine vOf (by decide +kernel) (Nat.le_of_ble_eq_true rfl) (fun p e s m below meth c X hret _ => ?_)
  refine vAloadN X dX4_back_0 0 rfl ?_
  refine vIloadN X dX4_back_1 1 rfl ?_
  refine vCallVd X [] (mm_isShut0 l D k o sb B Ln Rm Rd Pl Mk G Sz Kp th g a hg hgRd ha) (vGV q_891 q_893 q_18 q_29 q_894) ⟨by decide, by decide, (show _ = some 1 from by decide +kernel)⟩ ⟨Nat.le_of_ble_eq_true rfl, Nat.le_of_ble_eq_true rfl⟩ 0 4 rfl rfl rfl rfl (Nat.le_of_ble_eq_true rfl) dX4_back_2 ⟨Nat.zero_le _, Nat.zero_le _⟩ ?_
  refine vIfN_eqT X 10 dX4_back_5 (by decide) (by omega) (by omega) ?_
  refine vAloadN X dX4_back_10 0 rfl ?_
  refine vGet X (C := RX4) (T := TX4) (N := 10) (ci := 4) (vcons inM) rfl 0 rfl 4 (by decide) (List.mem_cons_of_mem _ q_746) (fun _ h => h) rfl dX4_back_11 ?_
  refine vIloadN X dX4_back_14 1 rfl ?_
  refine vAloadN X dX4_back_15 0 rfl ?_
  refine vGet X (C := RX4) (T := TX4) (N := 10) (ci := 4) (vcons inM) rfl 0 rfl 5 (by decide) (List.mem_cons_of_mem _ q_747) (fun _ h => h) rfl dX4_back_16 ?_
  refine vIloadN X dX4_back_19 1 rfl ?_
  refine vIaload X (v := nI (Mk (g))) 6 1 rfl rfl rfl (by omega) (by decide) rfl dX4_back_20 ?_
  refine vIastore X (g := (fun q => nI ((va_up Pl (g) (Mk (g))) q))) 5 1 rfl rfl rfl (by omega) (by decide) (nI_up _ _ _) dX4_back_21 ?_
  refine vWs (ws' := mW k o B Ln Rm Rd (va_up Pl (g) (Mk (g))) Mk G Sz Kp (nI 0)) rfl ?_
  refine vAloadN X dX4_back_22 0 rfl ?_
  refine vIloadN X dX4_back_23 1 rfl ?_
  refine vCallVd X [] (mm_leftOf l D k o sb B Ln Rm Rd (va_up Pl (g) (Mk (g))) Mk G Sz Kp (nI 0) g a (Mk (g)) (by omega) hgRd (by omega) (by omega) (va_up_eq _ _ _) (by omega)) (vGV q_879 q_881 q_17 q_29 q_882) ⟨by decide, by decide, (show _ = some 1 from by decide +kernel)⟩ ⟨Nat.le_of_ble_eq_true rfl, Nat.le_of_ble_eq_true rfl⟩ 0 4 rfl rfl rfl rfl (Nat.le_of_ble_eq_true rfl) dX4_back_24 ⟨Nat.zero_le _, Nat.zero_le _⟩ ?_
  exact vRetI X hret dX4_back_27 ⟨rfl, rfl⟩
end
