/-! the law: the model's cells in the pool; the whole relation; the script -/
def mcell (k : Nat → ClassId) (o : Nat → Nat) (B : Nat → Nat → Int32) (Ln Rm : Nat → Nat) (Rd : Nat → Option Nat) (Pl Mk : Nat → Nat) (G : Nat → Nat → Int32) (Sz : Nat → Nat) (Kp : Nat → Int32) (th : Int32) : Nat → va_E := fun i => match i with
  | 0 => .inr (4, [.ref (o 1), .ref (o 2), .ref (o 3), .ref (o 4), .ref (o 5), .ref (o 6), .ref (o 7), .ref (o 8), .ref (o 9), .int th])
  | 1 => .inl (k 1, 2048, .inl (fl2 B))
  | 2 => .inl (k 1, 8, .inl (fun j => nI (Ln j)))
  | 3 => .inl (k 1, 4, .inl (fun j => nI (Rm j)))
  | 4 => .inl (k 1, 3, .inl (fun j => oI (Rd j)))
  | 5 => .inl (k 1, 3, .inl (fun j => nI (Pl j)))
  | 6 => .inl (k 1, 3, .inl (fun j => nI (Mk j)))
  | 7 => .inl (k 1, 768, .inl (fl2 G))
  | 8 => .inl (k 1, 3, .inl (fun j => nI (Sz j)))
  | _ => .inl (k 1, 256, .inl Kp)
def mIn (k : Nat → ClassId) (o : Nat → Nat) (L : List Nat) (f : Nat → va_E) (B : Nat → Nat → Int32) (Ln Rm : Nat → Nat) (Rd : Nat → Option Nat) (Pl Mk : Nat → Nat) (G : Nat → Nat → Int32) (Sz : Nat → Nat) (Kp : Nat → Int32) (th : Int32) : Prop :=
  (∀ i, i < 10 → o i ∈ L) ∧ (∀ i j, i < 10 → j < 10 → o i = o j → i = j) ∧ ∀ i, i < 10 → f (o i) = mcell k o B Ln Rm Rd Pl Mk G Sz Kp th i
section LAW1
variable {k : Nat → ClassId} {o : Nat → Nat} {L L' : List Nat} {f f' : Nat → va_E} {B B' : Nat → Nat → Int32} {Ln Rm Ln' Rm' : Nat → Nat} {Rd Rd' : Nat → Option Nat} {Pl Mk Pl' Mk' : Nat → Nat} {G G' : Nat → Nat → Int32} {Sz Sz' : Nat → Nat} {Kp Kp' : Nat → Int32} {th th' : Int32}
theorem mIn.call {l : Launch} {y : MethodName} {cc : ByteArray} {nL : Nat} {ret : Option FieldType} {fr lo mc ms : Nat} {D : va_G} {tys : List (ClassId × FieldType)} {sb : Nat} {av : List Value} {v : Option Value} (h : mIn k o L f B Ln Rm Rd Pl Mk G Sz Kp th)
    (hm : ∀ pl : va_W, vCt l y cc nL ret fr lo mc ms D vCl tys sb av (mW k o pl B Ln Rm Rd Pl Mk G Sz Kp th) (vDet v (mW k o pl B' Ln' Rm' Rd' Pl' Mk' G' Sz' Kp' th'))) :
    vCt l y cc nL ret fr lo mc ms D vCl tys sb av (va_pl L f) (fun w ws' => w = v ∧ ∃ f', ws' = va_pl L f' ∧ (∀ t, (∀ i, i < 10 → t ≠ o i) → f' t = f t) ∧ mIn k o L f' B' Ln' Rm' Rd' Pl' Mk' G' Sz' Kp' th') := by
  refine vCt.weak (vCt.pool (c' := mcell k o B' Ln' Rm' Rd' Pl' Mk' G' Sz' Kp' th') h.1 h.2.1 h.2.2 (fun pl => hm pl)) (fun w ws' q => ?_)
  obtain ⟨rfl, rfl⟩ := q
  exact ⟨rfl, _, rfl, fun t ht => mUp_nq 10 ht, h.1, h.2.1, mUp_eq 10 h.2.1⟩
theorem mIn.kp (h : mIn k o L f B Ln Rm Rd Pl Mk G Sz Kp th) (h1 : ∀ a, a ∈ L → a ∈ L') (h2 : ∀ i, i < 10 → f' (o i) = f (o i)) : mIn k o L' f' B Ln Rm Rd Pl Mk G Sz Kp th :=
  ⟨fun i hi => h1 _ (h.1 i hi), h.2.1, fun i hi => (h2 i hi).trans (h.2.2 i hi)⟩
end LAW1
def lZ (o : Nat → Nat) (ou od : Nat) : Nat → Prop := fun a => (∃ i, i < 10 ∧ a = o i) ∨ a = ou ∨ a = od
def lInv (k : Nat → ClassId) (o : Nat → Nat) (ou od x : Nat) (L : List Nat) (f : Nat → va_E) (B : Nat → Nat → Int32) (Ln Rm : Nat → Nat) (Rd : Nat → Option Nat) (Pl Mk : Nat → Nat) (G : Nat → Nat → Int32) (Sz : Nat → Nat) (Kp : Nat → Int32) (th : Int32) (gL : Nat → Int64) (gD : Nat → UInt64) : Prop :=
  cInv k L f (lZ o ou od) x B Ln Rm Rd Pl Mk G Sz ∧ mIn k o L f B Ln Rm Rd Pl Mk G Sz Kp th ∧ ou ∈ L ∧ od ∈ L ∧ f ou = .inl (k 5, 1, .inr (.inl gL)) ∧ f od = .inl (k 6, 1, .inr (.inr (.inr (.inl gD)))) ∧ (∀ i, i < 10 → ou ≠ o i) ∧ (∀ i, i < 10 → od ≠ o i) ∧ ou ≠ od
theorem lgc_self (x : Int64) : lg_cmp x x = 0 := by
  have h : ¬ x < x := by rw [Int64.lt_iff_toInt_lt]; omega
  simp [lg_cmp, h]
theorem dcmp_self {x : UInt64} (h : vf_n64 x) : FP.dcmp x x = some .eq := by
  have hn : x.toNat < 2 ^ 64 := x.toNat_lt
  have h1 : x.toNat % 2 ^ 63 ≤ 0x7ff0000000000000 := by
    have h2 := UInt64.le_iff_toNat_le.mp h
    rw [UInt64.toNat_and] at h2
    have h3 : (0x7fffffffffffffff : UInt64).toNat = 2 ^ 63 - 1 := by decide
    rw [h3, Nat.and_two_pow_sub_one_eq_mod] at h2
    exact h2
  have hd : FP.Core.decode FP.Core.b64 x.toNat ≠ .nan := by
    unfold FP.Core.decode
    have e1 : FP.Core.fieldE FP.Core.b64 x.toNat = x.toNat / 2 ^ 52 % 2 ^ 11 := rfl
    have e2 : FP.Core.fieldT FP.Core.b64 x.toNat = x.toNat % 2 ^ 52 := rfl
    have e3 : FP.Core.b64.exps - 1 = 2047 := by decide
    rw [e1, e2, e3]
    split
    · rename_i h5
      have : x.toNat % 2 ^ 52 = 0 := by omega
      rw [if_pos this]
      exact fun q => nomatch q
    · split <;> exact fun q => nomatch q
  show FP.Core.order (FP.Core.decode FP.Core.b64 x.toNat) (FP.Core.decode FP.Core.b64 x.toNat) = some .eq
  generalize FP.Core.decode FP.Core.b64 x.toNat = z at hd
  cases z with
  | nan => exact absurd rfl hd
  | inf s => simp [FP.Core.order]
  | fin s c q => simp [FP.Core.order]
theorem and63 (x : Int32) : ∃ n : Nat, n < 64 ∧ x &&& nI 63 = nI n := by
  refine ⟨x.toBitVec.toNat % 64, by omega, ?_⟩
  apply Int32.toBitVec_inj.mp
  apply BitVec.eq_of_toNat_eq
  have h : (nI 63).toBitVec.toNat = 2 ^ 6 - 1 := by decide
  rw [Int32.toBitVec_and, BitVec.toNat_and, h, Nat.and_two_pow_sub_one_eq_mod]
  show _ = (BitVec.ofNat 32 (x.toBitVec.toNat % 64)).toNat
  rw [BitVec.toNat_ofNat]
  omega
theorem vGL {c : Cond} {y : MethodName} {bytes : ByteArray} {maxL : Nat} {ret : Option FieldType} {hh : List (Nat × Nat × Nat × Nat)} {own : String} {idx : Nat} (h1 : Cond.methodLink own idx y ∈ vGW) (h2 : Cond.static y ∈ vGW) (h4 : Cond.initialized y.cls ∈ vGW) (h5 : Cond.codeWith y bytes maxL ret hh ∈ vGW) : GoodIn (c :: vGW) (va_wsS own idx y (Cond.codeWith y bytes maxL ret hh :: vGW)) := vGsub fun w hw => by
  simp only [va_wsS, List.cons_append, List.nil_append, List.mem_cons] at hw
  rcases hw with rfl | rfl | rfl | rfl | hw <;> assumption
section LAW2
variable {p : Program} {l : Launch} {e : Env} {R : Room} {s : State} {m : MethodId} {args : Array Value} {below : List Frame} {meth : Method} {c : Code} {cc : ByteArray} {nL : Nat} {own : String} {Ts : List Cond} {D : va_G} {cl : List vw_C} {tys : List (ClassId × FieldType)} {sb : Nat} {Q : State → Prop} {ws : va_W} {cells slots : Nat} {pc : Nat} {lv : List (Nat × Value)} {rest : List Value}
/-- the script is read -/
theorem vSld (X : vCX p s m args meth c cc nL own Ts D cl tys sb) {b LL : Nat} {xs : Nat → Int32} (hX : va_X b LL xs s s.heap) (hbl : b < s.heap.size) (hsb9 : s.heap.size ≤ sb) (hLL : LL ≤ 3072) {i : Int32} {j : Nat} (hi : i = nI j) (hj : j < LL) (hd : decode cc pc = .ok (.iaload, 1)) (kk : vV p l e R s m args below meth c nL D cl sb Q ws cells slots (pc + 1) lv (.int (xs j) :: rest)) : vV p l e R s m args below meth c nL D cl sb Q ws cells slots pc lv (.int i :: .ref b :: rest) := by
  subst hi
  have e9 : (nI j).toNatClampNeg = j := nI_clamp (by omega)
  refine fun H locs ls hP hD hS hl => va_sld X.1 X.2.1 (A := vAb sb) hX hbl (fun q => by have q9 : sb ≤ b := q; omega) hS (vp_in_nI hj (by omega)) hd ?_
  rw [e9]
  exact kk H locs ls hP hD hS hl
theorem vSlen (X : vCX p s m args meth c cc nL own Ts D cl tys sb) {b LL : Nat} {xs : Nat → Int32} (hX : va_X b LL xs s s.heap) (hbl : b < s.heap.size) (hsb9 : s.heap.size ≤ sb) (hd : decode cc pc = .ok (.arraylength, 1)) (kk : vV p l e R s m args below meth c nL D cl sb Q ws cells slots (pc + 1) lv (.int (nI LL) :: rest)) : vV p l e R s m args below meth c nL D cl sb Q ws cells slots pc lv (.ref b :: rest) :=
  fun H locs ls hP hD hS hl => va_slen X.1 X.2.1 (A := vAb sb) hX hbl (fun q => by have q9 : sb ≤ b := q; omega) hS hd (kk H locs ls hP hD hS hl)
theorem vTabOut (X : vCX p s m args meth c cc nL own Ts D cl tys sb) {dflt lo hi : Int} {offs : Array Int} {len : Nat} {x : Int32} (tgt : Nat) (hd : decode cc pc = .ok (.tableswitch dflt lo hi offs, len)) (h : x.toInt < lo ∨ hi < x.toInt) (ht : (pc : Int) + dflt = (tgt : Int)) (k : vV p l e R s m args below meth c nL D cl sb Q ws cells slots tgt lv rest) : vV p l e R s m args below meth c nL D cl sb Q ws cells slots pc lv (.int x :: rest) :=
  fun H locs ls hP hD hS hl => lv_tableOut X.1 X.2.1 hd h ht (k H locs ls hP hD hS hl)
theorem vTabIn (X : vCX p s m args meth c cc nL own Ts D cl tys sb) {dflt lo hi : Int} {offs : Array Int} {len : Nat} {x : Int32} (off : Int) (tgt : Nat) (hd : decode cc pc = .ok (.tableswitch dflt lo hi offs, len)) (h1 : ¬ x.toInt < lo) (h2 : ¬ hi < x.toInt) (ho : offs[(x.toInt - lo).toNat]? = some off) (ht : (pc : Int) + off = (tgt : Int)) (k : vV p l e R s m args below meth c nL D cl sb Q ws cells slots tgt lv rest) : vV p l e R s m args below meth c nL D cl sb Q ws cells slots pc lv (.int x :: rest) :=
  fun H locs ls hP hD hS hl => lv_tableIn X.1 X.2.1 hd h1 h2 ho ht (k H locs ls hP hD hS hl)
end LAW2
