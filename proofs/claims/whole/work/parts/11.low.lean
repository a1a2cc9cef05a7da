theorem lb_toInt (x : Int32) : (lb x).toInt = ((x.toBitVec.toNat : Int)).bmod 256 := by
  unfold lb
  rw [Int8.toInt_toInt32, Int32.toInt_toInt8]
  have h : x.toInt = (x.toBitVec.toNat : Int).bmod (2 ^ 32) := by
    show x.toBitVec.toInt = _
    exact BitVec.toInt_eq_toNat_bmod _
  rw [h, Int.bmod_bmod_of_dvd (by decide)]
theorem low_lt {x : Int32} (h : x &&& nI 255 < nI 128) : x &&& nI 255 = lb x := by
  rw [pk_and x (m := nI 255) 8 (by decide)] at h ⊢
  have h1 := (nI_ltI (by omega) (by omega)).mp h
  apply Int32.toInt_inj.mp
  rw [lb_toInt, nI_toInt (by omega), Int.bmod_def]
  split <;> omega
theorem low_ge {x : Int32} (h : nI 128 ≤ x &&& nI 255) : (x &&& nI 255) - nI 256 = lb x := by
  rw [pk_and x (m := nI 255) 8 (by decide)] at h ⊢
  have h1 := (nI_leI (by omega) (by omega)).mp h
  apply Int32.toInt_inj.mp
  rw [lb_toInt, Int32.toInt_sub, nI_toInt (by omega), nI_toInt (by omega), Int.bmod_eq_of_le (by omega) (by omega), Int.bmod_def]
  split <;> omega
