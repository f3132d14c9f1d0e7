/-! THE CHECKER: conversions and shifts -/
theorem ck_i2l (x : Int32) : x.toInt64.toInt = x.toInt := Int32.toInt_toInt64 x
theorem ck_l2i {x : Int64} (h : ck_i32 x.toInt) : x.toInt32.toInt = x.toInt := by rw [Int64.toInt_toInt32]; exact ck_bm h
theorem ck_i2b (x : Int32) : -128 ≤ x.toInt8.toInt32.toInt ∧ x.toInt8.toInt32.toInt ≤ 127 := by
  rw [Int8.toInt_toInt32]
  have h1 := x.toInt8.le_toInt
  have h2 := x.toInt8.toInt_lt
  omega
theorem ck_i2b_id {x : Int32} (h1 : -128 ≤ x.toInt) (h2 : x.toInt ≤ 127) : x.toInt8.toInt32.toInt = x.toInt := by
  rw [Int8.toInt_toInt32, Int32.toInt_toInt8]
  apply Int.bmod_eq_of_le
  · show -(((2 ^ 8 : Nat) : Int) / 2) ≤ x.toInt; omega
  · show x.toInt < (((2 ^ 8 : Nat) : Int) + 1) / 2; omega
theorem ck_i2c_nat (x : Int32) : (x.toUInt32 % 65536).toInt32.toInt = ((x.toBitVec.toNat % 65536 : Nat) : Int) := by
  refine ck_of ?_ ?_
  · show (x.toUInt32 % 65536).toNat = x.toBitVec.toNat % 65536
    rw [UInt32.toNat_mod]
    rfl
  · have := Nat.mod_lt x.toBitVec.toNat (show 0 < 65536 by decide)
    omega
theorem ck_i2c (x : Int32) : 0 ≤ (x.toUInt32 % 65536).toInt32.toInt ∧ (x.toUInt32 % 65536).toInt32.toInt ≤ 65535 := by
  rw [ck_i2c_nat]
  have := Nat.mod_lt x.toBitVec.toNat (show 0 < 65536 by decide)
  omega
theorem ck_i2c_id {x : Int32} (h1 : 0 ≤ x.toInt) (h2 : x.toInt ≤ 65535) : (x.toUInt32 % 65536).toInt32.toInt = x.toInt := by
  obtain ⟨e1, l1⟩ := ck_nn h1
  rw [ck_i2c_nat, e1, Nat.mod_eq_of_lt (by omega)]
theorem ck_sh31 {y : Int32} (h1 : 0 ≤ y.toInt) (h2 : y.toInt ≤ 31) : y &&& 31 = y := by
  obtain ⟨e1, l1⟩ := ck_nn h1
  apply Int32.toBitVec_inj.mp
  apply BitVec.eq_of_toNat_eq
  rw [Int32.toBitVec_and, BitVec.toNat_and]
  show y.toBitVec.toNat &&& (2 ^ 5 - 1) = y.toBitVec.toNat
  rw [Nat.and_two_pow_sub_one_eq_mod]
  exact Nat.mod_eq_of_lt (by omega)
theorem ck_ishr {x : Int32} (y : Int32) (hx : 0 ≤ x.toInt) : 0 ≤ (x >>> y).toInt ∧ (x >>> y).toInt ≤ x.toInt := by
  have e : (x >>> y).toInt = x.toInt >>> (y.toBitVec.smod 32).toNat := by
    show (x >>> y).toBitVec.toInt = _
    rw [Int32.toBitVec_shiftRight, BitVec.sshiftRight_eq', BitVec.toInt_sshiftRight]
    rfl
  rw [e, Int.shiftRight_eq_div_pow]
  exact ⟨Int.ediv_nonneg hx (by exact_mod_cast Nat.zero_le _), Int.ediv_le_self _ hx⟩
theorem ck_ishr0 (x : Int32) : x >>> ((0 : Int32) &&& 31) = x := by
  apply Int32.toBitVec_inj.mp
  rw [Int32.toBitVec_shiftRight]
  show x.toBitVec.sshiftRight 0 = x.toBitVec
  exact BitVec.sshiftRight_zero
theorem ck_iushr {x : Int32} (y : UInt32) (hx : 0 ≤ x.toInt) : 0 ≤ (x.toUInt32 >>> y).toInt32.toInt ∧ (x.toUInt32 >>> y).toInt32.toInt ≤ x.toInt := by
  obtain ⟨e1, l1⟩ := ck_nn hx
  have e2 : (x.toUInt32 >>> y).toInt32.toBitVec.toNat = x.toBitVec.toNat >>> (y.toNat % 32) := by
    show (x.toUInt32 >>> y).toNat = _
    rw [UInt32.toNat_shiftRight]
    rfl
  have l2 : x.toBitVec.toNat >>> (y.toNat % 32) ≤ x.toBitVec.toNat := by
    rw [Nat.shiftRight_eq_div_pow]
    exact Nat.div_le_self _ _
  rw [ck_of e2 (by omega), e1]
  omega
theorem ck_ishl {x y : Int32} (hx : 0 ≤ x.toInt) (hy : 0 ≤ y.toInt) (hy2 : y.toInt ≤ 31) (hm : x.toInt * 2 ^ y.toInt.toNat ≤ 2147483647) : (x <<< (y &&& 31)).toInt = x.toInt * 2 ^ y.toInt.toNat := by
  obtain ⟨e1, l1⟩ := ck_nn hx
  obtain ⟨e2, l2⟩ := ck_nn hy
  rw [ck_sh31 hy hy2]
  have e3 : y.toInt.toNat = y.toBitVec.toNat := by omega
  rw [e3] at hm ⊢
  have e4 : (y.toBitVec.smod 32) = y.toBitVec := by
    apply BitVec.eq_of_toInt_eq
    rw [BitVec.toInt_smod]
    have : y.toBitVec.toInt = y.toInt := rfl
    rw [this]
    show y.toInt.fmod 32 = y.toInt
    rw [Int.fmod_eq_emod_of_nonneg _ (by omega)]
    exact Int.emod_eq_of_lt hy (by omega)
  have h5 : x.toBitVec.toNat * 2 ^ y.toBitVec.toNat < 2 ^ 31 := by
    rw [e1] at hm
    have h6 : ((x.toBitVec.toNat * 2 ^ y.toBitVec.toNat : Nat) : Int) ≤ 2147483647 := by
      push_cast
      exact hm
    omega
  have e5 : (x <<< y).toBitVec.toNat = x.toBitVec.toNat * 2 ^ y.toBitVec.toNat := by
    rw [Int32.toBitVec_shiftLeft, e4, BitVec.shiftLeft_eq', BitVec.toNat_shiftLeft, Nat.shiftLeft_eq]
    exact Nat.mod_eq_of_lt (by omega)
  rw [ck_of e5 h5, e1]
  push_cast
  rfl
