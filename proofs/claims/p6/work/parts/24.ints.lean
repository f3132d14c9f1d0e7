/-! THE CHECKER: what the machine's numbers are -/
def ck_i32 (a : Int) : Prop := -2147483648 ≤ a ∧ a ≤ 2147483647
def ck_i64 (a : Int) : Prop := -9223372036854775808 ≤ a ∧ a ≤ 9223372036854775807
theorem ck_range (x : Int32) : ck_i32 x.toInt := by
  have h1 := x.le_toInt
  have h2 := x.toInt_lt
  unfold ck_i32
  omega
theorem ck_rangeL (x : Int64) : ck_i64 x.toInt := by
  have h1 := x.le_toInt
  have h2 := x.toInt_lt
  unfold ck_i64
  omega
theorem ck_bm {a : Int} (h : ck_i32 a) : a.bmod (2 ^ 32) = a := by
  apply Int.bmod_eq_of_le
  · have := h.1; show -(((2 ^ 32 : Nat) : Int) / 2) ≤ a; omega
  · have := h.2; show a < (((2 ^ 32 : Nat) : Int) + 1) / 2; omega
theorem ck_bmL {a : Int} (h : ck_i64 a) : a.bmod (2 ^ 64) = a := by
  apply Int.bmod_eq_of_le
  · have := h.1; show -(((2 ^ 64 : Nat) : Int) / 2) ≤ a; omega
  · have := h.2; show a < (((2 ^ 64 : Nat) : Int) + 1) / 2; omega
theorem ck_iadd {x y : Int32} (h : ck_i32 (x.toInt + y.toInt)) : (x + y).toInt = x.toInt + y.toInt := by rw [Int32.toInt_add]; exact ck_bm h
theorem ck_isub {x y : Int32} (h : ck_i32 (x.toInt - y.toInt)) : (x - y).toInt = x.toInt - y.toInt := by rw [Int32.toInt_sub]; exact ck_bm h
theorem ck_imul {x y : Int32} (h : ck_i32 (x.toInt * y.toInt)) : (x * y).toInt = x.toInt * y.toInt := by rw [Int32.toInt_mul]; exact ck_bm h
theorem ck_ineg {x : Int32} (h : ck_i32 (-x.toInt)) : (-x).toInt = -x.toInt := by rw [Int32.toInt_neg]; exact ck_bm h
theorem ck_ladd {x y : Int64} (h : ck_i64 (x.toInt + y.toInt)) : (x + y).toInt = x.toInt + y.toInt := by rw [Int64.toInt_add]; exact ck_bmL h
theorem ck_idiv {x y : Int32} (hx : 0 ≤ x.toInt) (hy : 0 < y.toInt) : (x / y).toInt = x.toInt / y.toInt := by
  have h1 := ck_range x
  have h2 : 0 ≤ x.toInt / y.toInt := Int.ediv_nonneg hx (Int.le_of_lt hy)
  have h3 : x.toInt / y.toInt ≤ x.toInt := Int.ediv_le_self _ hx
  rw [Int32.toInt_div, Int.tdiv_eq_ediv_of_nonneg hx]
  exact ck_bm ⟨by omega, by have := h1.2; omega⟩
theorem ck_irem {x y : Int32} (hx : 0 ≤ x.toInt) (hy : 0 < y.toInt) : (x - x / y * y).toInt = x.toInt % y.toInt := by
  have h1 := ck_range x
  have e1 := ck_idiv hx hy
  have h4 : x.toInt / y.toInt * y.toInt ≤ x.toInt := Int.ediv_mul_le _ (by omega)
  have h2 : 0 ≤ x.toInt / y.toInt := Int.ediv_nonneg hx (Int.le_of_lt hy)
  have h5 : 0 ≤ x.toInt / y.toInt * y.toInt := Int.mul_nonneg h2 (Int.le_of_lt hy)
  have e2 : (x / y * y).toInt = x.toInt / y.toInt * y.toInt := by
    rw [ck_imul (by rw [e1]; exact ⟨by omega, by have := h1.2; omega⟩), e1]
  have e3 : x.toInt / y.toInt * y.toInt + x.toInt % y.toInt = x.toInt := Int.ediv_mul_add_emod _ _
  rw [ck_isub (by rw [e2]; exact ⟨by omega, by have := h1.2; omega⟩), e2]
  omega
theorem ck_nn {x : Int32} (h : 0 ≤ x.toInt) : x.toInt = (x.toBitVec.toNat : Int) ∧ x.toBitVec.toNat < 2 ^ 31 := by
  have h1 : x.toInt = x.toBitVec.toInt := rfl
  rw [h1] at h ⊢
  rw [BitVec.toInt_eq_toNat_cond] at h ⊢
  have h2 := x.toBitVec.isLt
  split at h
  · next e => exact ⟨by rw [if_pos e], by omega⟩
  · omega
theorem ck_of {x : Int32} {k : Nat} (h : x.toBitVec.toNat = k) (hk : k < 2 ^ 31) : x.toInt = (k : Int) := by
  have h1 : x.toInt = x.toBitVec.toInt := rfl
  rw [h1, BitVec.toInt_eq_toNat_cond, if_pos (by omega), h]
theorem ck_iand_r {x y : Int32} (h : 0 ≤ y.toInt) : 0 ≤ (x &&& y).toInt ∧ (x &&& y).toInt ≤ y.toInt := by
  obtain ⟨e1, l1⟩ := ck_nn h
  have e2 : (x &&& y).toBitVec.toNat = x.toBitVec.toNat &&& y.toBitVec.toNat := by rw [Int32.toBitVec_and, BitVec.toNat_and]
  have l2 : x.toBitVec.toNat &&& y.toBitVec.toNat ≤ y.toBitVec.toNat := Nat.and_le_right
  rw [ck_of e2 (by omega), e1]
  omega
theorem ck_iand_l {x y : Int32} (h : 0 ≤ x.toInt) : 0 ≤ (x &&& y).toInt ∧ (x &&& y).toInt ≤ x.toInt := by
  obtain ⟨e1, l1⟩ := ck_nn h
  have e2 : (x &&& y).toBitVec.toNat = x.toBitVec.toNat &&& y.toBitVec.toNat := by rw [Int32.toBitVec_and, BitVec.toNat_and]
  have l2 : x.toBitVec.toNat &&& y.toBitVec.toNat ≤ x.toBitVec.toNat := Nat.and_le_left
  rw [ck_of e2 (by omega), e1]
  omega
theorem ck_ior {x y : Int32} {k : Nat} (hk : k ≤ 31) (hx : 0 ≤ x.toInt) (hy : 0 ≤ y.toInt) (lx : x.toInt < 2 ^ k) (ly : y.toInt < 2 ^ k) : 0 ≤ (x ||| y).toInt ∧ (x ||| y).toInt < 2 ^ k := by
  obtain ⟨e1, l1⟩ := ck_nn hx
  obtain ⟨e2, l2⟩ := ck_nn hy
  have e3 : (x ||| y).toBitVec.toNat = x.toBitVec.toNat ||| y.toBitVec.toNat := by rw [Int32.toBitVec_or, BitVec.toNat_or]
  have a1 : x.toBitVec.toNat < 2 ^ k := by rw [e1] at lx; exact_mod_cast lx
  have a2 : y.toBitVec.toNat < 2 ^ k := by rw [e2] at ly; exact_mod_cast ly
  have a3 := Nat.or_lt_two_pow a1 a2
  have a4 : (2 : Nat) ^ k ≤ 2 ^ 31 := Nat.pow_le_pow_right (by decide) hk
  rw [ck_of e3 (by omega)]
  exact ⟨by omega, by exact_mod_cast a3⟩
