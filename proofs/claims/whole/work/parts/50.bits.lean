/-! Masks and shifts as numbers. -/
theorem bv_cases (a : Int) : (wr a = ((zI a).toBitVec.toNat : Int) ∧ (zI a).toBitVec.toNat < 2147483648) ∨ (wr a = ((zI a).toBitVec.toNat : Int) - 4294967296 ∧ 2147483648 ≤ (zI a).toBitVec.toNat ∧ (zI a).toBitVec.toNat < 4294967296) := by
  have h : wr a = if 2 * (zI a).toBitVec.toNat < 2 ^ 32 then ((zI a).toBitVec.toNat : Int) else ((zI a).toBitVec.toNat : Int) - ((2 ^ 32 : Nat) : Int) := BitVec.toInt_eq_toNat_cond _
  have hb : (zI a).toBitVec.toNat < 2 ^ 32 := (zI a).toBitVec.isLt
  split at h <;> omega
theorem bv_toInt (v : Int32) : (v.toInt = (v.toBitVec.toNat : Int) ∧ v.toBitVec.toNat < 2147483648) ∨ (v.toInt = (v.toBitVec.toNat : Int) - 4294967296 ∧ 2147483648 ≤ v.toBitVec.toNat ∧ v.toBitVec.toNat < 4294967296) := by
  have h := bv_cases v.toInt
  rw [zI_of] at h
  have e : wr v.toInt = v.toInt := by
    show (Int32.ofInt v.toInt).toInt = v.toInt
    rw [Int32.ofInt_toInt]
  rw [e] at h
  exact h
theorem and_nat (a b : Int) : (zI a &&& zI b).toBitVec.toNat = (zI a).toBitVec.toNat &&& (zI b).toBitVec.toNat := BitVec.toNat_and _ _
theorem or_nat (a b : Int) : (zI a ||| zI b).toBitVec.toNat = (zI a).toBitVec.toNat ||| (zI b).toBitVec.toNat := BitVec.toNat_or _ _
theorem and_255 (a : Int) : sm_and a 255 = wr a % 256 := by
  have h := and_nat a 255
  have h2 : (zI 255).toBitVec.toNat = 2 ^ 8 - 1 := by decide
  rw [h2, Nat.and_two_pow_sub_one_eq_mod] at h
  have h3 := bv_toInt (zI a &&& zI 255)
  have h4 := bv_cases a
  unfold sm_and
  omega
theorem and_15 (a : Int) : sm_and a 15 = wr a % 16 := by
  have h := and_nat a 15
  have h2 : (zI 15).toBitVec.toNat = 2 ^ 4 - 1 := by decide
  rw [h2, Nat.and_two_pow_sub_one_eq_mod] at h
  have h3 := bv_toInt (zI a &&& zI 15)
  have h4 := bv_cases a
  unfold sm_and
  omega
theorem and_3 (a : Int) : sm_and a 3 = wr a % 4 := by
  have h := and_nat a 3
  have h2 : (zI 3).toBitVec.toNat = 2 ^ 2 - 1 := by decide
  rw [h2, Nat.and_two_pow_sub_one_eq_mod] at h
  have h3 := bv_toInt (zI a &&& zI 3)
  have h4 := bv_cases a
  unfold sm_and
  omega
theorem and_1 (a : Int) : sm_and a 1 = wr a % 2 := by
  have h := and_nat a 1
  have h2 : (zI 1).toBitVec.toNat = 2 ^ 1 - 1 := by decide
  rw [h2, Nat.and_two_pow_sub_one_eq_mod] at h
  have h3 := bv_toInt (zI a &&& zI 1)
  have h4 := bv_cases a
  unfold sm_and
  omega
theorem and_31 (a : Int) : sm_and a 31 = wr a % 32 := by
  have h := and_nat a 31
  have h2 : (zI 31).toBitVec.toNat = 2 ^ 5 - 1 := by decide
  rw [h2, Nat.and_two_pow_sub_one_eq_mod] at h
  have h3 := bv_toInt (zI a &&& zI 31)
  have h4 := bv_cases a
  unfold sm_and
  omega
theorem ushr_nat (a : Int) (s : Nat) (hs : s < 32) : ((zI a).toUInt32 >>> ((zI (s : Int)).toUInt32 &&& Int32.toUInt32 31)).toInt32.toBitVec.toNat = (zI a).toBitVec.toNat >>> s := by
  have e1 : ((zI a).toUInt32 >>> ((zI (s : Int)).toUInt32 &&& Int32.toUInt32 31)).toInt32.toBitVec = (zI a).toBitVec >>> (((zI (s : Int)).toBitVec &&& 31#32) % 32#32) := rfl
  have e2 : (((zI (s : Int)).toBitVec &&& 31#32) % 32#32).toNat = s := by
    have h : (zI (s : Int)).toBitVec.toNat = s := by
      have := bv_cases (s : Int)
      rw [wr_id (by omega) (by omega)] at this
      omega
    rw [BitVec.toNat_umod, BitVec.toNat_and, h]
    have : s &&& (31#32).toNat = s % 32 := Nat.and_two_pow_sub_one_eq_mod s 5
    rw [this]
    show s % 32 % 32 = s
    omega
  rw [e1, BitVec.ushiftRight_eq', BitVec.toNat_ushiftRight, e2]
theorem ushr_eq (a : Int) (s : Nat) (hs : s = 8 ∨ s = 16 ∨ s = 24 ∨ s = 0) : wr (sm_ushr a (s : Int)) % 256 = (wr a / (2 ^ s : Nat)) % 256 := by
  have h := ushr_nat a s (by omega)
  have h1 := bv_toInt ((zI a).toUInt32 >>> ((zI (s : Int)).toUInt32 &&& Int32.toUInt32 31)).toInt32
  have h2 := bv_cases a
  have e : wr (sm_ushr a (s : Int)) = sm_ushr a (s : Int) := by
    unfold sm_ushr
    show (Int32.ofInt _).toInt = _
    rw [Int32.ofInt_toInt]
  rw [e]
  unfold sm_ushr
  rw [Nat.shiftRight_eq_div_pow] at h
  rcases hs with rfl | rfl | rfl | rfl <;> omega
