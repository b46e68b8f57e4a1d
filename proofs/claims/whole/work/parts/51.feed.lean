theorem shr_bv (a : Int) (s : Nat) (hs : s < 32) : sm_shr a (s : Int) = wr a / (2 ^ s : Nat) := by
  have h : (zI (s : Int)).toBitVec.toNat = s := by
    have := bv_cases (s : Int)
    rw [wr_id (by omega) (by omega)] at this
    omega
  have e1 : (zI a >>> (zI (s : Int) &&& 31)).toBitVec = (zI a).toBitVec.sshiftRight' (((zI (s : Int)).toBitVec &&& 31#32).smod 32#32) := rfl
  have e3 : (((zI (s : Int)).toBitVec &&& 31#32)).toNat = s := by
    rw [BitVec.toNat_and, h]
    have : s &&& (31#32).toNat = s % 32 := Nat.and_two_pow_sub_one_eq_mod s 5
    rw [this]
    omega
  have e4 : ((zI (s : Int)).toBitVec &&& 31#32) = BitVec.ofNat 32 s := by
    apply BitVec.eq_of_toNat_eq
    rw [e3, BitVec.toNat_ofNat]
    omega
  have e2 : ((((zI (s : Int)).toBitVec &&& 31#32).smod 32#32)).toNat = s := by
    rw [e4]
    have : ∀ s : Fin 32, (((BitVec.ofNat 32 s.val).smod 32#32)).toNat = s.val := by decide
    exact this ⟨s, hs⟩
  unfold sm_shr
  have e5 : (zI a >>> (zI (s : Int) &&& 31)).toInt = (zI a >>> (zI (s : Int) &&& 31)).toBitVec.toInt := rfl
  rw [e5, e1]
  show ((zI a).toBitVec.sshiftRight (((zI (s : Int)).toBitVec &&& 31#32).smod 32#32).toNat).toInt = _
  rw [e2, BitVec.toInt_sshiftRight, Int.shiftRight_eq_div_pow]
  rfl
theorem byte_c (a : Int) (s : Nat) (hs : s = 8 ∨ s = 16 ∨ s = 24 ∨ s = 0) : sm_and (sm_ushr a (s : Int)) 255 = wr a / (2 ^ s : Nat) % 256 := by
  rw [and_255, ushr_eq a s hs]
theorem byte_m (a : Int) (s : Nat) (hs : s = 8 ∨ s = 16 ∨ s = 24 ∨ s = 0) : sm_and (sm_shr a (s : Int)) 255 = wr a / (2 ^ s : Nat) % 256 := by
  have h := wr_in a
  unfold inR at h
  rw [and_255, shr_bv a s (by omega)]
  rw [wr_id]
  · rcases hs with rfl | rfl | rfl | rfl <;> omega
  · rcases hs with rfl | rfl | rfl | rfl <;> omega
/-- m numbers are put into a row from place t on, and the counter goes on -/
def fdS (Z : Nat → Nat → Int) (r q s : Nat) (f : Nat → Int) (t m : Nat) : Nat → Nat → Int := fun a j => if a = q ∧ j = s then ((t + m : Nat) : Int) else if a = r ∧ t ≤ j ∧ j < t + m then f (j - t) else Z a j
theorem fdS_step (Z : Nat → Nat → Int) (r q s : Nat) (f : Nat → Int) (t m : Nat) (hrq : r ≠ q) : fdS (sm_u (sm_u Z r t (f 0)) q s ((t : Int) + 1)) r q s (fun i => f (i + 1)) (t + 1) m = fdS Z r q s f t (m + 1) := by
  funext a j
  simp only [fdS, sm_u]
  by_cases h1 : a = q ∧ j = s
  · rw [if_pos h1, if_pos h1]; omega
  · rw [if_neg h1, if_neg h1, if_neg h1]
    by_cases h2 : a = r ∧ j = t
    · rw [if_neg (by omega), if_pos h2, if_pos (by omega), h2.2, Nat.sub_self]
    · rw [if_neg h2]
      by_cases h3 : a = r ∧ t + 1 ≤ j ∧ j < t + 1 + m
      · rw [if_pos h3, if_pos (by omega), show j - (t + 1) + 1 = j - t by omega]
      · rw [if_neg h3, if_neg (by omega)]
theorem fdS_zero (Z : Nat → Nat → Int) (r q s : Nat) (f : Nat → Int) (t : Nat) (h : Z q s = (t : Int)) : fdS Z r q s f t 0 = Z := by
  funext a j
  simp only [fdS]
  by_cases h1 : a = q ∧ j = s
  · rw [if_pos h1, h1.1, h1.2, h]; rfl
  · rw [if_neg h1, if_neg (by omega)]
theorem fdS_fdS (Z : Nat → Nat → Int) (r q s : Nat) (f g : Nat → Int) (t m k : Nat) (hrq : r ≠ q) : fdS (fdS Z r q s f t m) r q s g (t + m) k = fdS Z r q s (fun i => if i < m then f i else g (i - m)) t (m + k) := by
  funext a j
  simp only [fdS]
  by_cases h1 : a = q ∧ j = s
  · rw [if_pos h1, if_pos h1]; omega
  · rw [if_neg h1, if_neg h1, if_neg h1]
    by_cases h2 : a = r ∧ t + m ≤ j ∧ j < t + m + k
    · rw [if_pos h2, if_pos (by omega), if_neg (by omega), show j - (t + m) = j - t - m by omega]
    · rw [if_neg h2]
      by_cases h3 : a = r ∧ t ≤ j ∧ j < t + m
      · rw [if_pos h3, if_pos (by omega), if_pos (by omega)]
      · rw [if_neg h3, if_neg (by omega)]
theorem fdS_c (Z : Nat → Nat → Int) (r q s : Nat) (f : Nat → Int) (t m : Nat) : fdS Z r q s f t m q s = ((t + m : Nat) : Int) := by simp [fdS]
theorem fdS_congr (Z : Nat → Nat → Int) (r q s : Nat) (f g : Nat → Int) (t m : Nat) (h : ∀ i, i < m → f i = g i) : fdS Z r q s f t m = fdS Z r q s g t m := by
  funext a j
  simp only [fdS]
  by_cases h1 : a = q ∧ j = s
  · rw [if_pos h1, if_pos h1]
  · rw [if_neg h1, if_neg h1]
    by_cases h3 : a = r ∧ t ≤ j ∧ j < t + m
    · rw [if_pos h3, if_pos h3, h _ (by omega)]
    · rw [if_neg h3, if_neg h3]
def byt (x : Int) (i : Nat) : Int := wr x / (2 ^ (24 - 8 * i) : Nat) % 256
/-- the twenty bytes of five ints -/
def byF (a b c e f : Int) (k : Nat) : Int := byt (if k < 4 then a else if k < 8 then b else if k < 12 then c else if k < 16 then e else f) (k % 4)
section FEED
variable {d n z : Nat} {Rf : Nat → Nat → Option Nat} {K : Nat → Nat × Nat} {Q : Option sm_V → sm_S → Prop} {x a b c e f : Int}
theorem c_putBytes_loop (H : sm_sh Rf K) : ∀ (k i t : Nat) (Z : Nat → Nat → Int), i + k = 4 → Z 0 8 = (t : Int) → t + k ≤ 400 → sm_wp d 115 3 [some (.inr (some 0)), some (.inl x), some (.inl (24 - 8 * (i : Int)))] [] (Z, Rf, K, n, z) Q = Q none (fdS Z 77 0 8 (fun m => byt x (i + m)) t k, Rf, K, n, z) := by
  intro k
  induction k with
  | zero =>
    intro i t Z h ht h4
    have hi : i = 4 := by omega
    subst hi
    rw [b115_3, wr_id (by omega) (by omega), if_pos (by omega), b115_49, fdS_zero _ _ _ _ _ _ ht]
  | succ k ih =>
    intro i t Z h ht h4
    have hsh : (24 - 8 * (i : Int)) = ((24 - 8 * i : Nat) : Int) := by omega
    rw [b115_3, wr_id (by omega) (by omega), if_neg (by omega), b115_7, kk_0 H, ht]
    simp (disch := omega) only [wr_id, wr_b2i, wr_wr, b2i_eq0, b2i_eq1, b2i_01, sm_rem_eq, sm_div_eq, wl_m2, wl_m1, wl_0, wl_1, wl_2, wl_3, wl_4, wl_5, wl_6, wl_7, wl_8, wl_9, wl_10, wl_12, wl_13, wl_14, wl_16, wl_20, wl_21, wl_22, wl_23, wl_32, wl_36, wl_40, wl_41, wl_42, wl_43, wl_44, wl_45, wl_46, wl_47, wl_48, wl_57, wl_59, wl_60, wl_61, wl_62, wl_65, wl_90, wl_97, wl_99, wl_100, wl_121, wl_122, wl_140, wl_142, wl_143, wl_145, wl_147, wl_160, wl_161, wl_162, wl_242, wl_380, wl_400, wl_420, wl_820, wl_1340, wl_5480, wl_9999, true_and, and_true, true_or, or_true, if_true, if_false, and_self, or_self, false_and, and_false, false_or, or_false, not_true_eq_false, not_false_eq_true, Int.reduceEq, Int.reduceLT, Int.reduceLE, Int.reduceToNat, Int.reduceAdd, Int.reduceMul, Int.reduceSub, Int.reduceMod, Int.reduceDiv, Int.reduceNeg, Nat.reduceEqDiff, sm_rd_ok, sm_rd_ok2, sm_wt_ok, sm_cp_ok, Option.isSome_some, Option.getD_some, w_cont, Option.toList_some, Option.toList_none, List.cons_append, List.nil_append]
    rw [if_neg (by omega), b115_17, kk_0 H, rr_0_7 H, ht]
    simp (disch := omega) only [wr_id, wr_b2i, wr_wr, b2i_eq0, b2i_eq1, b2i_01, sm_rem_eq, sm_div_eq, wl_m2, wl_m1, wl_0, wl_1, wl_2, wl_3, wl_4, wl_5, wl_6, wl_7, wl_8, wl_9, wl_10, wl_12, wl_13, wl_14, wl_16, wl_20, wl_21, wl_22, wl_23, wl_32, wl_36, wl_40, wl_41, wl_42, wl_43, wl_44, wl_45, wl_46, wl_47, wl_48, wl_57, wl_59, wl_60, wl_61, wl_62, wl_65, wl_90, wl_97, wl_99, wl_100, wl_121, wl_122, wl_140, wl_142, wl_143, wl_145, wl_147, wl_160, wl_161, wl_162, wl_242, wl_380, wl_400, wl_420, wl_820, wl_1340, wl_5480, wl_9999, true_and, and_true, true_or, or_true, if_true, if_false, and_self, or_self, false_and, and_false, false_or, or_false, not_true_eq_false, not_false_eq_true, Int.reduceEq, Int.reduceLT, Int.reduceLE, Int.reduceToNat, Int.reduceAdd, Int.reduceMul, Int.reduceSub, Int.reduceMod, Int.reduceDiv, Int.reduceNeg, Nat.reduceEqDiff, sm_rd_ok, sm_rd_ok2, sm_wt_ok, sm_cp_ok, Option.isSome_some, Option.getD_some, w_cont, Option.toList_some, Option.toList_none, List.cons_append, List.nil_append, kk_77 H, Int.toNat_natCast]
    rw [b115_43, sm_u_ne (by decide), ht, show (24 - 8 * (i : Int) + -8) = 24 - 8 * ((i + 1 : Nat) : Int) by omega, ih (i + 1) (t + 1) _ (by omega) (by simp [sm_u]) (by omega)]
    congr 1
    have e := fdS_step Z 77 0 8 (fun m => byt x (i + m)) t k (by decide)
    rw [← e, hsh, byte_c x _ (by omega)]
    simp only [byt, Nat.add_zero]
    congr 2
    funext m
    rw [show i + 1 + m = i + (m + 1) by omega]
theorem c_putBytes {Z : Nat → Nat → Int} (H : sm_sh Rf K) (t : Nat) (ht : Z 0 8 = (t : Int)) (h4 : t + 4 ≤ 400) : sm_call d 115 [.inr (some 0), .inl x] (Z, Rf, K, n, z) Q = Q none (fdS Z 77 0 8 (byt x) t 4, Rf, K, n, z) := by
  rw [ce115, b115_0]
  have e := c_putBytes_loop (d := d) (n := n) (z := z) (Q := Q) (x := x) H 4 0 t Z (by omega) ht h4
  simp only [Nat.zero_add] at e
  exact e
theorem c_feed {Z : Nat → Nat → Int} (H : sm_sh Rf K) (t : Nat) (ht : Z 0 8 = (t : Int)) (h4 : t ≤ 400) : sm_call (d + 1) 93 [.inr (some 0), .inl a, .inl b, .inl c, .inl e, .inl f] (Z, Rf, K, n, z) Q = if t ≤ 380 then Q (some (.inl (t + 20))) (fdS Z 77 0 8 (byF a b c e f) t 20, Rf, K, n, z) else Q (some (.inl (-1))) (Z, Rf, K, n, z) := by
  rw [ce93, b93_0, kk_0 H, ht, wr_id (by omega) (by omega)]
  by_cases hh : t ≤ 380
  · rw [if_pos (by omega), if_pos hh, b93_12, kk_0 H, c_putBytes H t ht (by omega), w_cont]
    simp only [wr_id, wr_b2i, wr_wr, b2i_eq0, b2i_eq1, b2i_01, sm_rem_eq, sm_div_eq, wl_m2, wl_m1, wl_0, wl_1, wl_2, wl_3, wl_4, wl_5, wl_6, wl_7, wl_8, wl_9, wl_10, wl_12, wl_13, wl_14, wl_16, wl_20, wl_21, wl_22, wl_23, wl_32, wl_36, wl_40, wl_41, wl_42, wl_43, wl_44, wl_45, wl_46, wl_47, wl_48, wl_57, wl_59, wl_60, wl_61, wl_62, wl_65, wl_90, wl_97, wl_99, wl_100, wl_121, wl_122, wl_140, wl_142, wl_143, wl_145, wl_147, wl_160, wl_161, wl_162, wl_242, wl_380, wl_400, wl_420, wl_820, wl_1340, wl_5480, wl_9999, true_and, and_true, true_or, or_true, if_true, if_false, and_self, or_self, false_and, and_false, false_or, or_false, not_true_eq_false, not_false_eq_true, Int.reduceEq, Int.reduceLT, Int.reduceLE, Int.reduceToNat, Int.reduceAdd, Int.reduceMul, Int.reduceSub, Int.reduceMod, Int.reduceDiv, Int.reduceNeg, Nat.reduceEqDiff, sm_rd_ok, sm_rd_ok2, sm_wt_ok, sm_cp_ok, Option.isSome_some, Option.getD_some, w_cont, Option.toList_some, Option.toList_none, List.cons_append, List.nil_append]
    rw [b93_17, kk_0 H, c_putBytes H (t + 4) (fdS_c _ _ _ _ _ _ _) (by omega), w_cont, fdS_fdS _ _ _ _ _ _ _ _ _ (by decide)]
    simp only [wr_id, wr_b2i, wr_wr, b2i_eq0, b2i_eq1, b2i_01, sm_rem_eq, sm_div_eq, wl_m2, wl_m1, wl_0, wl_1, wl_2, wl_3, wl_4, wl_5, wl_6, wl_7, wl_8, wl_9, wl_10, wl_12, wl_13, wl_14, wl_16, wl_20, wl_21, wl_22, wl_23, wl_32, wl_36, wl_40, wl_41, wl_42, wl_43, wl_44, wl_45, wl_46, wl_47, wl_48, wl_57, wl_59, wl_60, wl_61, wl_62, wl_65, wl_90, wl_97, wl_99, wl_100, wl_121, wl_122, wl_140, wl_142, wl_143, wl_145, wl_147, wl_160, wl_161, wl_162, wl_242, wl_380, wl_400, wl_420, wl_820, wl_1340, wl_5480, wl_9999, true_and, and_true, true_or, or_true, if_true, if_false, and_self, or_self, false_and, and_false, false_or, or_false, not_true_eq_false, not_false_eq_true, Int.reduceEq, Int.reduceLT, Int.reduceLE, Int.reduceToNat, Int.reduceAdd, Int.reduceMul, Int.reduceSub, Int.reduceMod, Int.reduceDiv, Int.reduceNeg, Nat.reduceEqDiff, sm_rd_ok, sm_rd_ok2, sm_wt_ok, sm_cp_ok, Option.isSome_some, Option.getD_some, w_cont, Option.toList_some, Option.toList_none, List.cons_append, List.nil_append]
    rw [b93_22, kk_0 H, c_putBytes H (t + 8) (fdS_c _ _ _ _ _ _ _) (by omega), w_cont, fdS_fdS _ _ _ _ _ _ _ _ _ (by decide)]
    simp only [wr_id, wr_b2i, wr_wr, b2i_eq0, b2i_eq1, b2i_01, sm_rem_eq, sm_div_eq, wl_m2, wl_m1, wl_0, wl_1, wl_2, wl_3, wl_4, wl_5, wl_6, wl_7, wl_8, wl_9, wl_10, wl_12, wl_13, wl_14, wl_16, wl_20, wl_21, wl_22, wl_23, wl_32, wl_36, wl_40, wl_41, wl_42, wl_43, wl_44, wl_45, wl_46, wl_47, wl_48, wl_57, wl_59, wl_60, wl_61, wl_62, wl_65, wl_90, wl_97, wl_99, wl_100, wl_121, wl_122, wl_140, wl_142, wl_143, wl_145, wl_147, wl_160, wl_161, wl_162, wl_242, wl_380, wl_400, wl_420, wl_820, wl_1340, wl_5480, wl_9999, true_and, and_true, true_or, or_true, if_true, if_false, and_self, or_self, false_and, and_false, false_or, or_false, not_true_eq_false, not_false_eq_true, Int.reduceEq, Int.reduceLT, Int.reduceLE, Int.reduceToNat, Int.reduceAdd, Int.reduceMul, Int.reduceSub, Int.reduceMod, Int.reduceDiv, Int.reduceNeg, Nat.reduceEqDiff, sm_rd_ok, sm_rd_ok2, sm_wt_ok, sm_cp_ok, Option.isSome_some, Option.getD_some, w_cont, Option.toList_some, Option.toList_none, List.cons_append, List.nil_append]
    rw [b93_27, kk_0 H, c_putBytes H (t + 12) (fdS_c _ _ _ _ _ _ _) (by omega), w_cont, fdS_fdS _ _ _ _ _ _ _ _ _ (by decide)]
    simp only [wr_id, wr_b2i, wr_wr, b2i_eq0, b2i_eq1, b2i_01, sm_rem_eq, sm_div_eq, wl_m2, wl_m1, wl_0, wl_1, wl_2, wl_3, wl_4, wl_5, wl_6, wl_7, wl_8, wl_9, wl_10, wl_12, wl_13, wl_14, wl_16, wl_20, wl_21, wl_22, wl_23, wl_32, wl_36, wl_40, wl_41, wl_42, wl_43, wl_44, wl_45, wl_46, wl_47, wl_48, wl_57, wl_59, wl_60, wl_61, wl_62, wl_65, wl_90, wl_97, wl_99, wl_100, wl_121, wl_122, wl_140, wl_142, wl_143, wl_145, wl_147, wl_160, wl_161, wl_162, wl_242, wl_380, wl_400, wl_420, wl_820, wl_1340, wl_5480, wl_9999, true_and, and_true, true_or, or_true, if_true, if_false, and_self, or_self, false_and, and_false, false_or, or_false, not_true_eq_false, not_false_eq_true, Int.reduceEq, Int.reduceLT, Int.reduceLE, Int.reduceToNat, Int.reduceAdd, Int.reduceMul, Int.reduceSub, Int.reduceMod, Int.reduceDiv, Int.reduceNeg, Nat.reduceEqDiff, sm_rd_ok, sm_rd_ok2, sm_wt_ok, sm_cp_ok, Option.isSome_some, Option.getD_some, w_cont, Option.toList_some, Option.toList_none, List.cons_append, List.nil_append]
    rw [b93_33, kk_0 H, c_putBytes H (t + 16) (fdS_c _ _ _ _ _ _ _) (by omega), w_cont, fdS_fdS _ _ _ _ _ _ _ _ _ (by decide)]
    simp only [wr_id, wr_b2i, wr_wr, b2i_eq0, b2i_eq1, b2i_01, sm_rem_eq, sm_div_eq, wl_m2, wl_m1, wl_0, wl_1, wl_2, wl_3, wl_4, wl_5, wl_6, wl_7, wl_8, wl_9, wl_10, wl_12, wl_13, wl_14, wl_16, wl_20, wl_21, wl_22, wl_23, wl_32, wl_36, wl_40, wl_41, wl_42, wl_43, wl_44, wl_45, wl_46, wl_47, wl_48, wl_57, wl_59, wl_60, wl_61, wl_62, wl_65, wl_90, wl_97, wl_99, wl_100, wl_121, wl_122, wl_140, wl_142, wl_143, wl_145, wl_147, wl_160, wl_161, wl_162, wl_242, wl_380, wl_400, wl_420, wl_820, wl_1340, wl_5480, wl_9999, true_and, and_true, true_or, or_true, if_true, if_false, and_self, or_self, false_and, and_false, false_or, or_false, not_true_eq_false, not_false_eq_true, Int.reduceEq, Int.reduceLT, Int.reduceLE, Int.reduceToNat, Int.reduceAdd, Int.reduceMul, Int.reduceSub, Int.reduceMod, Int.reduceDiv, Int.reduceNeg, Nat.reduceEqDiff, sm_rd_ok, sm_rd_ok2, sm_wt_ok, sm_cp_ok, Option.isSome_some, Option.getD_some, w_cont, Option.toList_some, Option.toList_none, List.cons_append, List.nil_append]
    rw [b93_39, kk_0 H, fdS_c]
    simp only [wr_id, wr_b2i, wr_wr, b2i_eq0, b2i_eq1, b2i_01, sm_rem_eq, sm_div_eq, wl_m2, wl_m1, wl_0, wl_1, wl_2, wl_3, wl_4, wl_5, wl_6, wl_7, wl_8, wl_9, wl_10, wl_12, wl_13, wl_14, wl_16, wl_20, wl_21, wl_22, wl_23, wl_32, wl_36, wl_40, wl_41, wl_42, wl_43, wl_44, wl_45, wl_46, wl_47, wl_48, wl_57, wl_59, wl_60, wl_61, wl_62, wl_65, wl_90, wl_97, wl_99, wl_100, wl_121, wl_122, wl_140, wl_142, wl_143, wl_145, wl_147, wl_160, wl_161, wl_162, wl_242, wl_380, wl_400, wl_420, wl_820, wl_1340, wl_5480, wl_9999, true_and, and_true, true_or, or_true, if_true, if_false, and_self, or_self, false_and, and_false, false_or, or_false, not_true_eq_false, not_false_eq_true, Int.reduceEq, Int.reduceLT, Int.reduceLE, Int.reduceToNat, Int.reduceAdd, Int.reduceMul, Int.reduceSub, Int.reduceMod, Int.reduceDiv, Int.reduceNeg, Nat.reduceEqDiff, sm_rd_ok, sm_rd_ok2, sm_wt_ok, sm_cp_ok, Option.isSome_some, Option.getD_some, w_cont, Option.toList_some, Option.toList_none, List.cons_append, List.nil_append]
    rw [fdS_congr _ _ _ _ _ (byF a b c e f)]
    · rfl
    · intro i hi
      unfold byF
      have hc : i = 0 ∨ i = 1 ∨ i = 2 ∨ i = 3 ∨ i = 4 ∨ i = 5 ∨ i = 6 ∨ i = 7 ∨ i = 8 ∨ i = 9 ∨ i = 10 ∨ i = 11 ∨ i = 12 ∨ i = 13 ∨ i = 14 ∨ i = 15 ∨ i = 16 ∨ i = 17 ∨ i = 18 ∨ i = 19 := by omega
      rcases hc with rfl | rfl | rfl | rfl | rfl | rfl | rfl | rfl | rfl | rfl | rfl | rfl | rfl | rfl | rfl | rfl | rfl | rfl | rfl | rfl <;> rfl
  · rw [if_neg (by omega), if_neg hh, b93_10]
    simp only [wr_id, wr_b2i, wr_wr, b2i_eq0, b2i_eq1, b2i_01, sm_rem_eq, sm_div_eq, wl_m2, wl_m1, wl_0, wl_1, wl_2, wl_3, wl_4, wl_5, wl_6, wl_7, wl_8, wl_9, wl_10, wl_12, wl_13, wl_14, wl_16, wl_20, wl_21, wl_22, wl_23, wl_32, wl_36, wl_40, wl_41, wl_42, wl_43, wl_44, wl_45, wl_46, wl_47, wl_48, wl_57, wl_59, wl_60, wl_61, wl_62, wl_65, wl_90, wl_97, wl_99, wl_100, wl_121, wl_122, wl_140, wl_142, wl_143, wl_145, wl_147, wl_160, wl_161, wl_162, wl_242, wl_380, wl_400, wl_420, wl_820, wl_1340, wl_5480, wl_9999, true_and, and_true, true_or, or_true, if_true, if_false, and_self, or_self, false_and, and_false, false_or, or_false, not_true_eq_false, not_false_eq_true, Int.reduceEq, Int.reduceLT, Int.reduceLE, Int.reduceToNat, Int.reduceAdd, Int.reduceMul, Int.reduceSub, Int.reduceMod, Int.reduceDiv, Int.reduceNeg, Nat.reduceEqDiff, sm_rd_ok, sm_rd_ok2, sm_wt_ok, sm_cp_ok, Option.isSome_some, Option.getD_some, w_cont, Option.toList_some, Option.toList_none, List.cons_append, List.nil_append]
theorem m_feed_loop (H : sm_sh Rf K) : ∀ (k i t : Nat) (Z : Nat → Nat → Int) (l7 : Option sm_V), i + k = 20 → Z 79 14 = (t : Int) → t + k ≤ 400 → sm_wp d 136 18 [some (.inr (some 79)), some (.inl a), some (.inl b), some (.inl c), some (.inl e), some (.inl f), some (.inl (i : Int)), l7] [] (Z, Rf, K, n, z) Q = Q (some (.inl ((t + k : Nat) : Int))) (fdS Z 86 79 14 (fun m => byF a b c e f (i + m)) t k, Rf, K, n, z) := by
  intro k
  induction k with
  | zero =>
    intro i t Z l7 h ht h4
    have hi : i = 20 := by omega
    subst hi
    rw [b136_18, wr_id (by omega) (by omega), if_pos (by omega), b136_115, kk_79 H, fdS_zero _ _ _ _ _ _ ht, ht]
    simp only [wr_id, wr_b2i, wr_wr, b2i_eq0, b2i_eq1, b2i_01, sm_rem_eq, sm_div_eq, wl_m2, wl_m1, wl_0, wl_1, wl_2, wl_3, wl_4, wl_5, wl_6, wl_7, wl_8, wl_9, wl_10, wl_12, wl_13, wl_14, wl_16, wl_20, wl_21, wl_22, wl_23, wl_32, wl_36, wl_40, wl_41, wl_42, wl_43, wl_44, wl_45, wl_46, wl_47, wl_48, wl_57, wl_59, wl_60, wl_61, wl_62, wl_65, wl_90, wl_97, wl_99, wl_100, wl_121, wl_122, wl_140, wl_142, wl_143, wl_145, wl_147, wl_160, wl_161, wl_162, wl_242, wl_380, wl_400, wl_420, wl_820, wl_1340, wl_5480, wl_9999, true_and, and_true, true_or, or_true, if_true, if_false, and_self, or_self, false_and, and_false, false_or, or_false, not_true_eq_false, not_false_eq_true, Int.reduceEq, Int.reduceLT, Int.reduceLE, Int.reduceToNat, Int.reduceAdd, Int.reduceMul, Int.reduceSub, Int.reduceMod, Int.reduceDiv, Int.reduceNeg, Nat.reduceEqDiff, sm_rd_ok, sm_rd_ok2, sm_wt_ok, sm_cp_ok, Option.isSome_some, Option.getD_some, w_cont, Option.toList_some, Option.toList_none, List.cons_append, List.nil_append]
    rfl
  | succ k ih =>
    intro i t Z l7 h ht h4
    have hsh : (24 - 8 * ((i : Int) % 4)) = ((24 - 8 * (i % 4) : Nat) : Int) := by omega
    have key : ∀ (v : Int), v = (if i < 4 then a else if i < 8 then b else if i < 12 then c else if i < 16 then e else f) → sm_wp d 136 71 [some (.inr (some 79)), some (.inl a), some (.inl b), some (.inl c), some (.inl e), some (.inl f), some (.inl (i : Int)), l7] [.inl v] (Z, Rf, K, n, z) Q = Q (some (.inl ((t + (k + 1) : Nat) : Int))) (fdS Z 86 79 14 (fun m => byF a b c e f (i + m)) t (k + 1), Rf, K, n, z) := by
      intro v hv
      rw [b136_71, kk_79 H, rr_79_9 H, ht]
      simp (disch := omega) only [wr_id, wr_b2i, wr_wr, b2i_eq0, b2i_eq1, b2i_01, sm_rem_eq, sm_div_eq, wl_m2, wl_m1, wl_0, wl_1, wl_2, wl_3, wl_4, wl_5, wl_6, wl_7, wl_8, wl_9, wl_10, wl_12, wl_13, wl_14, wl_16, wl_20, wl_21, wl_22, wl_23, wl_32, wl_36, wl_40, wl_41, wl_42, wl_43, wl_44, wl_45, wl_46, wl_47, wl_48, wl_57, wl_59, wl_60, wl_61, wl_62, wl_65, wl_90, wl_97, wl_99, wl_100, wl_121, wl_122, wl_140, wl_142, wl_143, wl_145, wl_147, wl_160, wl_161, wl_162, wl_242, wl_380, wl_400, wl_420, wl_820, wl_1340, wl_5480, wl_9999, true_and, and_true, true_or, or_true, if_true, if_false, and_self, or_self, false_and, and_false, false_or, or_false, not_true_eq_false, not_false_eq_true, Int.reduceEq, Int.reduceLT, Int.reduceLE, Int.reduceToNat, Int.reduceAdd, Int.reduceMul, Int.reduceSub, Int.reduceMod, Int.reduceDiv, Int.reduceNeg, Nat.reduceEqDiff, sm_rd_ok, sm_rd_ok2, sm_wt_ok, sm_cp_ok, Option.isSome_some, Option.getD_some, w_cont, Option.toList_some, Option.toList_none, List.cons_append, List.nil_append, kk_86 H, Int.toNat_natCast]
      rw [sm_u_ne (by decide), ht, show (i : Int) + 1 = ((i + 1 : Nat) : Int) by omega, ih (i + 1) (t + 1) _ _ (by omega) (by simp [sm_u]) (by omega)]
      have e9 := fdS_step Z 86 79 14 (fun m => byF a b c e f (i + m)) t k (by decide)
      rw [← e9, hsh, byte_m v _ (by omega)]
      have ev : byF a b c e f (i + 0) = wr v / ((2 ^ (24 - 8 * (i % 4)) : Nat) : Int) % 256 := by
        rw [hv, Nat.add_zero]
        rfl
      rw [ev, show t + 1 + k = t + (k + 1) by omega]
      congr 4
      funext m
      rw [show i + 1 + m = i + (m + 1) by omega]
    rw [b136_18, wr_id (by omega) (by omega), if_neg (by omega), b136_25, wr_id (by omega) (by omega)]
    by_cases h1 : i < 4
    · rw [if_neg (by omega), b136_31]
      exact key a (by rw [if_pos h1])
    · rw [if_pos (by omega), b136_35, wr_id (by omega) (by omega)]
      by_cases h2 : i < 8
      · rw [if_neg (by omega), b136_42]
        exact key b (by rw [if_neg h1, if_pos h2])
      · rw [if_pos (by omega), b136_46, wr_id (by omega) (by omega)]
        by_cases h3 : i < 12
        · rw [if_neg (by omega), b136_53]
          exact key c (by rw [if_neg h1, if_neg h2, if_pos h3])
        · rw [if_pos (by omega), b136_57, wr_id (by omega) (by omega)]
          by_cases h5 : i < 16
          · rw [if_neg (by omega), b136_64]
            exact key e (by rw [if_neg h1, if_neg h2, if_neg h3, if_pos h5])
          · rw [if_pos (by omega), b136_69]
            exact key f (by rw [if_neg h1, if_neg h2, if_neg h3, if_neg h5])
theorem m_feed {Z : Nat → Nat → Int} (H : sm_sh Rf K) (t : Nat) (ht : Z 79 14 = (t : Int)) (h4 : t ≤ 400) : sm_call d 136 [.inr (some 79), .inl a, .inl b, .inl c, .inl e, .inl f] (Z, Rf, K, n, z) Q = if t ≤ 380 then Q (some (.inl (t + 20))) (fdS Z 86 79 14 (byF a b c e f) t 20, Rf, K, n, z) else Q (some (.inl (-1))) (Z, Rf, K, n, z) := by
  rw [ce136, b136_0, kk_79 H, ht, wr_id (by omega) (by omega)]
  by_cases hh : t ≤ 380
  · rw [if_pos (by omega), if_pos hh, b136_15]
    have e := m_feed_loop (d := d) (n := n) (z := z) (Q := Q) (a := a) (b := b) (c := c) (e := e) (f := f) H 20 0 t Z none (by omega) ht (by omega)
    simp only [Nat.zero_add] at e
    simp only [wr_id, wr_b2i, wr_wr, b2i_eq0, b2i_eq1, b2i_01, sm_rem_eq, sm_div_eq, wl_m2, wl_m1, wl_0, wl_1, wl_2, wl_3, wl_4, wl_5, wl_6, wl_7, wl_8, wl_9, wl_10, wl_12, wl_13, wl_14, wl_16, wl_20, wl_21, wl_22, wl_23, wl_32, wl_36, wl_40, wl_41, wl_42, wl_43, wl_44, wl_45, wl_46, wl_47, wl_48, wl_57, wl_59, wl_60, wl_61, wl_62, wl_65, wl_90, wl_97, wl_99, wl_100, wl_121, wl_122, wl_140, wl_142, wl_143, wl_145, wl_147, wl_160, wl_161, wl_162, wl_242, wl_380, wl_400, wl_420, wl_820, wl_1340, wl_5480, wl_9999, true_and, and_true, true_or, or_true, if_true, if_false, and_self, or_self, false_and, and_false, false_or, or_false, not_true_eq_false, not_false_eq_true, Int.reduceEq, Int.reduceLT, Int.reduceLE, Int.reduceToNat, Int.reduceAdd, Int.reduceMul, Int.reduceSub, Int.reduceMod, Int.reduceDiv, Int.reduceNeg, Nat.reduceEqDiff, sm_rd_ok, sm_rd_ok2, sm_wt_ok, sm_cp_ok, Option.isSome_some, Option.getD_some, w_cont, Option.toList_some, Option.toList_none, List.cons_append, List.nil_append]
    exact e
  · rw [if_neg (by omega), if_neg hh, b136_13]
    simp only [wr_id, wr_b2i, wr_wr, b2i_eq0, b2i_eq1, b2i_01, sm_rem_eq, sm_div_eq, wl_m2, wl_m1, wl_0, wl_1, wl_2, wl_3, wl_4, wl_5, wl_6, wl_7, wl_8, wl_9, wl_10, wl_12, wl_13, wl_14, wl_16, wl_20, wl_21, wl_22, wl_23, wl_32, wl_36, wl_40, wl_41, wl_42, wl_43, wl_44, wl_45, wl_46, wl_47, wl_48, wl_57, wl_59, wl_60, wl_61, wl_62, wl_65, wl_90, wl_97, wl_99, wl_100, wl_121, wl_122, wl_140, wl_142, wl_143, wl_145, wl_147, wl_160, wl_161, wl_162, wl_242, wl_380, wl_400, wl_420, wl_820, wl_1340, wl_5480, wl_9999, true_and, and_true, true_or, or_true, if_true, if_false, and_self, or_self, false_and, and_false, false_or, or_false, not_true_eq_false, not_false_eq_true, Int.reduceEq, Int.reduceLT, Int.reduceLE, Int.reduceToNat, Int.reduceAdd, Int.reduceMul, Int.reduceSub, Int.reduceMod, Int.reduceDiv, Int.reduceNeg, Nat.reduceEqDiff, sm_rd_ok, sm_rd_ok2, sm_wt_ok, sm_cp_ok, Option.isSome_some, Option.getD_some, w_cont, Option.toList_some, Option.toList_none, List.cons_append, List.nil_append]
end FEED
