/-- a stretch of row p is copied into row q -/
def sm_cr (Z : Nat → Nat → Int) (p q i l : Nat) : Nat → Nat → Int := fun a j => if a = q ∧ i ≤ j ∧ j < l then Z p j else Z a j
theorem sm_cr_none (Z : Nat → Nat → Int) (p q l : Nat) : sm_cr Z p q l l = Z := by
  funext a j
  simp only [sm_cr]
  rw [if_neg (by omega)]
theorem sm_cr_step (Z : Nat → Nat → Int) (p q i l : Nat) (hpq : p ≠ q) (h : i < l) : sm_cr (sm_u Z q i (Z p i)) p q (i + 1) l = sm_cr Z p q i l := by
  funext a j
  simp only [sm_cr, sm_u]
  by_cases h1 : a = q ∧ i + 1 ≤ j ∧ j < l
  · rw [if_pos h1, if_neg (by omega), if_pos (by omega)]
  · rw [if_neg h1]
    by_cases h2 : a = q ∧ j = i
    · rw [if_pos h2, if_pos (by omega), h2.2]
    · rw [if_neg h2, if_neg (by omega)]
theorem sm_mv_cr (Z : Nat → Nat → Int) (p q l : Nat) : sm_mv Z p q 0 0 (l : Int) = sm_cr Z p q 0 l := by
  funext a j
  simp only [sm_mv, sm_cr, sm_r, Int.toNat_zero, Int.toNat_natCast, Nat.zero_add, Nat.sub_zero, Nat.zero_le, true_and]
  by_cases h : a = q
  · subst h; simp
  · simp [h]
theorem sm_cr_ne {Z : Nat → Nat → Int} {p q i l a j : Nat} (h : a ≠ q) : sm_cr Z p q i l a j = Z a j := by simp [sm_cr, h]
theorem sm_fr_ne {Z : Nat → Nat → Int} {r i l a j : Nat} {v : Int} (h : a ≠ r) : sm_fr Z r i l v a j = Z a j := by simp [sm_fr, h]
section COPIES
variable {d n z : Nat} {Rf : Nat → Nat → Option Nat} {K : Nat → Nat × Nat} {Q : Option sm_V → sm_S → Prop} {r q : Nat} {v : Int}
theorem m_setsOut_loop (H : sm_sh Rf K) : ∀ (k i : Nat) (Z : Nat → Nat → Int), i + k = 1340 → sm_wp d 182 2 [some (.inr (some 79)), some (.inl (i : Int))] [] (Z, Rf, K, n, z) Q = Q none (sm_u (sm_cr Z 80 82 i 1340) 79 6 1, Rf, K, n, z) := by
  intro k
  induction k with
  | zero =>
    intro i Z h
    have hi : i = 1340 := by omega
    subst hi
    rw [b182_2, wr_id (by omega) (by omega), if_pos (by omega), b182_27, kk_79 H]
    simp (disch := omega) only [wr_id, wr_b2i, wr_wr, b2i_eq0, b2i_eq1, b2i_01, sm_rem_eq, sm_div_eq, wl_m2, wl_m1, wl_0, wl_1, wl_2, wl_3, wl_4, wl_5, wl_6, wl_7, wl_8, wl_9, wl_10, wl_12, wl_13, wl_14, wl_16, wl_20, wl_21, wl_22, wl_23, wl_32, wl_36, wl_40, wl_41, wl_42, wl_43, wl_44, wl_45, wl_46, wl_47, wl_48, wl_57, wl_59, wl_60, wl_61, wl_62, wl_65, wl_90, wl_97, wl_99, wl_100, wl_121, wl_122, wl_140, wl_142, wl_143, wl_145, wl_147, wl_160, wl_161, wl_162, wl_242, wl_380, wl_400, wl_420, wl_820, wl_1340, wl_5480, wl_9999, true_and, and_true, true_or, or_true, if_true, if_false, and_self, or_self, false_and, and_false, false_or, or_false, not_true_eq_false, not_false_eq_true, Int.reduceEq, Int.reduceLT, Int.reduceLE, Int.reduceToNat, Int.reduceAdd, Int.reduceMul, Int.reduceSub, Int.reduceMod, Int.reduceDiv, Int.reduceNeg, Nat.reduceEqDiff, sm_rd_ok, sm_rd_ok2, sm_wt_ok, sm_cp_ok, Option.isSome_some, Option.getD_some, w_cont, Option.toList_some, Option.toList_none, List.cons_append, List.nil_append]
    rw [sm_cr_none]
  | succ k ih =>
    intro i Z h
    rw [b182_2, wr_id (by omega) (by omega), if_neg (by omega), b182_9, kk_79 H, rr_79_0 H, rr_79_2 H]
    simp (disch := omega) only [wr_id, wr_b2i, wr_wr, b2i_eq0, b2i_eq1, b2i_01, sm_rem_eq, sm_div_eq, wl_m2, wl_m1, wl_0, wl_1, wl_2, wl_3, wl_4, wl_5, wl_6, wl_7, wl_8, wl_9, wl_10, wl_12, wl_13, wl_14, wl_16, wl_20, wl_21, wl_22, wl_23, wl_32, wl_36, wl_40, wl_41, wl_42, wl_43, wl_44, wl_45, wl_46, wl_47, wl_48, wl_57, wl_59, wl_60, wl_61, wl_62, wl_65, wl_90, wl_97, wl_99, wl_100, wl_121, wl_122, wl_140, wl_142, wl_143, wl_145, wl_147, wl_160, wl_161, wl_162, wl_242, wl_380, wl_400, wl_420, wl_820, wl_1340, wl_5480, wl_9999, true_and, and_true, true_or, or_true, if_true, if_false, and_self, or_self, false_and, and_false, false_or, or_false, not_true_eq_false, not_false_eq_true, Int.reduceEq, Int.reduceLT, Int.reduceLE, Int.reduceToNat, Int.reduceAdd, Int.reduceMul, Int.reduceSub, Int.reduceMod, Int.reduceDiv, Int.reduceNeg, Nat.reduceEqDiff, sm_rd_ok, sm_rd_ok2, sm_wt_ok, sm_cp_ok, Option.isSome_some, Option.getD_some, w_cont, Option.toList_some, Option.toList_none, List.cons_append, List.nil_append, kk_80 H, kk_82 H, Int.toNat_natCast]
    rw [show (i : Int) + 1 = ((i + 1 : Nat) : Int) by omega, ih (i + 1) _ (by omega), sm_cr_step _ _ _ _ _ (by decide) (by omega)]
theorem m_setsOut {Z : Nat → Nat → Int} (H : sm_sh Rf K) : sm_call d 182 [.inr (some 79)] (Z, Rf, K, n, z) Q = Q none (sm_u (sm_cr Z 80 82 0 1340) 79 6 1, Rf, K, n, z) := by
  rw [ce182, b182_0]
  exact m_setsOut_loop H 1340 0 Z (by omega)
theorem m_comesBack_loop (H : sm_sh Rf K) : ∀ (k i : Nat) (Z : Nat → Nat → Int), i + k = 1340 → sm_wp d 183 2 [some (.inr (some 79)), some (.inl (i : Int))] [] (Z, Rf, K, n, z) Q = Q none (sm_u (sm_cr Z 82 80 i 1340) 79 6 0, Rf, K, n, z) := by
  intro k
  induction k with
  | zero =>
    intro i Z h
    have hi : i = 1340 := by omega
    subst hi
    rw [b183_2, wr_id (by omega) (by omega), if_pos (by omega), b183_27, kk_79 H]
    simp (disch := omega) only [wr_id, wr_b2i, wr_wr, b2i_eq0, b2i_eq1, b2i_01, sm_rem_eq, sm_div_eq, wl_m2, wl_m1, wl_0, wl_1, wl_2, wl_3, wl_4, wl_5, wl_6, wl_7, wl_8, wl_9, wl_10, wl_12, wl_13, wl_14, wl_16, wl_20, wl_21, wl_22, wl_23, wl_32, wl_36, wl_40, wl_41, wl_42, wl_43, wl_44, wl_45, wl_46, wl_47, wl_48, wl_57, wl_59, wl_60, wl_61, wl_62, wl_65, wl_90, wl_97, wl_99, wl_100, wl_121, wl_122, wl_140, wl_142, wl_143, wl_145, wl_147, wl_160, wl_161, wl_162, wl_242, wl_380, wl_400, wl_420, wl_820, wl_1340, wl_5480, wl_9999, true_and, and_true, true_or, or_true, if_true, if_false, and_self, or_self, false_and, and_false, false_or, or_false, not_true_eq_false, not_false_eq_true, Int.reduceEq, Int.reduceLT, Int.reduceLE, Int.reduceToNat, Int.reduceAdd, Int.reduceMul, Int.reduceSub, Int.reduceMod, Int.reduceDiv, Int.reduceNeg, Nat.reduceEqDiff, sm_rd_ok, sm_rd_ok2, sm_wt_ok, sm_cp_ok, Option.isSome_some, Option.getD_some, w_cont, Option.toList_some, Option.toList_none, List.cons_append, List.nil_append]
    rw [sm_cr_none]
  | succ k ih =>
    intro i Z h
    rw [b183_2, wr_id (by omega) (by omega), if_neg (by omega), b183_9, kk_79 H, rr_79_0 H, rr_79_2 H]
    simp (disch := omega) only [wr_id, wr_b2i, wr_wr, b2i_eq0, b2i_eq1, b2i_01, sm_rem_eq, sm_div_eq, wl_m2, wl_m1, wl_0, wl_1, wl_2, wl_3, wl_4, wl_5, wl_6, wl_7, wl_8, wl_9, wl_10, wl_12, wl_13, wl_14, wl_16, wl_20, wl_21, wl_22, wl_23, wl_32, wl_36, wl_40, wl_41, wl_42, wl_43, wl_44, wl_45, wl_46, wl_47, wl_48, wl_57, wl_59, wl_60, wl_61, wl_62, wl_65, wl_90, wl_97, wl_99, wl_100, wl_121, wl_122, wl_140, wl_142, wl_143, wl_145, wl_147, wl_160, wl_161, wl_162, wl_242, wl_380, wl_400, wl_420, wl_820, wl_1340, wl_5480, wl_9999, true_and, and_true, true_or, or_true, if_true, if_false, and_self, or_self, false_and, and_false, false_or, or_false, not_true_eq_false, not_false_eq_true, Int.reduceEq, Int.reduceLT, Int.reduceLE, Int.reduceToNat, Int.reduceAdd, Int.reduceMul, Int.reduceSub, Int.reduceMod, Int.reduceDiv, Int.reduceNeg, Nat.reduceEqDiff, sm_rd_ok, sm_rd_ok2, sm_wt_ok, sm_cp_ok, Option.isSome_some, Option.getD_some, w_cont, Option.toList_some, Option.toList_none, List.cons_append, List.nil_append, kk_80 H, kk_82 H, Int.toNat_natCast]
    rw [show (i : Int) + 1 = ((i + 1 : Nat) : Int) by omega, ih (i + 1) _ (by omega), sm_cr_step _ _ _ _ _ (by decide) (by omega)]
theorem m_comesBack {Z : Nat → Nat → Int} (H : sm_sh Rf K) : sm_call d 183 [.inr (some 79)] (Z, Rf, K, n, z) Q = Q none (sm_u (sm_cr Z 82 80 0 1340) 79 6 0, Rf, K, n, z) := by
  rw [ce183, b183_0]
  exact m_comesBack_loop H 1340 0 Z (by omega)
theorem m_image_loop1 (H : sm_sh Rf K) : ∀ (k i : Nat) (Z : Nat → Nat → Int), i + k = 5480 → sm_wp d 195 15 [some (.inr (some 79)), some (.inl 1), some (.inl (i : Int))] [] (Z, Rf, K, n, z) Q = Q (some (.inl 1)) (sm_u (sm_cr Z 80 81 i 5480) 79 5 1, Rf, K, n, z) := by
  intro k
  induction k with
  | zero =>
    intro i Z h
    have hi : i = 5480 := by omega
    subst hi
    rw [b195_15, wr_id (by omega) (by omega), if_pos (by omega), b195_59, wl_1, if_neg (by omega), b195_68, kk_79 H]
    simp (disch := omega) only [wr_id, wr_b2i, wr_wr, b2i_eq0, b2i_eq1, b2i_01, sm_rem_eq, sm_div_eq, wl_m2, wl_m1, wl_0, wl_1, wl_2, wl_3, wl_4, wl_5, wl_6, wl_7, wl_8, wl_9, wl_10, wl_12, wl_13, wl_14, wl_16, wl_20, wl_21, wl_22, wl_23, wl_32, wl_36, wl_40, wl_41, wl_42, wl_43, wl_44, wl_45, wl_46, wl_47, wl_48, wl_57, wl_59, wl_60, wl_61, wl_62, wl_65, wl_90, wl_97, wl_99, wl_100, wl_121, wl_122, wl_140, wl_142, wl_143, wl_145, wl_147, wl_160, wl_161, wl_162, wl_242, wl_380, wl_400, wl_420, wl_820, wl_1340, wl_5480, wl_9999, true_and, and_true, true_or, or_true, if_true, if_false, and_self, or_self, false_and, and_false, false_or, or_false, not_true_eq_false, not_false_eq_true, Int.reduceEq, Int.reduceLT, Int.reduceLE, Int.reduceToNat, Int.reduceAdd, Int.reduceMul, Int.reduceSub, Int.reduceMod, Int.reduceDiv, Int.reduceNeg, Nat.reduceEqDiff, sm_rd_ok, sm_rd_ok2, sm_wt_ok, sm_cp_ok, Option.isSome_some, Option.getD_some, w_cont, Option.toList_some, Option.toList_none, List.cons_append, List.nil_append]
    rw [sm_cr_none]
  | succ k ih =>
    intro i Z h
    rw [b195_15, wr_id (by omega) (by omega), if_neg (by omega), b195_22, wl_1, if_neg (by omega), b195_26, kk_79 H, rr_79_0 H, rr_79_1 H, b195_53]
    simp (disch := omega) only [wr_id, wr_b2i, wr_wr, b2i_eq0, b2i_eq1, b2i_01, sm_rem_eq, sm_div_eq, wl_m2, wl_m1, wl_0, wl_1, wl_2, wl_3, wl_4, wl_5, wl_6, wl_7, wl_8, wl_9, wl_10, wl_12, wl_13, wl_14, wl_16, wl_20, wl_21, wl_22, wl_23, wl_32, wl_36, wl_40, wl_41, wl_42, wl_43, wl_44, wl_45, wl_46, wl_47, wl_48, wl_57, wl_59, wl_60, wl_61, wl_62, wl_65, wl_90, wl_97, wl_99, wl_100, wl_121, wl_122, wl_140, wl_142, wl_143, wl_145, wl_147, wl_160, wl_161, wl_162, wl_242, wl_380, wl_400, wl_420, wl_820, wl_1340, wl_5480, wl_9999, true_and, and_true, true_or, or_true, if_true, if_false, and_self, or_self, false_and, and_false, false_or, or_false, not_true_eq_false, not_false_eq_true, Int.reduceEq, Int.reduceLT, Int.reduceLE, Int.reduceToNat, Int.reduceAdd, Int.reduceMul, Int.reduceSub, Int.reduceMod, Int.reduceDiv, Int.reduceNeg, Nat.reduceEqDiff, sm_rd_ok, sm_rd_ok2, sm_wt_ok, sm_cp_ok, Option.isSome_some, Option.getD_some, w_cont, Option.toList_some, Option.toList_none, List.cons_append, List.nil_append, kk_80 H, kk_81 H, Int.toNat_natCast]
    rw [show (i : Int) + 1 = ((i + 1 : Nat) : Int) by omega, ih (i + 1) _ (by omega), sm_cr_step _ _ _ _ _ (by decide) (by omega)]
theorem m_image_loop0 (H : sm_sh Rf K) : ∀ (k i : Nat) (Z : Nat → Nat → Int), i + k = 5480 → sm_wp d 195 15 [some (.inr (some 79)), some (.inl 0), some (.inl (i : Int))] [] (Z, Rf, K, n, z) Q = Q (some (.inl 1)) (sm_u (sm_u (sm_cr Z 81 80 i 5480) 79 4 0) 79 5 1, Rf, K, n, z) := by
  intro k
  induction k with
  | zero =>
    intro i Z h
    have hi : i = 5480 := by omega
    subst hi
    rw [b195_15, wr_id (by omega) (by omega), if_pos (by omega), b195_59, wl_0, if_pos rfl, b195_63, kk_79 H, b195_68, kk_79 H]
    simp (disch := omega) only [wr_id, wr_b2i, wr_wr, b2i_eq0, b2i_eq1, b2i_01, sm_rem_eq, sm_div_eq, wl_m2, wl_m1, wl_0, wl_1, wl_2, wl_3, wl_4, wl_5, wl_6, wl_7, wl_8, wl_9, wl_10, wl_12, wl_13, wl_14, wl_16, wl_20, wl_21, wl_22, wl_23, wl_32, wl_36, wl_40, wl_41, wl_42, wl_43, wl_44, wl_45, wl_46, wl_47, wl_48, wl_57, wl_59, wl_60, wl_61, wl_62, wl_65, wl_90, wl_97, wl_99, wl_100, wl_121, wl_122, wl_140, wl_142, wl_143, wl_145, wl_147, wl_160, wl_161, wl_162, wl_242, wl_380, wl_400, wl_420, wl_820, wl_1340, wl_5480, wl_9999, true_and, and_true, true_or, or_true, if_true, if_false, and_self, or_self, false_and, and_false, false_or, or_false, not_true_eq_false, not_false_eq_true, Int.reduceEq, Int.reduceLT, Int.reduceLE, Int.reduceToNat, Int.reduceAdd, Int.reduceMul, Int.reduceSub, Int.reduceMod, Int.reduceDiv, Int.reduceNeg, Nat.reduceEqDiff, sm_rd_ok, sm_rd_ok2, sm_wt_ok, sm_cp_ok, Option.isSome_some, Option.getD_some, w_cont, Option.toList_some, Option.toList_none, List.cons_append, List.nil_append]
    rw [sm_cr_none]
  | succ k ih =>
    intro i Z h
    rw [b195_15, wr_id (by omega) (by omega), if_neg (by omega), b195_22, wl_0, if_pos rfl, b195_41, kk_79 H, rr_79_0 H, rr_79_1 H, b195_53]
    simp (disch := omega) only [wr_id, wr_b2i, wr_wr, b2i_eq0, b2i_eq1, b2i_01, sm_rem_eq, sm_div_eq, wl_m2, wl_m1, wl_0, wl_1, wl_2, wl_3, wl_4, wl_5, wl_6, wl_7, wl_8, wl_9, wl_10, wl_12, wl_13, wl_14, wl_16, wl_20, wl_21, wl_22, wl_23, wl_32, wl_36, wl_40, wl_41, wl_42, wl_43, wl_44, wl_45, wl_46, wl_47, wl_48, wl_57, wl_59, wl_60, wl_61, wl_62, wl_65, wl_90, wl_97, wl_99, wl_100, wl_121, wl_122, wl_140, wl_142, wl_143, wl_145, wl_147, wl_160, wl_161, wl_162, wl_242, wl_380, wl_400, wl_420, wl_820, wl_1340, wl_5480, wl_9999, true_and, and_true, true_or, or_true, if_true, if_false, and_self, or_self, false_and, and_false, false_or, or_false, not_true_eq_false, not_false_eq_true, Int.reduceEq, Int.reduceLT, Int.reduceLE, Int.reduceToNat, Int.reduceAdd, Int.reduceMul, Int.reduceSub, Int.reduceMod, Int.reduceDiv, Int.reduceNeg, Nat.reduceEqDiff, sm_rd_ok, sm_rd_ok2, sm_wt_ok, sm_cp_ok, Option.isSome_some, Option.getD_some, w_cont, Option.toList_some, Option.toList_none, List.cons_append, List.nil_append, kk_80 H, kk_81 H, Int.toNat_natCast]
    rw [show (i : Int) + 1 = ((i + 1 : Nat) : Int) by omega, ih (i + 1) _ (by omega), sm_cr_step _ _ _ _ _ (by decide) (by omega)]
theorem m_image1 {Z : Nat → Nat → Int} (H : sm_sh Rf K) : sm_call d 195 [.inr (some 79), .inl 1] (Z, Rf, K, n, z) Q = Q (some (.inl 1)) (sm_u (sm_cr Z 80 81 0 5480) 79 5 1, Rf, K, n, z) := by
  rw [ce195, b195_0, wl_1, if_neg (by omega), b195_13]
  exact m_image_loop1 H 5480 0 Z (by omega)
theorem m_image0 {Z : Nat → Nat → Int} (H : sm_sh Rf K) (h5 : Z 79 5 = 0 ∨ Z 79 5 = 1) : sm_call d 195 [.inr (some 79), .inl 0] (Z, Rf, K, n, z) Q = if Z 79 5 = 0 then Q (some (.inl 0)) (Z, Rf, K, n, z) else Q (some (.inl 1)) (sm_u (sm_u (sm_cr Z 81 80 0 5480) 79 4 0) 79 5 1, Rf, K, n, z) := by
  rw [ce195, b195_0, wl_0, if_pos rfl, b195_4, kk_79 H, wr_id (by omega) (by omega)]
  by_cases h : Z 79 5 = 0
  · rw [if_pos h, if_pos h, b195_11]
    simp only [wr_id, wr_b2i, wr_wr, b2i_eq0, b2i_eq1, b2i_01, sm_rem_eq, sm_div_eq, wl_m2, wl_m1, wl_0, wl_1, wl_2, wl_3, wl_4, wl_5, wl_6, wl_7, wl_8, wl_9, wl_10, wl_12, wl_13, wl_14, wl_16, wl_20, wl_21, wl_22, wl_23, wl_32, wl_36, wl_40, wl_41, wl_42, wl_43, wl_44, wl_45, wl_46, wl_47, wl_48, wl_57, wl_59, wl_60, wl_61, wl_62, wl_65, wl_90, wl_97, wl_99, wl_100, wl_121, wl_122, wl_140, wl_142, wl_143, wl_145, wl_147, wl_160, wl_161, wl_162, wl_242, wl_380, wl_400, wl_420, wl_820, wl_1340, wl_5480, wl_9999, true_and, and_true, true_or, or_true, if_true, if_false, and_self, or_self, false_and, and_false, false_or, or_false, not_true_eq_false, not_false_eq_true, Int.reduceEq, Int.reduceLT, Int.reduceLE, Int.reduceToNat, Int.reduceAdd, Int.reduceMul, Int.reduceSub, Int.reduceMod, Int.reduceDiv, Int.reduceNeg, Nat.reduceEqDiff, sm_rd_ok, sm_rd_ok2, sm_wt_ok, sm_cp_ok, Option.isSome_some, Option.getD_some, w_cont, Option.toList_some, Option.toList_none, List.cons_append, List.nil_append]
  · rw [if_neg h, if_neg h, b195_13]
    simp only [true_and]
    exact m_image_loop0 H 5480 0 Z (by omega)
theorem m_begins_loop1 {x1 x2 x3 : Int} (H : sm_sh Rf K) {Z0 : Nat → Nat → Int} : ∀ (k i : Nat) (Z : Nat → Nat → Int), i + k = 5480 → sm_wp d 118 10 [some (.inr (some 79)), some (.inl x1), some (.inl x2), some (.inl x3), some (.inl (i : Int))] [] (Z, Rf, K, n, z) Q = sm_wp d 118 32 [some (.inr (some 79)), some (.inl x1), some (.inl x2), some (.inl x3), some (.inl 5480)] [] (sm_fr Z 80 i 5480 0, Rf, K, n, z) Q := by
  intro k
  induction k with
  | zero =>
    intro i Z h
    have hi : i = 5480 := by omega
    subst hi
    rw [b118_10, wr_id (by omega) (by omega), if_pos (by omega), sm_fr_none]
    rfl
  | succ k ih =>
    intro i Z h
    rw [b118_10, wr_id (by omega) (by omega), if_neg (by omega), b118_18, kk_79 H, rr_79_0 H]
    simp (disch := omega) only [wr_id, wr_b2i, wr_wr, b2i_eq0, b2i_eq1, b2i_01, sm_rem_eq, sm_div_eq, wl_m2, wl_m1, wl_0, wl_1, wl_2, wl_3, wl_4, wl_5, wl_6, wl_7, wl_8, wl_9, wl_10, wl_12, wl_13, wl_14, wl_16, wl_20, wl_21, wl_22, wl_23, wl_32, wl_36, wl_40, wl_41, wl_42, wl_43, wl_44, wl_45, wl_46, wl_47, wl_48, wl_57, wl_59, wl_60, wl_61, wl_62, wl_65, wl_90, wl_97, wl_99, wl_100, wl_121, wl_122, wl_140, wl_142, wl_143, wl_145, wl_147, wl_160, wl_161, wl_162, wl_242, wl_380, wl_400, wl_420, wl_820, wl_1340, wl_5480, wl_9999, true_and, and_true, true_or, or_true, if_true, if_false, and_self, or_self, false_and, and_false, false_or, or_false, not_true_eq_false, not_false_eq_true, Int.reduceEq, Int.reduceLT, Int.reduceLE, Int.reduceToNat, Int.reduceAdd, Int.reduceMul, Int.reduceSub, Int.reduceMod, Int.reduceDiv, Int.reduceNeg, Nat.reduceEqDiff, sm_rd_ok, sm_rd_ok2, sm_wt_ok, sm_cp_ok, Option.isSome_some, Option.getD_some, w_cont, Option.toList_some, Option.toList_none, List.cons_append, List.nil_append, kk_80 H, Int.toNat_natCast]
    rw [show (i : Int) + 1 = ((i + 1 : Nat) : Int) by omega, ih (i + 1) _ (by omega), sm_fr_step _ _ _ _ _ (by omega)]
theorem m_begins_loop2 {x1 x2 x3 : Int} (H : sm_sh Rf K) : ∀ (k i : Nat) (Z : Nat → Nat → Int), i + k = 100 → sm_wp d 118 56 [some (.inr (some 79)), some (.inl x1), some (.inl x2), some (.inl x3), some (.inl (i : Int))] [] (Z, Rf, K, n, z) Q = sm_wp d 118 81 [some (.inr (some 79)), some (.inl x1), some (.inl x2), some (.inl x3), some (.inl 100)] [] (sm_fr Z 80 (420 + i) 520 1, Rf, K, n, z) Q := by
  intro k
  induction k with
  | zero =>
    intro i Z h
    have hi : i = 100 := by omega
    subst hi
    rw [b118_56, wr_id (by omega) (by omega), if_pos (by omega), sm_fr_none]
    rfl
  | succ k ih =>
    intro i Z h
    rw [b118_56, wr_id (by omega) (by omega), if_neg (by omega), b118_63, kk_79 H, rr_79_0 H]
    simp (disch := omega) only [wr_id, wr_b2i, wr_wr, b2i_eq0, b2i_eq1, b2i_01, sm_rem_eq, sm_div_eq, wl_m2, wl_m1, wl_0, wl_1, wl_2, wl_3, wl_4, wl_5, wl_6, wl_7, wl_8, wl_9, wl_10, wl_12, wl_13, wl_14, wl_16, wl_20, wl_21, wl_22, wl_23, wl_32, wl_36, wl_40, wl_41, wl_42, wl_43, wl_44, wl_45, wl_46, wl_47, wl_48, wl_57, wl_59, wl_60, wl_61, wl_62, wl_65, wl_90, wl_97, wl_99, wl_100, wl_121, wl_122, wl_140, wl_142, wl_143, wl_145, wl_147, wl_160, wl_161, wl_162, wl_242, wl_380, wl_400, wl_420, wl_820, wl_1340, wl_5480, wl_9999, true_and, and_true, true_or, or_true, if_true, if_false, and_self, or_self, false_and, and_false, false_or, or_false, not_true_eq_false, not_false_eq_true, Int.reduceEq, Int.reduceLT, Int.reduceLE, Int.reduceToNat, Int.reduceAdd, Int.reduceMul, Int.reduceSub, Int.reduceMod, Int.reduceDiv, Int.reduceNeg, Nat.reduceEqDiff, sm_rd_ok, sm_rd_ok2, sm_wt_ok, sm_cp_ok, Option.isSome_some, Option.getD_some, w_cont, Option.toList_some, Option.toList_none, List.cons_append, List.nil_append, kk_80 H]
    rw [show (i : Int) + 1 = ((i + 1 : Nat) : Int) by omega, ih (i + 1) _ (by omega), show (420 + (i : Int)).toNat = 420 + i by omega, show 420 + (i + 1) = 420 + i + 1 by omega, sm_fr_step _ _ _ _ _ (by omega)]
/-- the model's duchy anew -/
def m_new (Z : Nat → Nat → Int) (w h : Int) : Nat → Nat → Int := sm_u (m_clr (sm_fr (sm_u (sm_u (sm_u (sm_fr Z 80 0 5480 0) 80 2 (Z 80 2)) 80 0 w) 80 1 h) 80 420 520 1)) 79 4 0
theorem m_begins {Z : Nat → Nat → Int} {w h : Int} (H : sm_sh Rf K) : sm_call (d + 1) 118 [.inr (some 79), .inl w, .inl h] (Z, Rf, K, n, z) Q = Q none (m_new Z w h, Rf, K, n, z) := by
  rw [ce118, b118_0, kk_79 H, rr_79_0 H]
  simp (disch := omega) only [wr_id, wr_b2i, wr_wr, b2i_eq0, b2i_eq1, b2i_01, sm_rem_eq, sm_div_eq, wl_m2, wl_m1, wl_0, wl_1, wl_2, wl_3, wl_4, wl_5, wl_6, wl_7, wl_8, wl_9, wl_10, wl_12, wl_13, wl_14, wl_16, wl_20, wl_21, wl_22, wl_23, wl_32, wl_36, wl_40, wl_41, wl_42, wl_43, wl_44, wl_45, wl_46, wl_47, wl_48, wl_57, wl_59, wl_60, wl_61, wl_62, wl_65, wl_90, wl_97, wl_99, wl_100, wl_121, wl_122, wl_140, wl_142, wl_143, wl_145, wl_147, wl_160, wl_161, wl_162, wl_242, wl_380, wl_400, wl_420, wl_820, wl_1340, wl_5480, wl_9999, true_and, and_true, true_or, or_true, if_true, if_false, and_self, or_self, false_and, and_false, false_or, or_false, not_true_eq_false, not_false_eq_true, Int.reduceEq, Int.reduceLT, Int.reduceLE, Int.reduceToNat, Int.reduceAdd, Int.reduceMul, Int.reduceSub, Int.reduceMod, Int.reduceDiv, Int.reduceNeg, Nat.reduceEqDiff, sm_rd_ok, sm_rd_ok2, sm_wt_ok, sm_cp_ok, Option.isSome_some, Option.getD_some, w_cont, Option.toList_some, Option.toList_none, List.cons_append, List.nil_append, kk_80 H]
  have e := m_begins_loop1 (d := d + 1) (n := n) (z := z) (Q := Q) (x1 := w) (x2 := h) (x3 := Z 80 2) H (Z0 := Z) 5480 0 Z (by omega)
  rw [show (some (Sum.inl 0) : Option sm_V) = some (Sum.inl ((0 : Nat) : Int)) from rfl, e, b118_32, kk_79 H, rr_79_0 H]
  simp (disch := omega) only [wr_id, wr_b2i, wr_wr, b2i_eq0, b2i_eq1, b2i_01, sm_rem_eq, sm_div_eq, wl_m2, wl_m1, wl_0, wl_1, wl_2, wl_3, wl_4, wl_5, wl_6, wl_7, wl_8, wl_9, wl_10, wl_12, wl_13, wl_14, wl_16, wl_20, wl_21, wl_22, wl_23, wl_32, wl_36, wl_40, wl_41, wl_42, wl_43, wl_44, wl_45, wl_46, wl_47, wl_48, wl_57, wl_59, wl_60, wl_61, wl_62, wl_65, wl_90, wl_97, wl_99, wl_100, wl_121, wl_122, wl_140, wl_142, wl_143, wl_145, wl_147, wl_160, wl_161, wl_162, wl_242, wl_380, wl_400, wl_420, wl_820, wl_1340, wl_5480, wl_9999, true_and, and_true, true_or, or_true, if_true, if_false, and_self, or_self, false_and, and_false, false_or, or_false, not_true_eq_false, not_false_eq_true, Int.reduceEq, Int.reduceLT, Int.reduceLE, Int.reduceToNat, Int.reduceAdd, Int.reduceMul, Int.reduceSub, Int.reduceMod, Int.reduceDiv, Int.reduceNeg, Nat.reduceEqDiff, sm_rd_ok, sm_rd_ok2, sm_wt_ok, sm_cp_ok, Option.isSome_some, Option.getD_some, w_cont, Option.toList_some, Option.toList_none, List.cons_append, List.nil_append, kk_80 H]
  have e2 := m_begins_loop2 (d := d + 1) (n := n) (z := z) (Q := Q) (x1 := w) (x2 := h) (x3 := Z 80 2) H 100 0 (sm_u (sm_u (sm_u (sm_fr Z 80 0 5480 0) 80 2 (Z 80 2)) 80 0 w) 80 1 h) (by omega)
  rw [show (some (Sum.inl 0) : Option sm_V) = some (Sum.inl ((0 : Nat) : Int)) from rfl, e2, b118_81, kk_79 H, m_clears H, w_cont]
  simp only [true_and, Option.toList_none, List.nil_append]
  rw [b118_85, kk_79 H]
  simp only [true_and]
  rfl
theorem m_land {Z : Nat → Nat → Int} {w h : Int} (H : sm_sh Rf K) (hw : aI w) (hh : aI h) : sm_call (d + 2) 126 [.inr (some 79), .inl w, .inl h] (Z, Rf, K, n, z) Q = if (2 ≤ w ∧ w ≤ 10) ∧ (2 ≤ h ∧ h ≤ 10) then Q (some (.inl 1)) (m_new Z w h, Rf, K, n, z) else Q (some (.inl 0)) (Z, Rf, K, n, z) := by
  unfold aI at hw hh
  rw [ce126]
  repeat' first | (simp (disch := first | omega | assumption) only [wr_id, wr_b2i, wr_wr, b2i_eq0, b2i_eq1, b2i_01, sm_rem_eq, sm_div_eq, wl_m2, wl_m1, wl_0, wl_1, wl_2, wl_3, wl_4, wl_5, wl_6, wl_7, wl_8, wl_9, wl_10, wl_12, wl_13, wl_14, wl_16, wl_20, wl_21, wl_22, wl_23, wl_32, wl_36, wl_40, wl_41, wl_42, wl_43, wl_44, wl_45, wl_46, wl_47, wl_48, wl_57, wl_59, wl_60, wl_61, wl_62, wl_65, wl_90, wl_97, wl_99, wl_100, wl_121, wl_122, wl_140, wl_142, wl_143, wl_145, wl_147, wl_160, wl_161, wl_162, wl_242, wl_380, wl_400, wl_420, wl_820, wl_1340, wl_5480, wl_9999, true_and, and_true, true_or, or_true, if_true, if_false, and_self, or_self, false_and, and_false, false_or, or_false, not_true_eq_false, not_false_eq_true, Int.reduceEq, Int.reduceLT, Int.reduceLE, Int.reduceToNat, Int.reduceAdd, Int.reduceMul, Int.reduceSub, Int.reduceMod, Int.reduceDiv, Int.reduceNeg, Nat.reduceEqDiff, sm_rd_ok, sm_rd_ok2, sm_wt_ok, sm_cp_ok, Option.isSome_some, Option.getD_some, w_cont, Option.toList_some, Option.toList_none, List.cons_append, List.nil_append, m_isIn, isInB, m_begins H, kk_79 H, decide_eq_true_eq, decide_eq_false_iff_not]) | split | rw [b126_0] | rw [b126_7] | rw [b126_10] | rw [b126_17] | rw [b126_20] | rw [b126_22] | rw [b126_28]
  all_goals (try first | rfl | omega | (exfalso; omega))
end COPIES
