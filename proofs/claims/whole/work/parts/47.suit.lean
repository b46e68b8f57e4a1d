def ab (a b : Int) : Int := if a < b then b - a else a - b
/-- the first of the nearest, of k from i on -/
def nearR (f : Nat → Int) : Nat → Nat → Int → Int → Int
  | 0, _, best, _ => best
  | k + 1, i, best, least => if best = -1 ∨ f i < least then nearR f k (i + 1) (i : Int) (f i) else nearR f k (i + 1) best least
theorem nearR_congr {f g : Nat → Int} : ∀ (k i : Nat) (b l : Int), (∀ j, i ≤ j → j < i + k → f j = g j) → nearR f k i b l = nearR g k i b l
  | 0, _, _, _, _ => rfl
  | k + 1, i, b, l, h => by
    simp only [nearR]
    rw [h i (Nat.le_refl _) (by omega), nearR_congr k (i + 1) _ _ (fun j h1 h2 => h j (by omega) (by omega)), nearR_congr k (i + 1) _ _ (fun j h1 h2 => h j (by omega) (by omega))]
/-- is one of the k from i on -/
def anyR (P : Nat → Bool) : Nat → Nat → Bool
  | 0, _ => false
  | k + 1, i => P i || anyR P k (i + 1)
section SUIT
variable {d n z : Nat} {Rf : Nat → Nat → Option Nat} {K : Nat → Nat × Nat} {Q : Option sm_V → sm_S → Prop} {Z : Nat → Nat → Int} {x y c i w : Int}
theorem c_countYards_loop (H : sm_sh Rf K) (hb : ∀ j, j < 242 → aI (Z 22 j)) : ∀ (k i : Nat) (m : Int), i + k = 242 → sm_wp d 81 4 [some (.inr (some 21)), some (.inl m), some (.inl (i : Int))] [] (Z, Rf, K, n, z) Q = Q (some (.inl (m + cntR (fun j => decide (¬ Z 22 j = -1)) i k))) (Z, Rf, K, n, z) := by
  intro k
  induction k with
  | zero =>
    intro i m h
    have hi : i = 242 := by omega
    subst hi
    rw [b81_4, wr_id (by omega) (by omega), if_pos (by omega), b81_30]
    simp [cntR]
  | succ k ih =>
    intro i m h
    have hbi := hb i (by omega)
    unfold aI at hbi
    rw [b81_4, wr_id (by omega) (by omega), if_neg (by omega), b81_11, kk_21 H, rr_21_0 H]
    simp (disch := omega) only [wr_id, wr_b2i, wr_wr, b2i_eq0, b2i_eq1, b2i_01, sm_rem_eq, sm_div_eq, wl_m2, wl_m1, wl_0, wl_1, wl_2, wl_3, wl_4, wl_5, wl_6, wl_7, wl_8, wl_9, wl_10, wl_12, wl_13, wl_14, wl_16, wl_20, wl_21, wl_22, wl_23, wl_32, wl_36, wl_40, wl_41, wl_42, wl_43, wl_44, wl_45, wl_46, wl_47, wl_48, wl_57, wl_59, wl_60, wl_61, wl_62, wl_65, wl_90, wl_97, wl_99, wl_100, wl_121, wl_122, wl_140, wl_142, wl_143, wl_145, wl_147, wl_160, wl_161, wl_162, wl_242, wl_380, wl_400, wl_420, wl_820, wl_1340, wl_5480, wl_9999, true_and, and_true, true_or, or_true, if_true, if_false, and_self, or_self, false_and, and_false, false_or, or_false, not_true_eq_false, not_false_eq_true, Int.reduceEq, Int.reduceLT, Int.reduceLE, Int.reduceToNat, Int.reduceAdd, Int.reduceMul, Int.reduceSub, Int.reduceMod, Int.reduceDiv, Int.reduceNeg, Nat.reduceEqDiff, sm_rd_ok, sm_rd_ok2, sm_wt_ok, sm_cp_ok, Option.isSome_some, Option.getD_some, w_cont, Option.toList_some, Option.toList_none, List.cons_append, List.nil_append, kk_22 H, Int.toNat_natCast]
    by_cases hP : Z 22 i = -1
    · rw [if_pos hP, b81_24, show (i : Int) + 1 = ((i + 1 : Nat) : Int) by omega, ih (i + 1) _ (by omega)]
      simp [cntR, hP]
    · rw [if_neg hP, b81_21, b81_24, show (i : Int) + 1 = ((i + 1 : Nat) : Int) by omega, ih (i + 1) _ (by omega)]
      simp only [cntR, hP, not_false_eq_true, decide_true, if_true]
      rw [Int.add_assoc]
theorem c_countYards (H : sm_sh Rf K) (hb : ∀ j, j < 242 → aI (Z 22 j)) : sm_call d 81 [.inr (some 21)] (Z, Rf, K, n, z) Q = Q (some (.inl (cntR (fun j => decide (¬ Z 22 j = -1)) 0 242))) (Z, Rf, K, n, z) := by
  rw [ce81, b81_0]
  have e := c_countYards_loop (d := d) (n := n) (z := z) (Q := Q) H hb 242 0 0 (by omega)
  rw [Int.zero_add] at e
  exact e
theorem m_threads_loop (H : sm_sh Rf K) (hb : ∀ j, j < 242 → aI (Z 80 (850 + j))) : ∀ (k i : Nat) (m : Int), i + k = 242 → sm_wp d 197 4 [some (.inr (some 79)), some (.inl m), some (.inl (i : Int))] [] (Z, Rf, K, n, z) Q = Q (some (.inl (m + cntR (fun j => decide (¬ Z 80 (850 + j) = -1)) i k))) (Z, Rf, K, n, z) := by
  intro k
  induction k with
  | zero =>
    intro i m h
    have hi : i = 242 := by omega
    subst hi
    rw [b197_4, wr_id (by omega) (by omega), if_pos (by omega), b197_39]
    simp [cntR]
  | succ k ih =>
    intro i m h
    have hbi := hb i (by omega)
    unfold aI at hbi
    have n1 : (850 + (i : Int)).toNat = 850 + i := by omega
    rw [b197_4, wr_id (by omega) (by omega), if_neg (by omega), b197_11, kk_79 H, rr_79_0 H]
    simp (disch := omega) only [wr_id, wr_b2i, wr_wr, b2i_eq0, b2i_eq1, b2i_01, sm_rem_eq, sm_div_eq, wl_m2, wl_m1, wl_0, wl_1, wl_2, wl_3, wl_4, wl_5, wl_6, wl_7, wl_8, wl_9, wl_10, wl_12, wl_13, wl_14, wl_16, wl_20, wl_21, wl_22, wl_23, wl_32, wl_36, wl_40, wl_41, wl_42, wl_43, wl_44, wl_45, wl_46, wl_47, wl_48, wl_57, wl_59, wl_60, wl_61, wl_62, wl_65, wl_90, wl_97, wl_99, wl_100, wl_121, wl_122, wl_140, wl_142, wl_143, wl_145, wl_147, wl_160, wl_161, wl_162, wl_242, wl_380, wl_400, wl_420, wl_820, wl_1340, wl_5480, wl_9999, true_and, and_true, true_or, or_true, if_true, if_false, and_self, or_self, false_and, and_false, false_or, or_false, not_true_eq_false, not_false_eq_true, Int.reduceEq, Int.reduceLT, Int.reduceLE, Int.reduceToNat, Int.reduceAdd, Int.reduceMul, Int.reduceSub, Int.reduceMod, Int.reduceDiv, Int.reduceNeg, Nat.reduceEqDiff, sm_rd_ok, sm_rd_ok2, sm_wt_ok, sm_cp_ok, Option.isSome_some, Option.getD_some, w_cont, Option.toList_some, Option.toList_none, List.cons_append, List.nil_append, kk_80 H, n1]
    by_cases hP : Z 80 (850 + i) = -1
    · rw [if_pos hP, b197_30, b197_31, show (i : Int) + 1 = ((i + 1 : Nat) : Int) by omega, ih (i + 1) _ (by omega)]
      simp [cntR, hP]
    · rw [if_neg hP, b197_26, b197_31, show (i : Int) + 1 = ((i + 1 : Nat) : Int) by omega, ih (i + 1) _ (by omega)]
      simp only [cntR, hP, not_false_eq_true, decide_true, if_true]
      rw [Int.add_assoc]
theorem m_threads (H : sm_sh Rf K) (hb : ∀ j, j < 242 → aI (Z 80 (850 + j))) : sm_call d 197 [.inr (some 79)] (Z, Rf, K, n, z) Q = Q (some (.inl (cntR (fun j => decide (¬ Z 80 (850 + j) = -1)) 0 242))) (Z, Rf, K, n, z) := by
  rw [ce197, b197_0]
  have e := m_threads_loop (d := d) (n := n) (z := z) (Q := Q) H hb 242 0 0 (by omega)
  rw [Int.zero_add] at e
  exact e
theorem c_nearest_loop (H : sm_sh Rf K) (N : Nat) (hN : Z 10 2 = (N : Int)) (hN6 : N ≤ 6) (hx : 0 ≤ x ∧ x ≤ 1000) (hy : 0 ≤ y ∧ y ≤ 1000) (hb : ∀ j, j < N → (0 ≤ Z 11 (5 * j) ∧ Z 11 (5 * j) ≤ 1000) ∧ (0 ≤ Z 11 (5 * j + 1) ∧ Z 11 (5 * j + 1) ≤ 1000)) : ∀ (k i : Nat) (best least : Int) (l6 : Option sm_V), i + k = N → -1 ≤ best ∧ best ≤ 10 → 0 ≤ least ∧ least ≤ 4000 → sm_wp (d + 1) 17 8 [some (.inr (some 1)), some (.inl x), some (.inl y), some (.inl best), some (.inl least), some (.inl (i : Int)), l6] [] (Z, Rf, K, n, z) Q = Q (some (.inl (nearR (fun j => ab (Z 11 (5 * j)) x + ab (Z 11 (5 * j + 1)) y) k i best least))) (Z, Rf, K, n, z) := by
  have hK10 : (K 10).1 = 5 := by rw [kk_10 H]
  intro k
  induction k with
  | zero =>
    intro i best least l6 h hbe hle
    have hi : i = N := by omega
    rw [b17_8, kk_1 H, rr_1_12 H]
    simp (disch := omega) only [wr_id, wr_b2i, wr_wr, b2i_eq0, b2i_eq1, b2i_01, sm_rem_eq, sm_div_eq, wl_m2, wl_m1, wl_0, wl_1, wl_2, wl_3, wl_4, wl_5, wl_6, wl_7, wl_8, wl_9, wl_10, wl_12, wl_13, wl_14, wl_16, wl_20, wl_21, wl_22, wl_23, wl_32, wl_36, wl_40, wl_41, wl_42, wl_43, wl_44, wl_45, wl_46, wl_47, wl_48, wl_57, wl_59, wl_60, wl_61, wl_62, wl_65, wl_90, wl_97, wl_99, wl_100, wl_121, wl_122, wl_140, wl_142, wl_143, wl_145, wl_147, wl_160, wl_161, wl_162, wl_242, wl_380, wl_400, wl_420, wl_820, wl_1340, wl_5480, wl_9999, true_and, and_true, true_or, or_true, if_true, if_false, and_self, or_self, false_and, and_false, false_or, or_false, not_true_eq_false, not_false_eq_true, Int.reduceEq, Int.reduceLT, Int.reduceLE, Int.reduceToNat, Int.reduceAdd, Int.reduceMul, Int.reduceSub, Int.reduceMod, Int.reduceDiv, Int.reduceNeg, Nat.reduceEqDiff, sm_rd_ok, sm_rd_ok2, sm_wt_ok, sm_cp_ok, Option.isSome_some, Option.getD_some, w_cont, Option.toList_some, Option.toList_none, List.cons_append, List.nil_append, kk_10 H]
    rw [if_pos (by omega), b17_78]
    rfl
  | succ k ih =>
    intro i best least l6 h hbe hle
    have hbi := hb i (by omega)
    have g0 : rGet Z 10 11 (i : Int) 0 = Z 11 (5 * i) := by
      unfold rGet
      rw [if_pos (by omega), show ((i : Int) * 5 + 0).toNat = 5 * i by omega]
    have g1 : rGet Z 10 11 (i : Int) 1 = Z 11 (5 * i + 1) := by
      unfold rGet
      rw [if_pos (by omega), show ((i : Int) * 5 + 1).toNat = 5 * i + 1 by omega]
    have hget := fun (c : Int) (hc : -2147483648 ≤ c ∧ c < 2147483648) (Q : Option sm_V → sm_S → Prop) => @c_get d n z Z Rf K Q 10 11 c (i : Int) 30 hK10 (rr_10_1 H) (kk_11 H) ⟨by omega, by omega, by omega⟩ ⟨by omega, by omega⟩ hc
    rw [b17_8, kk_1 H, rr_1_12 H]
    simp (disch := omega) only [wr_id, wr_b2i, wr_wr, b2i_eq0, b2i_eq1, b2i_01, sm_rem_eq, sm_div_eq, wl_m2, wl_m1, wl_0, wl_1, wl_2, wl_3, wl_4, wl_5, wl_6, wl_7, wl_8, wl_9, wl_10, wl_12, wl_13, wl_14, wl_16, wl_20, wl_21, wl_22, wl_23, wl_32, wl_36, wl_40, wl_41, wl_42, wl_43, wl_44, wl_45, wl_46, wl_47, wl_48, wl_57, wl_59, wl_60, wl_61, wl_62, wl_65, wl_90, wl_97, wl_99, wl_100, wl_121, wl_122, wl_140, wl_142, wl_143, wl_145, wl_147, wl_160, wl_161, wl_162, wl_242, wl_380, wl_400, wl_420, wl_820, wl_1340, wl_5480, wl_9999, true_and, and_true, true_or, or_true, if_true, if_false, and_self, or_self, false_and, and_false, false_or, or_false, not_true_eq_false, not_false_eq_true, Int.reduceEq, Int.reduceLT, Int.reduceLE, Int.reduceToNat, Int.reduceAdd, Int.reduceMul, Int.reduceSub, Int.reduceMod, Int.reduceDiv, Int.reduceNeg, Nat.reduceEqDiff, sm_rd_ok, sm_rd_ok2, sm_wt_ok, sm_cp_ok, Option.isSome_some, Option.getD_some, w_cont, Option.toList_some, Option.toList_none, List.cons_append, List.nil_append, kk_10 H]
    rw [if_neg (by omega), b17_20, kk_1 H, rr_1_12 H]
    simp (disch := omega) only [wr_id, wr_b2i, wr_wr, b2i_eq0, b2i_eq1, b2i_01, sm_rem_eq, sm_div_eq, wl_m2, wl_m1, wl_0, wl_1, wl_2, wl_3, wl_4, wl_5, wl_6, wl_7, wl_8, wl_9, wl_10, wl_12, wl_13, wl_14, wl_16, wl_20, wl_21, wl_22, wl_23, wl_32, wl_36, wl_40, wl_41, wl_42, wl_43, wl_44, wl_45, wl_46, wl_47, wl_48, wl_57, wl_59, wl_60, wl_61, wl_62, wl_65, wl_90, wl_97, wl_99, wl_100, wl_121, wl_122, wl_140, wl_142, wl_143, wl_145, wl_147, wl_160, wl_161, wl_162, wl_242, wl_380, wl_400, wl_420, wl_820, wl_1340, wl_5480, wl_9999, true_and, and_true, true_or, or_true, if_true, if_false, and_self, or_self, false_and, and_false, false_or, or_false, not_true_eq_false, not_false_eq_true, Int.reduceEq, Int.reduceLT, Int.reduceLE, Int.reduceToNat, Int.reduceAdd, Int.reduceMul, Int.reduceSub, Int.reduceMod, Int.reduceDiv, Int.reduceNeg, Nat.reduceEqDiff, sm_rd_ok, sm_rd_ok2, sm_wt_ok, sm_cp_ok, Option.isSome_some, Option.getD_some, w_cont, Option.toList_some, Option.toList_none, List.cons_append, List.nil_append, kk_10 H, hget, g0]
    rw [b17_30, kk_1 H, rr_1_12 H]
    simp (disch := omega) only [wr_id, wr_b2i, wr_wr, b2i_eq0, b2i_eq1, b2i_01, sm_rem_eq, sm_div_eq, wl_m2, wl_m1, wl_0, wl_1, wl_2, wl_3, wl_4, wl_5, wl_6, wl_7, wl_8, wl_9, wl_10, wl_12, wl_13, wl_14, wl_16, wl_20, wl_21, wl_22, wl_23, wl_32, wl_36, wl_40, wl_41, wl_42, wl_43, wl_44, wl_45, wl_46, wl_47, wl_48, wl_57, wl_59, wl_60, wl_61, wl_62, wl_65, wl_90, wl_97, wl_99, wl_100, wl_121, wl_122, wl_140, wl_142, wl_143, wl_145, wl_147, wl_160, wl_161, wl_162, wl_242, wl_380, wl_400, wl_420, wl_820, wl_1340, wl_5480, wl_9999, true_and, and_true, true_or, or_true, if_true, if_false, and_self, or_self, false_and, and_false, false_or, or_false, not_true_eq_false, not_false_eq_true, Int.reduceEq, Int.reduceLT, Int.reduceLE, Int.reduceToNat, Int.reduceAdd, Int.reduceMul, Int.reduceSub, Int.reduceMod, Int.reduceDiv, Int.reduceNeg, Nat.reduceEqDiff, sm_rd_ok, sm_rd_ok2, sm_wt_ok, sm_cp_ok, Option.isSome_some, Option.getD_some, w_cont, Option.toList_some, Option.toList_none, List.cons_append, List.nil_append, kk_10 H, hget, g1]
    have a0 : (if 0 ≤ Z 11 (5 * i) - x then Z 11 (5 * i) - x else 0 - (Z 11 (5 * i) - x)) = ab (Z 11 (5 * i)) x := by unfold ab; split <;> split <;> omega
    have a1 : (if 0 ≤ Z 11 (5 * i + 1) - y then Z 11 (5 * i + 1) - y else 0 - (Z 11 (5 * i + 1) - y)) = ab (Z 11 (5 * i + 1)) y := by unfold ab; split <;> split <;> omega
    have b0 : 0 ≤ ab (Z 11 (5 * i)) x ∧ ab (Z 11 (5 * i)) x ≤ 1000 := by unfold ab; split <;> omega
    have b1 : 0 ≤ ab (Z 11 (5 * i + 1)) y ∧ ab (Z 11 (5 * i + 1)) y ≤ 1000 := by unfold ab; split <;> omega
    rw [b17_45]
    simp (disch := omega) only [wr_id, wr_b2i, wr_wr, b2i_eq0, b2i_eq1, b2i_01, sm_rem_eq, sm_div_eq, wl_m2, wl_m1, wl_0, wl_1, wl_2, wl_3, wl_4, wl_5, wl_6, wl_7, wl_8, wl_9, wl_10, wl_12, wl_13, wl_14, wl_16, wl_20, wl_21, wl_22, wl_23, wl_32, wl_36, wl_40, wl_41, wl_42, wl_43, wl_44, wl_45, wl_46, wl_47, wl_48, wl_57, wl_59, wl_60, wl_61, wl_62, wl_65, wl_90, wl_97, wl_99, wl_100, wl_121, wl_122, wl_140, wl_142, wl_143, wl_145, wl_147, wl_160, wl_161, wl_162, wl_242, wl_380, wl_400, wl_420, wl_820, wl_1340, wl_5480, wl_9999, true_and, and_true, true_or, or_true, if_true, if_false, and_self, or_self, false_and, and_false, false_or, or_false, not_true_eq_false, not_false_eq_true, Int.reduceEq, Int.reduceLT, Int.reduceLE, Int.reduceToNat, Int.reduceAdd, Int.reduceMul, Int.reduceSub, Int.reduceMod, Int.reduceDiv, Int.reduceNeg, Nat.reduceEqDiff, sm_rd_ok, sm_rd_ok2, sm_wt_ok, sm_cp_ok, Option.isSome_some, Option.getD_some, w_cont, Option.toList_some, Option.toList_none, List.cons_append, List.nil_append, a0, a1]
    simp only [nearR]
    by_cases h1 : best = -1
    · rw [if_pos h1, if_pos (Or.inl h1), b17_65, b17_72, show (i : Int) + 1 = ((i + 1 : Nat) : Int) by omega, ih (i + 1) _ _ _ (by omega) (by omega) (by omega)]
    · rw [if_neg h1, b17_58]
      simp (disch := omega) only [wr_id, wr_b2i, wr_wr, b2i_eq0, b2i_eq1, b2i_01, sm_rem_eq, sm_div_eq, wl_m2, wl_m1, wl_0, wl_1, wl_2, wl_3, wl_4, wl_5, wl_6, wl_7, wl_8, wl_9, wl_10, wl_12, wl_13, wl_14, wl_16, wl_20, wl_21, wl_22, wl_23, wl_32, wl_36, wl_40, wl_41, wl_42, wl_43, wl_44, wl_45, wl_46, wl_47, wl_48, wl_57, wl_59, wl_60, wl_61, wl_62, wl_65, wl_90, wl_97, wl_99, wl_100, wl_121, wl_122, wl_140, wl_142, wl_143, wl_145, wl_147, wl_160, wl_161, wl_162, wl_242, wl_380, wl_400, wl_420, wl_820, wl_1340, wl_5480, wl_9999, true_and, and_true, true_or, or_true, if_true, if_false, and_self, or_self, false_and, and_false, false_or, or_false, not_true_eq_false, not_false_eq_true, Int.reduceEq, Int.reduceLT, Int.reduceLE, Int.reduceToNat, Int.reduceAdd, Int.reduceMul, Int.reduceSub, Int.reduceMod, Int.reduceDiv, Int.reduceNeg, Nat.reduceEqDiff, sm_rd_ok, sm_rd_ok2, sm_wt_ok, sm_cp_ok, Option.isSome_some, Option.getD_some, w_cont, Option.toList_some, Option.toList_none, List.cons_append, List.nil_append]
      by_cases h2 : ab (Z 11 (5 * i)) x + ab (Z 11 (5 * i + 1)) y < least
      · rw [if_neg (by omega), if_pos (Or.inr h2), b17_65, b17_72, show (i : Int) + 1 = ((i + 1 : Nat) : Int) by omega, ih (i + 1) _ _ _ (by omega) (by omega) (by omega)]
      · rw [if_pos (by omega), if_neg (by omega), b17_72, show (i : Int) + 1 = ((i + 1 : Nat) : Int) by omega, ih (i + 1) _ _ _ (by omega) hbe hle]
theorem c_nearest (H : sm_sh Rf K) (N : Nat) (hN : Z 10 2 = (N : Int)) (hN6 : N ≤ 6) (hx : 0 ≤ x ∧ x ≤ 1000) (hy : 0 ≤ y ∧ y ≤ 1000) (hb : ∀ j, j < N → (0 ≤ Z 11 (5 * j) ∧ Z 11 (5 * j) ≤ 1000) ∧ (0 ≤ Z 11 (5 * j + 1) ∧ Z 11 (5 * j + 1) ≤ 1000)) : sm_call (d + 1) 17 [.inr (some 1), .inl x, .inl y] (Z, Rf, K, n, z) Q = Q (some (.inl (nearR (fun j => ab (Z 11 (5 * j)) x + ab (Z 11 (5 * j + 1)) y) N 0 (-1) 0))) (Z, Rf, K, n, z) := by
  rw [ce17, b17_0]
  exact c_nearest_loop H N hN hN6 hx hy hb N 0 (-1) 0 none (by omega) (by omega) (by omega)
end SUIT
