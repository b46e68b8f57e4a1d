section SIMPLE4
variable {d n z : Nat} {Z : Nat → Nat → Int} {Rf : Nat → Nat → Option Nat} {K : Nat → Nat × Nat} {Q : Option sm_V → sm_S → Prop} {r q : Nat} {c x y h v l m a b e f i w : Int}
def swOK (W H x y h l k : Int) : Prop := isP W H x y = true ∧ (0 ≤ h ∧ h ≤ 3) ∧ (0 ≤ l ∧ l ≤ 60) ∧ (0 ≤ k ∧ k ≤ 3)
set_option maxHeartbeats 4000000 in
theorem c_swallow (H : sm_sh Rf K) (hs : szC Z) (hm : Z 12 0 = 8) (hn : 0 ≤ Z 12 2 ∧ Z 12 2 ≤ 8) (hx : aI x) (hy : aI y) (hh : aI h) (hl : aI l) (hk : aI i) : (isP (Z 1 0) (Z 1 1) x y = true → (0 ≤ h ∧ h ≤ 3) → (0 ≤ l ∧ l ≤ 60) → (0 ≤ i ∧ i ≤ 3) → Z 12 2 < 8 → Q (some (.inl (Z 12 2))) (rAdd Z 12 13 x y h l i, Rf, K, n, z)) → (¬ (swOK (Z 1 0) (Z 1 1) x y h l i ∧ Z 12 2 < 8) → Q (some (.inl (-1))) (Z, Rf, K, n, z)) → sm_call (d + 2) 92 [.inr (some 0), .inl x, .inl y, .inl h, .inl l, .inl i] (Z, Rf, K, n, z) Q := by
  intro q1 q2
  unfold aI at hx hy hh hl hk
  unfold szC at hs
  have hK1 : (K 1).1 = 1 := by rw [kk_1 H]
  have hK12 : (K 12).1 = 5 := by rw [kk_12 H]
  rw [ce92]
  unfold swOK at q2
  repeat' first | (simp (disch := first | omega | assumption) only [wr_id, wr_b2i, wr_wr, b2i_eq0, b2i_eq1, b2i_01, sm_rem_eq, sm_div_eq, wl_m2, wl_m1, wl_0, wl_1, wl_2, wl_3, wl_4, wl_5, wl_6, wl_7, wl_8, wl_9, wl_10, wl_12, wl_13, wl_14, wl_16, wl_20, wl_21, wl_22, wl_23, wl_32, wl_36, wl_40, wl_41, wl_42, wl_43, wl_44, wl_45, wl_46, wl_47, wl_48, wl_57, wl_59, wl_60, wl_61, wl_62, wl_65, wl_90, wl_97, wl_99, wl_100, wl_121, wl_122, wl_140, wl_142, wl_143, wl_145, wl_147, wl_160, wl_161, wl_162, wl_242, wl_380, wl_400, wl_420, wl_820, wl_1340, wl_5480, wl_9999, true_and, and_true, true_or, or_true, if_true, if_false, and_self, or_self, false_and, and_false, false_or, or_false, not_true_eq_false, not_false_eq_true, Int.reduceEq, Int.reduceLT, Int.reduceLE, Int.reduceToNat, Int.reduceAdd, Int.reduceMul, Int.reduceSub, Int.reduceMod, Int.reduceDiv, Int.reduceNeg, Nat.reduceEqDiff, sm_rd_ok, sm_rd_ok2, sm_wt_ok, sm_cp_ok, Option.isSome_some, Option.getD_some, w_cont, Option.toList_some, Option.toList_none, List.cons_append, List.nil_append, c_hasPoint, c_within, isInB, decide_eq_true_eq, decide_eq_false_iff_not, kk_0 H, kk_1 H, kk_12 H, rr_0_0 H, rr_1_13 H, reduceCtorEq, c_add (Z := Z) (r := 12) (q := 13) hK12 (rr_12_1 H) (by decide) (kk_13 H) ⟨by omega, by omega, by omega⟩ ⟨by omega, by omega⟩]) | split | rw [b92_0] | rw [b92_9] | rw [b92_12] | rw [b92_18] | rw [b92_21] | rw [b92_29] | rw [b92_32] | rw [b92_39] | rw [b92_42] | rw [b92_44] | rw [b92_61]
  all_goals (try simp only [Bool.not_eq_true, Bool.not_eq_false, Classical.not_not, decide_eq_true_eq, decide_eq_false_iff_not] at *)
  all_goals first
    | (refine q1 ?_ ?_ ?_ ?_ ?_ <;> first | assumption | omega)
    | (refine q2 ?_; intro hz; first | omega | (simp_all; done) | (have := hz.1.1; simp_all; done))
set_option maxHeartbeats 4000000 in
theorem m_swallow (H : sm_sh Rf K) (hs : szM Z) (hn : 0 ≤ Z 80 4 ∧ Z 80 4 ≤ 8) (hx : aI x) (hy : aI y) (hh : aI h) (hl : aI l) (hk : aI i) : (isP (Z 80 0) (Z 80 1) x y = true → (0 ≤ h ∧ h ≤ 3) → (0 ≤ l ∧ l ≤ 60) → (0 ≤ i ∧ i ≤ 3) → Z 80 4 < 8 → Q (some (.inl (Z 80 4))) (sm_u (sm_u (sm_u (sm_u (sm_u (sm_u Z 80 (1855 + 5 * Z 80 4).toNat x) 80 (1855 + 5 * Z 80 4 + 1).toNat y) 80 (1855 + 5 * Z 80 4 + 2).toNat h) 80 (1855 + 5 * Z 80 4 + 3).toNat l) 80 (1855 + 5 * Z 80 4 + 4).toNat i) 80 4 (Z 80 4 + 1), Rf, K, n, z)) → (¬ (swOK (Z 80 0) (Z 80 1) x y h l i ∧ Z 80 4 < 8) → Q (some (.inl (-1))) (Z, Rf, K, n, z)) → sm_call (d + 2) 135 [.inr (some 79), .inl x, .inl y, .inl h, .inl l, .inl i] (Z, Rf, K, n, z) Q := by
  intro q1 q2
  have hx' := hx
  have hy' := hy
  have hs' := hs
  unfold aI at hx' hy' hh hl hk
  unfold szM at hs'
  unfold swOK at q2
  have e0 : ¬ (4 = (1855 + 5 * Z 80 4).toNat) := by omega
  have e1 : ¬ (4 = (1855 + 5 * Z 80 4 + 1).toNat) := by omega
  have e2 : ¬ (4 = (1855 + 5 * Z 80 4 + 2).toNat) := by omega
  have e3 : ¬ (4 = (1855 + 5 * Z 80 4 + 3).toNat) := by omega
  have e4 : ¬ (4 = (1855 + 5 * Z 80 4 + 4).toNat) := by omega
  have e5 : Z 80 4 + 1 - 1 = Z 80 4 := by omega
  rw [ce135]
  repeat' first | (simp (disch := first | omega | assumption) only [wr_id, wr_b2i, wr_wr, b2i_eq0, b2i_eq1, b2i_01, sm_rem_eq, sm_div_eq, wl_m2, wl_m1, wl_0, wl_1, wl_2, wl_3, wl_4, wl_5, wl_6, wl_7, wl_8, wl_9, wl_10, wl_12, wl_13, wl_14, wl_16, wl_20, wl_21, wl_22, wl_23, wl_32, wl_36, wl_40, wl_41, wl_42, wl_43, wl_44, wl_45, wl_46, wl_47, wl_48, wl_57, wl_59, wl_60, wl_61, wl_62, wl_65, wl_90, wl_97, wl_99, wl_100, wl_121, wl_122, wl_140, wl_142, wl_143, wl_145, wl_147, wl_160, wl_161, wl_162, wl_242, wl_380, wl_400, wl_420, wl_820, wl_1340, wl_5480, wl_9999, true_and, and_true, true_or, or_true, if_true, if_false, and_self, or_self, false_and, and_false, false_or, or_false, not_true_eq_false, not_false_eq_true, Int.reduceEq, Int.reduceLT, Int.reduceLE, Int.reduceToNat, Int.reduceAdd, Int.reduceMul, Int.reduceSub, Int.reduceMod, Int.reduceDiv, Int.reduceNeg, Nat.reduceEqDiff, sm_rd_ok, sm_rd_ok2, sm_wt_ok, sm_cp_ok, Option.isSome_some, Option.getD_some, w_cont, Option.toList_some, Option.toList_none, List.cons_append, List.nil_append, m_isPoint H hs hx hy, m_isIn, isInB, decide_eq_true_eq, decide_eq_false_iff_not, kk_79 H, kk_80 H, rr_79_0 H, reduceCtorEq, sm_u_eq, e0, e1, e2, e3, e4, e5]) | split | rw [b135_0] | rw [b135_6] | rw [b135_9] | rw [b135_15] | rw [b135_18] | rw [b135_26] | rw [b135_29] | rw [b135_36] | rw [b135_39] | rw [b135_50] | rw [b135_52]
  all_goals (try simp only [Bool.not_eq_true, Bool.not_eq_false, Classical.not_not, decide_eq_true_eq, decide_eq_false_iff_not] at *)
  all_goals first
    | (refine q1 ?_ ?_ ?_ ?_ ?_ <;> first | assumption | omega)
    | (refine q2 ?_; intro hz; first | omega | (simp_all; done) | (have := hz.1.1; simp_all; done))
end SIMPLE4
