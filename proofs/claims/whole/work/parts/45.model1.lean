section MODEL1
variable {d n z : Nat} {Z : Nat → Nat → Int} {Rf : Nat → Nat → Option Nat} {K : Nat → Nat × Nat} {Q : Option sm_V → sm_S → Prop} {c p b x y h w a e f i v : Int}
set_option maxHeartbeats 1000000 in
theorem m_aheadX (hh : aI h) : sm_call d 160 [.inl h] (Z, Rf, K, n, z) Q = Q (some (.inl (dX h))) (Z, Rf, K, n, z) := by
  unfold aI at hh
  rw [ce160]
  repeat' first | (simp (disch := first | omega | assumption) only [wr_id, wr_b2i, wr_wr, b2i_eq0, b2i_eq1, b2i_01, sm_rem_eq, sm_div_eq, wl_m2, wl_m1, wl_0, wl_1, wl_2, wl_3, wl_4, wl_5, wl_6, wl_7, wl_8, wl_9, wl_10, wl_12, wl_13, wl_14, wl_16, wl_20, wl_21, wl_22, wl_23, wl_32, wl_36, wl_40, wl_41, wl_42, wl_43, wl_44, wl_45, wl_46, wl_47, wl_48, wl_57, wl_59, wl_60, wl_61, wl_62, wl_65, wl_90, wl_97, wl_99, wl_100, wl_121, wl_122, wl_140, wl_142, wl_143, wl_145, wl_147, wl_160, wl_161, wl_162, wl_242, wl_380, wl_400, wl_420, wl_820, wl_1340, wl_5480, wl_9999, true_and, and_true, true_or, or_true, if_true, if_false, and_self, or_self, false_and, and_false, false_or, or_false, not_true_eq_false, not_false_eq_true, Int.reduceEq, Int.reduceLT, Int.reduceLE, Int.reduceToNat, Int.reduceAdd, Int.reduceMul, Int.reduceSub, Int.reduceMod, Int.reduceDiv, Int.reduceNeg, Nat.reduceEqDiff, sm_rd_ok, sm_rd_ok2, sm_wt_ok, sm_cp_ok, Option.isSome_some, Option.getD_some, w_cont, Option.toList_some, Option.toList_none, List.cons_append, List.nil_append]) | split | rw [b160_0] | rw [b160_5] | rw [b160_9] | rw [b160_14] | rw [b160_18] | rw [b160_19]
  all_goals (congr 3; simp only [dX]; repeat' split)
  all_goals (try first | rfl | omega | (exfalso; omega))
set_option maxHeartbeats 1000000 in
theorem m_aheadY (hh : aI h) : sm_call d 161 [.inl h] (Z, Rf, K, n, z) Q = Q (some (.inl (dY h))) (Z, Rf, K, n, z) := by
  unfold aI at hh
  rw [ce161]
  repeat' first | (simp (disch := first | omega | assumption) only [wr_id, wr_b2i, wr_wr, b2i_eq0, b2i_eq1, b2i_01, sm_rem_eq, sm_div_eq, wl_m2, wl_m1, wl_0, wl_1, wl_2, wl_3, wl_4, wl_5, wl_6, wl_7, wl_8, wl_9, wl_10, wl_12, wl_13, wl_14, wl_16, wl_20, wl_21, wl_22, wl_23, wl_32, wl_36, wl_40, wl_41, wl_42, wl_43, wl_44, wl_45, wl_46, wl_47, wl_48, wl_57, wl_59, wl_60, wl_61, wl_62, wl_65, wl_90, wl_97, wl_99, wl_100, wl_121, wl_122, wl_140, wl_142, wl_143, wl_145, wl_147, wl_160, wl_161, wl_162, wl_242, wl_380, wl_400, wl_420, wl_820, wl_1340, wl_5480, wl_9999, true_and, and_true, true_or, or_true, if_true, if_false, and_self, or_self, false_and, and_false, false_or, or_false, not_true_eq_false, not_false_eq_true, Int.reduceEq, Int.reduceLT, Int.reduceLE, Int.reduceToNat, Int.reduceAdd, Int.reduceMul, Int.reduceSub, Int.reduceMod, Int.reduceDiv, Int.reduceNeg, Nat.reduceEqDiff, sm_rd_ok, sm_rd_ok2, sm_wt_ok, sm_cp_ok, Option.isSome_some, Option.getD_some, w_cont, Option.toList_some, Option.toList_none, List.cons_append, List.nil_append]) | split | rw [b161_0] | rw [b161_4] | rw [b161_8] | rw [b161_13] | rw [b161_17] | rw [b161_18]
  all_goals (congr 3; simp only [dY]; repeat' split)
  all_goals (try first | rfl | omega | (exfalso; omega))
set_option maxHeartbeats 1000000 in
theorem m_yardBy (hh : 0 ≤ h ∧ h ≤ 3) : sm_call d 162 [.inl x, .inl y, .inl h] (Z, Rf, K, n, z) Q = Q (some (.inl (yd x y h))) (Z, Rf, K, n, z) := by
  rw [ce162]
  have hc : h = 0 ∨ h = 1 ∨ h = 2 ∨ h = 3 := by omega
  rcases hc with rfl | rfl | rfl | rfl
  all_goals
    repeat' first | (simp (disch := first | omega | assumption) only [wr_id, wr_b2i, wr_wr, b2i_eq0, b2i_eq1, b2i_01, sm_rem_eq, sm_div_eq, wl_m2, wl_m1, wl_0, wl_1, wl_2, wl_3, wl_4, wl_5, wl_6, wl_7, wl_8, wl_9, wl_10, wl_12, wl_13, wl_14, wl_16, wl_20, wl_21, wl_22, wl_23, wl_32, wl_36, wl_40, wl_41, wl_42, wl_43, wl_44, wl_45, wl_46, wl_47, wl_48, wl_57, wl_59, wl_60, wl_61, wl_62, wl_65, wl_90, wl_97, wl_99, wl_100, wl_121, wl_122, wl_140, wl_142, wl_143, wl_145, wl_147, wl_160, wl_161, wl_162, wl_242, wl_380, wl_400, wl_420, wl_820, wl_1340, wl_5480, wl_9999, true_and, and_true, true_or, or_true, if_true, if_false, and_self, or_self, false_and, and_false, false_or, or_false, not_true_eq_false, not_false_eq_true, Int.reduceEq, Int.reduceLT, Int.reduceLE, Int.reduceToNat, Int.reduceAdd, Int.reduceMul, Int.reduceSub, Int.reduceMod, Int.reduceDiv, Int.reduceNeg, Nat.reduceEqDiff, sm_rd_ok, sm_rd_ok2, sm_wt_ok, sm_cp_ok, Option.isSome_some, Option.getD_some, w_cont, Option.toList_some, Option.toList_none, List.cons_append, List.nil_append]) | split | rw [b162_0] | rw [b162_5] | rw [b162_11] | rw [b162_12] | rw [b162_17] | rw [b162_23] | rw [b162_24] | rw [b162_42] | rw [b162_46] | rw [b162_47]
  all_goals (try (congr 3; simp only [yd]; simp; done))
  all_goals (try first | rfl | omega | (exfalso; omega))
set_option maxHeartbeats 1000000 in
theorem m_far (ha : 0 ≤ a ∧ a ≤ 1000) (hb : 0 ≤ b ∧ b ≤ 1000) : sm_call d 179 [.inl a, .inl b] (Z, Rf, K, n, z) Q = Q (some (.inl (if a < b then b - a else a - b))) (Z, Rf, K, n, z) := by
  rw [ce179]
  repeat' first | (simp (disch := first | omega | assumption) only [wr_id, wr_b2i, wr_wr, b2i_eq0, b2i_eq1, b2i_01, sm_rem_eq, sm_div_eq, wl_m2, wl_m1, wl_0, wl_1, wl_2, wl_3, wl_4, wl_5, wl_6, wl_7, wl_8, wl_9, wl_10, wl_12, wl_13, wl_14, wl_16, wl_20, wl_21, wl_22, wl_23, wl_32, wl_36, wl_40, wl_41, wl_42, wl_43, wl_44, wl_45, wl_46, wl_47, wl_48, wl_57, wl_59, wl_60, wl_61, wl_62, wl_65, wl_90, wl_97, wl_99, wl_100, wl_121, wl_122, wl_140, wl_142, wl_143, wl_145, wl_147, wl_160, wl_161, wl_162, wl_242, wl_380, wl_400, wl_420, wl_820, wl_1340, wl_5480, wl_9999, true_and, and_true, true_or, or_true, if_true, if_false, and_self, or_self, false_and, and_false, false_or, or_false, not_true_eq_false, not_false_eq_true, Int.reduceEq, Int.reduceLT, Int.reduceLE, Int.reduceToNat, Int.reduceAdd, Int.reduceMul, Int.reduceSub, Int.reduceMod, Int.reduceDiv, Int.reduceNeg, Nat.reduceEqDiff, sm_rd_ok, sm_rd_ok2, sm_wt_ok, sm_cp_ok, Option.isSome_some, Option.getD_some, w_cont, Option.toList_some, Option.toList_none, List.cons_append, List.nil_append]) | split | rw [b179_0] | rw [b179_5] | rw [b179_11] | rw [b179_14]
  all_goals (try first | rfl | omega | (exfalso; omega))
set_option maxHeartbeats 1000000 in
theorem m_pondAt (H : sm_sh Rf K) (hs : szM Z) (hx : aI x) (hy : aI y) : sm_call (d + 2) 163 [.inr (some 79), .inl x, .inl y] (Z, Rf, K, n, z) Q = Q (some (.inl (if 0 ≤ x ∧ x < Z 80 0 ∧ 0 ≤ y ∧ y < Z 80 1 then Z 80 (120 + 10 * y + x).toNat else 0))) (Z, Rf, K, n, z) := by
  have hs' := hs
  unfold szM at hs'
  rw [ce163]
  repeat' first | (simp (disch := first | omega | assumption) only [wr_id, wr_b2i, wr_wr, b2i_eq0, b2i_eq1, b2i_01, sm_rem_eq, sm_div_eq, wl_m2, wl_m1, wl_0, wl_1, wl_2, wl_3, wl_4, wl_5, wl_6, wl_7, wl_8, wl_9, wl_10, wl_12, wl_13, wl_14, wl_16, wl_20, wl_21, wl_22, wl_23, wl_32, wl_36, wl_40, wl_41, wl_42, wl_43, wl_44, wl_45, wl_46, wl_47, wl_48, wl_57, wl_59, wl_60, wl_61, wl_62, wl_65, wl_90, wl_97, wl_99, wl_100, wl_121, wl_122, wl_140, wl_142, wl_143, wl_145, wl_147, wl_160, wl_161, wl_162, wl_242, wl_380, wl_400, wl_420, wl_820, wl_1340, wl_5480, wl_9999, true_and, and_true, true_or, or_true, if_true, if_false, and_self, or_self, false_and, and_false, false_or, or_false, not_true_eq_false, not_false_eq_true, Int.reduceEq, Int.reduceLT, Int.reduceLE, Int.reduceToNat, Int.reduceAdd, Int.reduceMul, Int.reduceSub, Int.reduceMod, Int.reduceDiv, Int.reduceNeg, Nat.reduceEqDiff, sm_rd_ok, sm_rd_ok2, sm_wt_ok, sm_cp_ok, Option.isSome_some, Option.getD_some, w_cont, Option.toList_some, Option.toList_none, List.cons_append, List.nil_append, m_isPlace H hs hx hy, kk_79 H, kk_80 H, rr_79_0 H, decide_eq_true_eq, decide_eq_false_iff_not]) | split | rw [b163_0] | rw [b163_6] | rw [b163_9] | rw [b163_26] | rw [b163_27]
  all_goals (try first | rfl | omega | (exfalso; omega))
set_option maxHeartbeats 2000000 in
theorem m_yard (H : sm_sh Rf K) (hs : szM Z) (hx : aI x) (hy : aI y) (hh : aI h) (hw : aI w) : sm_call (d + 2) 178 [.inr (some 79), .inl x, .inl y, .inl h, .inl w] (Z, Rf, K, n, z) Q = Q (some (.inl (if yF (Z 80 0) (Z 80 1) x y h = -1 ∨ ¬ (0 ≤ w ∧ w ≤ 1) then -2 else if w = 0 then Z 80 (850 + yF (Z 80 0) (Z 80 1) x y h).toNat else Z 80 (1092 + yF (Z 80 0) (Z 80 1) x y h).toNat))) (Z, Rf, K, n, z) := by
  have hx' := hx
  have hy' := hy
  have hh' := hh
  have hw' := hw
  have hs' := hs
  unfold szM at hs'
  unfold aI at hx' hy' hh' hw'
  have hb := yF_bd x y h hs'.1.2 hs'.2.2
  rw [ce178]
  by_cases h1 : isP (Z 80 0) (Z 80 1) x y = true
  · have h1' := h1
    simp only [isP, decide_eq_true_eq] at h1'
    by_cases h2 : 0 ≤ h ∧ h ≤ 3
    · have bx : -1 ≤ dX h ∧ dX h ≤ 1 := by unfold dX; repeat' split
                                           all_goals omega
      have b_y : -1 ≤ dY h ∧ dY h ≤ 1 := by unfold dY; repeat' split
                                            all_goals omega
      have hx2 : aI (x + dX h) := ⟨by omega, by omega⟩
      have hy2 : aI (y + dY h) := ⟨by omega, by omega⟩
      have e3 : isInB h 0 3 = true := by simp only [isInB, decide_eq_true_eq]; omega
      by_cases h3 : isP (Z 80 0) (Z 80 1) (x + dX h) (y + dY h) = true
      · have h3' := h3
        simp only [isP, decide_eq_true_eq] at h3'
        have ey : yF (Z 80 0) (Z 80 1) x y h = yd x y h := by unfold yF; rw [if_pos (by omega)]
        have hyd : 0 ≤ yd x y h := by
          unfold yd
          unfold dX dY at h3'
          repeat' split
          all_goals (repeat' split at h3')
          all_goals omega
        rw [ey] at hb ⊢
        have hne : ¬ yd x y h = -1 := by omega
        by_cases h4 : isInB w 0 1 = true
        · have h4' := h4
          simp only [isInB, decide_eq_true_eq] at h4'
          repeat' first | (simp (disch := first | omega | assumption) only [wr_id, wr_b2i, wr_wr, b2i_eq0, b2i_eq1, b2i_01, sm_rem_eq, sm_div_eq, wl_m2, wl_m1, wl_0, wl_1, wl_2, wl_3, wl_4, wl_5, wl_6, wl_7, wl_8, wl_9, wl_10, wl_12, wl_13, wl_14, wl_16, wl_20, wl_21, wl_22, wl_23, wl_32, wl_36, wl_40, wl_41, wl_42, wl_43, wl_44, wl_45, wl_46, wl_47, wl_48, wl_57, wl_59, wl_60, wl_61, wl_62, wl_65, wl_90, wl_97, wl_99, wl_100, wl_121, wl_122, wl_140, wl_142, wl_143, wl_145, wl_147, wl_160, wl_161, wl_162, wl_242, wl_380, wl_400, wl_420, wl_820, wl_1340, wl_5480, wl_9999, true_and, and_true, true_or, or_true, if_true, if_false, and_self, or_self, false_and, and_false, false_or, or_false, not_true_eq_false, not_false_eq_true, Int.reduceEq, Int.reduceLT, Int.reduceLE, Int.reduceToNat, Int.reduceAdd, Int.reduceMul, Int.reduceSub, Int.reduceMod, Int.reduceDiv, Int.reduceNeg, Nat.reduceEqDiff, sm_rd_ok, sm_rd_ok2, sm_wt_ok, sm_cp_ok, Option.isSome_some, Option.getD_some, w_cont, Option.toList_some, Option.toList_none, List.cons_append, List.nil_append, m_isPoint H hs hx hy, m_isPoint H hs hx2 hy2, m_isIn, m_aheadX hh, m_aheadY hh, m_yardBy h2, kk_79 H, kk_80 H, rr_79_0 H, h1, e3, h3, h4, h4', hne, reduceCtorEq]) | split | rw [b178_0] | rw [b178_6] | rw [b178_9] | rw [b178_15] | rw [b178_18] | rw [b178_24] | rw [b178_30] | rw [b178_34] | rw [b178_37] | rw [b178_44] | rw [b178_47] | rw [b178_50] | rw [b178_59] | rw [b178_65] | rw [b178_68] | rw [b178_74]
          all_goals (try first | rfl | omega | (exfalso; omega))
        · have h4' := h4
          simp only [isInB, decide_eq_true_eq] at h4'
          repeat' first | (simp (disch := first | omega | assumption) only [wr_id, wr_b2i, wr_wr, b2i_eq0, b2i_eq1, b2i_01, sm_rem_eq, sm_div_eq, wl_m2, wl_m1, wl_0, wl_1, wl_2, wl_3, wl_4, wl_5, wl_6, wl_7, wl_8, wl_9, wl_10, wl_12, wl_13, wl_14, wl_16, wl_20, wl_21, wl_22, wl_23, wl_32, wl_36, wl_40, wl_41, wl_42, wl_43, wl_44, wl_45, wl_46, wl_47, wl_48, wl_57, wl_59, wl_60, wl_61, wl_62, wl_65, wl_90, wl_97, wl_99, wl_100, wl_121, wl_122, wl_140, wl_142, wl_143, wl_145, wl_147, wl_160, wl_161, wl_162, wl_242, wl_380, wl_400, wl_420, wl_820, wl_1340, wl_5480, wl_9999, true_and, and_true, true_or, or_true, if_true, if_false, and_self, or_self, false_and, and_false, false_or, or_false, not_true_eq_false, not_false_eq_true, Int.reduceEq, Int.reduceLT, Int.reduceLE, Int.reduceToNat, Int.reduceAdd, Int.reduceMul, Int.reduceSub, Int.reduceMod, Int.reduceDiv, Int.reduceNeg, Nat.reduceEqDiff, sm_rd_ok, sm_rd_ok2, sm_wt_ok, sm_cp_ok, Option.isSome_some, Option.getD_some, w_cont, Option.toList_some, Option.toList_none, List.cons_append, List.nil_append, m_isPoint H hs hx hy, m_isPoint H hs hx2 hy2, m_isIn, m_aheadX hh, m_aheadY hh, kk_79 H, h1, e3, h3, h4, h4', hne, reduceCtorEq]) | split | rw [b178_0] | rw [b178_6] | rw [b178_9] | rw [b178_15] | rw [b178_18] | rw [b178_24] | rw [b178_30] | rw [b178_34] | rw [b178_37] | rw [b178_44] | rw [b178_47] | rw [b178_50] | rw [b178_59] | rw [b178_65] | rw [b178_68] | rw [b178_74]
          all_goals (try first | rfl | omega | (exfalso; omega))
      · have ey : yF (Z 80 0) (Z 80 1) x y h = -1 := by
          unfold yF
          simp only [isP, decide_eq_true_eq] at h3
          rw [if_neg (by omega)]
        repeat' first | (simp (disch := first | omega | assumption) only [wr_id, wr_b2i, wr_wr, b2i_eq0, b2i_eq1, b2i_01, sm_rem_eq, sm_div_eq, wl_m2, wl_m1, wl_0, wl_1, wl_2, wl_3, wl_4, wl_5, wl_6, wl_7, wl_8, wl_9, wl_10, wl_12, wl_13, wl_14, wl_16, wl_20, wl_21, wl_22, wl_23, wl_32, wl_36, wl_40, wl_41, wl_42, wl_43, wl_44, wl_45, wl_46, wl_47, wl_48, wl_57, wl_59, wl_60, wl_61, wl_62, wl_65, wl_90, wl_97, wl_99, wl_100, wl_121, wl_122, wl_140, wl_142, wl_143, wl_145, wl_147, wl_160, wl_161, wl_162, wl_242, wl_380, wl_400, wl_420, wl_820, wl_1340, wl_5480, wl_9999, true_and, and_true, true_or, or_true, if_true, if_false, and_self, or_self, false_and, and_false, false_or, or_false, not_true_eq_false, not_false_eq_true, Int.reduceEq, Int.reduceLT, Int.reduceLE, Int.reduceToNat, Int.reduceAdd, Int.reduceMul, Int.reduceSub, Int.reduceMod, Int.reduceDiv, Int.reduceNeg, Nat.reduceEqDiff, sm_rd_ok, sm_rd_ok2, sm_wt_ok, sm_cp_ok, Option.isSome_some, Option.getD_some, w_cont, Option.toList_some, Option.toList_none, List.cons_append, List.nil_append, m_isPoint H hs hx hy, m_isPoint H hs hx2 hy2, m_isIn, m_aheadX hh, m_aheadY hh, kk_79 H, h1, e3, h3, ey, reduceCtorEq]) | split | rw [b178_0] | rw [b178_6] | rw [b178_9] | rw [b178_15] | rw [b178_18] | rw [b178_24] | rw [b178_30] | rw [b178_34] | rw [b178_37] | rw [b178_44] | rw [b178_47] | rw [b178_50] | rw [b178_59] | rw [b178_65] | rw [b178_68] | rw [b178_74]
    · have e3 : isInB h 0 3 = false := by simp only [isInB, decide_eq_false_iff_not]; omega
      have ey : yF (Z 80 0) (Z 80 1) x y h = -1 := by unfold yF; rw [if_neg (by omega)]
      repeat' first | (simp (disch := first | omega | assumption) only [wr_id, wr_b2i, wr_wr, b2i_eq0, b2i_eq1, b2i_01, sm_rem_eq, sm_div_eq, wl_m2, wl_m1, wl_0, wl_1, wl_2, wl_3, wl_4, wl_5, wl_6, wl_7, wl_8, wl_9, wl_10, wl_12, wl_13, wl_14, wl_16, wl_20, wl_21, wl_22, wl_23, wl_32, wl_36, wl_40, wl_41, wl_42, wl_43, wl_44, wl_45, wl_46, wl_47, wl_48, wl_57, wl_59, wl_60, wl_61, wl_62, wl_65, wl_90, wl_97, wl_99, wl_100, wl_121, wl_122, wl_140, wl_142, wl_143, wl_145, wl_147, wl_160, wl_161, wl_162, wl_242, wl_380, wl_400, wl_420, wl_820, wl_1340, wl_5480, wl_9999, true_and, and_true, true_or, or_true, if_true, if_false, and_self, or_self, false_and, and_false, false_or, or_false, not_true_eq_false, not_false_eq_true, Int.reduceEq, Int.reduceLT, Int.reduceLE, Int.reduceToNat, Int.reduceAdd, Int.reduceMul, Int.reduceSub, Int.reduceMod, Int.reduceDiv, Int.reduceNeg, Nat.reduceEqDiff, sm_rd_ok, sm_rd_ok2, sm_wt_ok, sm_cp_ok, Option.isSome_some, Option.getD_some, w_cont, Option.toList_some, Option.toList_none, List.cons_append, List.nil_append, m_isPoint H hs hx hy, m_isIn, kk_79 H, h1, e3, ey, reduceCtorEq]) | split | rw [b178_0] | rw [b178_6] | rw [b178_9] | rw [b178_15] | rw [b178_18] | rw [b178_24] | rw [b178_30] | rw [b178_34] | rw [b178_37] | rw [b178_44] | rw [b178_47] | rw [b178_50] | rw [b178_59] | rw [b178_65] | rw [b178_68] | rw [b178_74]
  · have ey : yF (Z 80 0) (Z 80 1) x y h = -1 := by
      unfold yF
      simp only [isP, decide_eq_true_eq] at h1
      rw [if_neg (by omega)]
    repeat' first | (simp (disch := first | omega | assumption) only [wr_id, wr_b2i, wr_wr, b2i_eq0, b2i_eq1, b2i_01, sm_rem_eq, sm_div_eq, wl_m2, wl_m1, wl_0, wl_1, wl_2, wl_3, wl_4, wl_5, wl_6, wl_7, wl_8, wl_9, wl_10, wl_12, wl_13, wl_14, wl_16, wl_20, wl_21, wl_22, wl_23, wl_32, wl_36, wl_40, wl_41, wl_42, wl_43, wl_44, wl_45, wl_46, wl_47, wl_48, wl_57, wl_59, wl_60, wl_61, wl_62, wl_65, wl_90, wl_97, wl_99, wl_100, wl_121, wl_122, wl_140, wl_142, wl_143, wl_145, wl_147, wl_160, wl_161, wl_162, wl_242, wl_380, wl_400, wl_420, wl_820, wl_1340, wl_5480, wl_9999, true_and, and_true, true_or, or_true, if_true, if_false, and_self, or_self, false_and, and_false, false_or, or_false, not_true_eq_false, not_false_eq_true, Int.reduceEq, Int.reduceLT, Int.reduceLE, Int.reduceToNat, Int.reduceAdd, Int.reduceMul, Int.reduceSub, Int.reduceMod, Int.reduceDiv, Int.reduceNeg, Nat.reduceEqDiff, sm_rd_ok, sm_rd_ok2, sm_wt_ok, sm_cp_ok, Option.isSome_some, Option.getD_some, w_cont, Option.toList_some, Option.toList_none, List.cons_append, List.nil_append, m_isPoint H hs hx hy, kk_79 H, h1, ey, reduceCtorEq]) | split | rw [b178_0] | rw [b178_6] | rw [b178_9] | rw [b178_15] | rw [b178_18] | rw [b178_24] | rw [b178_30] | rw [b178_34] | rw [b178_37] | rw [b178_44] | rw [b178_47] | rw [b178_50] | rw [b178_59] | rw [b178_65] | rw [b178_68] | rw [b178_74]
end MODEL1
