/-- behind a pond's change: the class -/
def cpS (Z Z' : Nat → Nat → Int) (c : Nat) (p : Int) : Prop := (∀ a j, a ≠ 5 → a ≠ 78 → (a ≠ 0 ∨ j ≠ 12) → Z' a j = Z a j) ∧ (∀ j, Z' 5 j = if j = c then p else Z 5 j) ∧ (Z' 0 12 = if 10 ≤ Z 0 12 then 10 else Z 0 12 + 1) ∧ (∀ j : Nat, j < 10 → Z' 78 j = if 10 ≤ Z 0 12 then (if j = 9 then (c : Int) else Z 78 (j + 1)) else if (j : Int) = Z 0 12 then (c : Int) else Z 78 j)
/-- the same of the model -/
def mpS (Z Z' : Nat → Nat → Int) (c : Nat) (p : Int) : Prop := (∀ a j, (a ≠ 80 ∨ j ≠ 120 + c) → a ≠ 83 → (a ≠ 79 ∨ j ≠ 4) → Z' a j = Z a j) ∧ Z' 80 (120 + c) = p ∧ (Z' 79 4 = if Z 79 4 = 10 then 10 else Z 79 4 + 1) ∧ (∀ j : Nat, j < 10 → Z' 83 j = if Z 79 4 = 10 then (if j = 9 then (c : Int) else Z 83 (j + 1)) else if (j : Int) = Z 79 4 then (c : Int) else Z 83 j)
section PONDS
variable {d n z : Nat} {Z : Nat → Nat → Int} {Rf : Nat → Nat → Option Nat} {K : Nat → Nat × Nat} {Q : Option sm_V → sm_S → Prop} {c p b : Int}
set_option maxHeartbeats 2000000 in
theorem c_image1 (H : sm_sh Rf K) (hh : ∀ k, k < 4 → (Rf 18 k).isSome = true ∧ (K ((Rf 18 k).getD 0)).1 = 2) : sm_call (d + 3) 110 [.inr (some 0), .inl 1] (Z, Rf, K, n, z) Q = Q (some (.inl 1)) (sm_u (c_cpKeep Z) 0 2 1, c_hbKeep Rf, K, n, z) := by
  rw [ce110]
  repeat' first | (simp (disch := first | omega | assumption) only [wr_id, wr_b2i, wr_wr, b2i_eq0, b2i_eq1, b2i_01, sm_rem_eq, sm_div_eq, wl_m2, wl_m1, wl_0, wl_1, wl_2, wl_3, wl_4, wl_5, wl_6, wl_7, wl_8, wl_9, wl_10, wl_12, wl_13, wl_14, wl_16, wl_20, wl_21, wl_22, wl_23, wl_32, wl_36, wl_40, wl_41, wl_42, wl_43, wl_44, wl_45, wl_46, wl_47, wl_48, wl_57, wl_59, wl_60, wl_61, wl_62, wl_65, wl_90, wl_97, wl_99, wl_100, wl_121, wl_122, wl_140, wl_142, wl_143, wl_145, wl_147, wl_160, wl_161, wl_162, wl_242, wl_380, wl_400, wl_420, wl_820, wl_1340, wl_5480, wl_9999, true_and, and_true, true_or, or_true, if_true, if_false, and_self, or_self, false_and, and_false, false_or, or_false, not_true_eq_false, not_false_eq_true, Int.reduceEq, Int.reduceLT, Int.reduceLE, Int.reduceToNat, Int.reduceAdd, Int.reduceMul, Int.reduceSub, Int.reduceMod, Int.reduceDiv, Int.reduceNeg, Nat.reduceEqDiff, sm_rd_ok, sm_rd_ok2, sm_wt_ok, sm_cp_ok, Option.isSome_some, Option.getD_some, w_cont, Option.toList_some, Option.toList_none, List.cons_append, List.nil_append, kk_0 H, kk_1 H, kk_26 H, rr_0_0 H, rr_0_1 H, c_copyKeep H hh]) | split | rw [b110_0] | rw [b110_4] | rw [b110_15] | rw [b110_22] | rw [b110_29] | rw [b110_31] | rw [b110_42]
set_option maxHeartbeats 2000000 in
theorem c_image0 (H : sm_sh Rf K) (h2 : Z 0 2 = 0 ∨ Z 0 2 = 1) (hh : Z 0 2 = 1 → ∀ k, k < 4 → (Rf 43 k).isSome = true ∧ (K ((Rf 43 k).getD 0)).1 = 2) : sm_call (d + 3) 110 [.inr (some 0), .inl 0] (Z, Rf, K, n, z) Q = if Z 0 2 = 0 then Q (some (.inl 0)) (Z, Rf, K, n, z) else Q (some (.inl 1)) (sm_u (c_cpBack Z) 0 12 0, c_hbBack Rf, K, n, z) := by
  rw [ce110]
  rcases h2 with h2 | h2
  · repeat' first | (simp (disch := first | omega | assumption) only [wr_id, wr_b2i, wr_wr, b2i_eq0, b2i_eq1, b2i_01, sm_rem_eq, sm_div_eq, wl_m2, wl_m1, wl_0, wl_1, wl_2, wl_3, wl_4, wl_5, wl_6, wl_7, wl_8, wl_9, wl_10, wl_12, wl_13, wl_14, wl_16, wl_20, wl_21, wl_22, wl_23, wl_32, wl_36, wl_40, wl_41, wl_42, wl_43, wl_44, wl_45, wl_46, wl_47, wl_48, wl_57, wl_59, wl_60, wl_61, wl_62, wl_65, wl_90, wl_97, wl_99, wl_100, wl_121, wl_122, wl_140, wl_142, wl_143, wl_145, wl_147, wl_160, wl_161, wl_162, wl_242, wl_380, wl_400, wl_420, wl_820, wl_1340, wl_5480, wl_9999, true_and, and_true, true_or, or_true, if_true, if_false, and_self, or_self, false_and, and_false, false_or, or_false, not_true_eq_false, not_false_eq_true, Int.reduceEq, Int.reduceLT, Int.reduceLE, Int.reduceToNat, Int.reduceAdd, Int.reduceMul, Int.reduceSub, Int.reduceMod, Int.reduceDiv, Int.reduceNeg, Nat.reduceEqDiff, sm_rd_ok, sm_rd_ok2, sm_wt_ok, sm_cp_ok, Option.isSome_some, Option.getD_some, w_cont, Option.toList_some, Option.toList_none, List.cons_append, List.nil_append, kk_0 H, h2]) | split | rw [b110_0] | rw [b110_4] | rw [b110_15] | rw [b110_22] | rw [b110_29] | rw [b110_31] | rw [b110_42]
  · have hh := hh h2
    repeat' first | (simp (disch := first | omega | assumption) only [wr_id, wr_b2i, wr_wr, b2i_eq0, b2i_eq1, b2i_01, sm_rem_eq, sm_div_eq, wl_m2, wl_m1, wl_0, wl_1, wl_2, wl_3, wl_4, wl_5, wl_6, wl_7, wl_8, wl_9, wl_10, wl_12, wl_13, wl_14, wl_16, wl_20, wl_21, wl_22, wl_23, wl_32, wl_36, wl_40, wl_41, wl_42, wl_43, wl_44, wl_45, wl_46, wl_47, wl_48, wl_57, wl_59, wl_60, wl_61, wl_62, wl_65, wl_90, wl_97, wl_99, wl_100, wl_121, wl_122, wl_140, wl_142, wl_143, wl_145, wl_147, wl_160, wl_161, wl_162, wl_242, wl_380, wl_400, wl_420, wl_820, wl_1340, wl_5480, wl_9999, true_and, and_true, true_or, or_true, if_true, if_false, and_self, or_self, false_and, and_false, false_or, or_false, not_true_eq_false, not_false_eq_true, Int.reduceEq, Int.reduceLT, Int.reduceLE, Int.reduceToNat, Int.reduceAdd, Int.reduceMul, Int.reduceSub, Int.reduceMod, Int.reduceDiv, Int.reduceNeg, Nat.reduceEqDiff, sm_rd_ok, sm_rd_ok2, sm_wt_ok, sm_cp_ok, Option.isSome_some, Option.getD_some, w_cont, Option.toList_some, Option.toList_none, List.cons_append, List.nil_append, kk_0 H, kk_1 H, kk_26 H, rr_0_0 H, rr_0_1 H, h2, c_copyBack H hh]) | split | rw [b110_0] | rw [b110_4] | rw [b110_15] | rw [b110_22] | rw [b110_29] | rw [b110_31] | rw [b110_42]
set_option maxHeartbeats 4000000 in
theorem c_changePond (H : sm_sh Rf K) (hs : szC Z) (h12 : 0 ≤ Z 0 12 ∧ Z 0 12 ≤ 10) (hp : ∀ k, k < 100 → Z 5 k = 0 ∨ Z 5 k = 1) (hc : aI c) (hb : b = 0 ∨ b = 1) (q1 : isC (Z 1 0) (Z 1 1) c = true → Z 5 c.toNat = b → ∀ Z', cpS Z Z' c.toNat (1 - b) → Q (some (.inl 1)) (Z', Rf, K, n, z)) (q2 : ¬ (isC (Z 1 0) (Z 1 1) c = true ∧ Z 5 c.toNat = b) → Q (some (.inl 0)) (Z, Rf, K, n, z)) : sm_call (d + 1) 114 [.inr (some 0), .inl c, .inl b] (Z, Rf, K, n, z) Q := by
  unfold aI at hc
  unfold szC at hs
  have hK1 : (K 1).1 = 1 := by rw [kk_1 H]
  have c0 : sm_cp (100, 10) (100, 10) 1 0 9 = True := sm_cp_ok (by decide)
  rw [ce114]
  by_cases h1 : isC (Z 1 0) (Z 1 1) c = true
  · have h2 := h1
    simp only [isC, decide_eq_true_eq] at h2
    have hpc := hp c.toNat (by omega)
    have ec : ((c.toNat : Nat) : Int) = c := by omega
    by_cases h3 : Z 5 c.toNat = b
    · by_cases h4 : 10 ≤ Z 0 12
      · repeat' first | (simp (disch := first | omega | assumption) only [wr_id, wr_b2i, wr_wr, b2i_eq0, b2i_eq1, b2i_01, sm_rem_eq, sm_div_eq, wl_m2, wl_m1, wl_0, wl_1, wl_2, wl_3, wl_4, wl_5, wl_6, wl_7, wl_8, wl_9, wl_10, wl_12, wl_13, wl_14, wl_16, wl_20, wl_21, wl_22, wl_23, wl_32, wl_36, wl_40, wl_41, wl_42, wl_43, wl_44, wl_45, wl_46, wl_47, wl_48, wl_57, wl_59, wl_60, wl_61, wl_62, wl_65, wl_90, wl_97, wl_99, wl_100, wl_121, wl_122, wl_140, wl_142, wl_143, wl_145, wl_147, wl_160, wl_161, wl_162, wl_242, wl_380, wl_400, wl_420, wl_820, wl_1340, wl_5480, wl_9999, true_and, and_true, true_or, or_true, if_true, if_false, and_self, or_self, false_and, and_false, false_or, or_false, not_true_eq_false, not_false_eq_true, Int.reduceEq, Int.reduceLT, Int.reduceLE, Int.reduceToNat, Int.reduceAdd, Int.reduceMul, Int.reduceSub, Int.reduceMod, Int.reduceDiv, Int.reduceNeg, Nat.reduceEqDiff, sm_rd_ok, sm_rd_ok2, sm_wt_ok, sm_cp_ok, Option.isSome_some, Option.getD_some, w_cont, Option.toList_some, Option.toList_none, List.cons_append, List.nil_append, c_hasCell, kk_0 H, kk_1 H, kk_5 H, kk_78 H, rr_0_0 H, rr_0_11 H, rr_1_7 H, h1, h3, h4, reduceCtorEq, sm_u_ne, sm_u_self, sm_r_ne, sm_mv, c0]) | split | rw [b114_0] | rw [b114_8] | rw [b114_11] | rw [b114_24] | rw [b114_26] | rw [b114_47] | rw [b114_68]
        all_goals (try first | rfl | omega | (exfalso; omega))
        all_goals
          refine q1 h1 h3 _ ⟨fun a j ha hb hd => ?_, fun j => ?_, ?_, fun j hj => ?_⟩
          · simp only [sm_u, sm_mv, sm_r]
            simp [ha, hb]
            omega
          · simp [sm_u, sm_mv, sm_r]
          · rw [if_pos h4]; simp [sm_u]
          · rw [if_pos h4, ec]
            by_cases hj9 : j = 9
            · subst hj9; simp [sm_u]
            · simp [sm_u, sm_mv, sm_r, hj9]
              rw [if_pos (by omega), Nat.add_comm]
      · repeat' first | (simp (disch := first | omega | assumption) only [wr_id, wr_b2i, wr_wr, b2i_eq0, b2i_eq1, b2i_01, sm_rem_eq, sm_div_eq, wl_m2, wl_m1, wl_0, wl_1, wl_2, wl_3, wl_4, wl_5, wl_6, wl_7, wl_8, wl_9, wl_10, wl_12, wl_13, wl_14, wl_16, wl_20, wl_21, wl_22, wl_23, wl_32, wl_36, wl_40, wl_41, wl_42, wl_43, wl_44, wl_45, wl_46, wl_47, wl_48, wl_57, wl_59, wl_60, wl_61, wl_62, wl_65, wl_90, wl_97, wl_99, wl_100, wl_121, wl_122, wl_140, wl_142, wl_143, wl_145, wl_147, wl_160, wl_161, wl_162, wl_242, wl_380, wl_400, wl_420, wl_820, wl_1340, wl_5480, wl_9999, true_and, and_true, true_or, or_true, if_true, if_false, and_self, or_self, false_and, and_false, false_or, or_false, not_true_eq_false, not_false_eq_true, Int.reduceEq, Int.reduceLT, Int.reduceLE, Int.reduceToNat, Int.reduceAdd, Int.reduceMul, Int.reduceSub, Int.reduceMod, Int.reduceDiv, Int.reduceNeg, Nat.reduceEqDiff, sm_rd_ok, sm_rd_ok2, sm_wt_ok, sm_cp_ok, Option.isSome_some, Option.getD_some, w_cont, Option.toList_some, Option.toList_none, List.cons_append, List.nil_append, c_hasCell, kk_0 H, kk_1 H, kk_5 H, kk_78 H, rr_0_0 H, rr_0_11 H, rr_1_7 H, h1, h3, h4, reduceCtorEq, sm_u_ne, sm_u_self]) | split | rw [b114_0] | rw [b114_8] | rw [b114_11] | rw [b114_24] | rw [b114_26] | rw [b114_47] | rw [b114_68]
        all_goals (try first | rfl | omega | (exfalso; omega))
        all_goals
          refine q1 h1 h3 _ ⟨fun a j ha hb hd => ?_, fun j => ?_, ?_, fun j hj => ?_⟩
          · simp only [sm_u]
            simp [ha, hb]
            omega
          · simp [sm_u]
          · rw [if_neg h4]; simp [sm_u]
          · rw [if_neg h4, ec]
            simp only [sm_u]
            by_cases hj9 : (j : Int) = Z 0 12
            · rw [if_pos hj9, if_neg (by omega)]
              have hjn : j = (Z 0 12).toNat := by omega
              simp [hjn]
            · rw [if_neg hj9, if_neg (by omega)]
              have hjn : ¬ j = (Z 0 12).toNat := by omega
              simp [hjn]
    · repeat' first | (simp (disch := first | omega | assumption) only [wr_id, wr_b2i, wr_wr, b2i_eq0, b2i_eq1, b2i_01, sm_rem_eq, sm_div_eq, wl_m2, wl_m1, wl_0, wl_1, wl_2, wl_3, wl_4, wl_5, wl_6, wl_7, wl_8, wl_9, wl_10, wl_12, wl_13, wl_14, wl_16, wl_20, wl_21, wl_22, wl_23, wl_32, wl_36, wl_40, wl_41, wl_42, wl_43, wl_44, wl_45, wl_46, wl_47, wl_48, wl_57, wl_59, wl_60, wl_61, wl_62, wl_65, wl_90, wl_97, wl_99, wl_100, wl_121, wl_122, wl_140, wl_142, wl_143, wl_145, wl_147, wl_160, wl_161, wl_162, wl_242, wl_380, wl_400, wl_420, wl_820, wl_1340, wl_5480, wl_9999, true_and, and_true, true_or, or_true, if_true, if_false, and_self, or_self, false_and, and_false, false_or, or_false, not_true_eq_false, not_false_eq_true, Int.reduceEq, Int.reduceLT, Int.reduceLE, Int.reduceToNat, Int.reduceAdd, Int.reduceMul, Int.reduceSub, Int.reduceMod, Int.reduceDiv, Int.reduceNeg, Nat.reduceEqDiff, sm_rd_ok, sm_rd_ok2, sm_wt_ok, sm_cp_ok, Option.isSome_some, Option.getD_some, w_cont, Option.toList_some, Option.toList_none, List.cons_append, List.nil_append, c_hasCell, kk_0 H, kk_1 H, kk_5 H, rr_0_0 H, rr_1_7 H, h1, h3, reduceCtorEq]) | split | rw [b114_0] | rw [b114_8] | rw [b114_11] | rw [b114_24] | rw [b114_26] | rw [b114_47] | rw [b114_68]
      all_goals (try first | rfl | omega | (exfalso; omega))
      all_goals exact q2 (fun hz => h3 hz.2)
  · repeat' first | (simp (disch := first | omega | assumption) only [wr_id, wr_b2i, wr_wr, b2i_eq0, b2i_eq1, b2i_01, sm_rem_eq, sm_div_eq, wl_m2, wl_m1, wl_0, wl_1, wl_2, wl_3, wl_4, wl_5, wl_6, wl_7, wl_8, wl_9, wl_10, wl_12, wl_13, wl_14, wl_16, wl_20, wl_21, wl_22, wl_23, wl_32, wl_36, wl_40, wl_41, wl_42, wl_43, wl_44, wl_45, wl_46, wl_47, wl_48, wl_57, wl_59, wl_60, wl_61, wl_62, wl_65, wl_90, wl_97, wl_99, wl_100, wl_121, wl_122, wl_140, wl_142, wl_143, wl_145, wl_147, wl_160, wl_161, wl_162, wl_242, wl_380, wl_400, wl_420, wl_820, wl_1340, wl_5480, wl_9999, true_and, and_true, true_or, or_true, if_true, if_false, and_self, or_self, false_and, and_false, false_or, or_false, not_true_eq_false, not_false_eq_true, Int.reduceEq, Int.reduceLT, Int.reduceLE, Int.reduceToNat, Int.reduceAdd, Int.reduceMul, Int.reduceSub, Int.reduceMod, Int.reduceDiv, Int.reduceNeg, Nat.reduceEqDiff, sm_rd_ok, sm_rd_ok2, sm_wt_ok, sm_cp_ok, Option.isSome_some, Option.getD_some, w_cont, Option.toList_some, Option.toList_none, List.cons_append, List.nil_append, c_hasCell, kk_0 H, kk_1 H, rr_0_0 H, h1, reduceCtorEq]) | split | rw [b114_0] | rw [b114_8] | rw [b114_11] | rw [b114_24] | rw [b114_26] | rw [b114_47] | rw [b114_68]
    all_goals exact q2 (fun hz => h1 hz.1)
end PONDS
