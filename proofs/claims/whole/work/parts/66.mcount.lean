/-- a row of names and a row of a queue -/
def rSp (Z : Nat → Nat → Int) (a b : Nat) (st : spT) : Prop := (∀ c, c < 100 → Z a c = st.1 c) ∧ ∀ i, i < st.2.2 → Z b i = st.2.1 i
theorem rSp_upd {Z : Nat → Nat → Int} {a b : Nat} {st : spT} {m : Nat} {f v : Int} (hab : a ≠ b) (h : rSp Z a b st) : rSp (sm_u (sm_u Z a m f) b st.2.2 v) a b (mU st.1 m f, mU st.2.1 st.2.2 v, st.2.2 + 1) := by
  refine ⟨fun c hc => ?_, fun i hi => ?_⟩
  · rw [sm_u_ne hab, sm_u_eq]
    simp only [mU]
    split
    · rfl
    · exact h.1 c hc
  · rw [sm_u_eq]
    simp only [mU]
    split
    · rfl
    · rw [sm_u_ne (fun e => hab e.symm)]
      exact h.2 i (by simp only at hi; omega)
section MCOUNT
variable {d n z : Nat} {Rf : Nat → Nat → Option Nat} {K : Nat → Nat × Nat} {M : Nat → Int} {Z : Nat → Nat → Int} {Q : Option sm_V → sm_S → Prop}
set_option maxHeartbeats 1000000 in
theorem m_isOpen (H : sm_sh Rf K) (hM : Z 80 = M) (hs : szN M) {c s : Int} (hc : isC (M 0) (M 1) c = true) (hk : 0 ≤ s ∧ s ≤ 3) (hT : ∀ k, k < 242 → -1 ≤ M (850 + k) ∧ M (850 + k) ≤ 7) : sm_call (d + 2) 172 [.inr (some 79), .inl (c % 10), .inl (c / 10), .inl s] (Z, Rf, K, n, z) Q = Q (some (.inl (b2i (opn (M 0) (M 1) (fun j => M (850 + j)) c s)))) (Z, Rf, K, n, z) := by
  have hszM : szM Z := by subst hM; exact hs
  unfold szN at hs
  simp only [isC, decide_eq_true_eq] at hc
  have hb := dXY_bd s
  have hyb := ybR_bd (x := c % 10) (y := c / 10) (s := s) hs.1.2 hs.2.2 (by omega)
  have hTy := hT (ybR (c % 10) (c / 10) s).toNat (by omega)
  rw [ce172, b172_0, m_aheadX ⟨by omega, by omega⟩, w_cont]
  simp only [wr_id, wr_b2i, wr_wr, b2i_eq0, b2i_eq1, b2i_01, sm_rem_eq, sm_div_eq, wl_m2, wl_m1, wl_0, wl_1, wl_2, wl_3, wl_4, wl_5, wl_6, wl_7, wl_8, wl_9, wl_10, wl_12, wl_13, wl_14, wl_16, wl_20, wl_21, wl_22, wl_23, wl_32, wl_36, wl_40, wl_41, wl_42, wl_43, wl_44, wl_45, wl_46, wl_47, wl_48, wl_57, wl_59, wl_60, wl_61, wl_62, wl_65, wl_90, wl_97, wl_99, wl_100, wl_121, wl_122, wl_140, wl_142, wl_143, wl_145, wl_147, wl_160, wl_161, wl_162, wl_242, wl_380, wl_400, wl_420, wl_820, wl_1340, wl_5480, wl_9999, true_and, and_true, true_or, or_true, if_true, if_false, and_self, or_self, false_and, and_false, false_or, or_false, not_true_eq_false, not_false_eq_true, Int.reduceEq, Int.reduceLT, Int.reduceLE, Int.reduceToNat, Int.reduceAdd, Int.reduceMul, Int.reduceSub, Int.reduceMod, Int.reduceDiv, Int.reduceNeg, Nat.reduceEqDiff, sm_rd_ok, sm_rd_ok2, sm_wt_ok, sm_cp_ok, Option.isSome_some, Option.getD_some, w_cont, Option.toList_some, Option.toList_none, List.cons_append, List.nil_append]
  rw [b172_6, m_aheadY ⟨by omega, by omega⟩, w_cont]
  simp only [wr_id, wr_b2i, wr_wr, b2i_eq0, b2i_eq1, b2i_01, sm_rem_eq, sm_div_eq, wl_m2, wl_m1, wl_0, wl_1, wl_2, wl_3, wl_4, wl_5, wl_6, wl_7, wl_8, wl_9, wl_10, wl_12, wl_13, wl_14, wl_16, wl_20, wl_21, wl_22, wl_23, wl_32, wl_36, wl_40, wl_41, wl_42, wl_43, wl_44, wl_45, wl_46, wl_47, wl_48, wl_57, wl_59, wl_60, wl_61, wl_62, wl_65, wl_90, wl_97, wl_99, wl_100, wl_121, wl_122, wl_140, wl_142, wl_143, wl_145, wl_147, wl_160, wl_161, wl_162, wl_242, wl_380, wl_400, wl_420, wl_820, wl_1340, wl_5480, wl_9999, true_and, and_true, true_or, or_true, if_true, if_false, and_self, or_self, false_and, and_false, false_or, or_false, not_true_eq_false, not_false_eq_true, Int.reduceEq, Int.reduceLT, Int.reduceLE, Int.reduceToNat, Int.reduceAdd, Int.reduceMul, Int.reduceSub, Int.reduceMod, Int.reduceDiv, Int.reduceNeg, Nat.reduceEqDiff, sm_rd_ok, sm_rd_ok2, sm_wt_ok, sm_cp_ok, Option.isSome_some, Option.getD_some, w_cont, Option.toList_some, Option.toList_none, List.cons_append, List.nil_append]
  rw [b172_12, kk_79 H, m_isPlace H hszM ⟨by omega, by omega⟩ ⟨by omega, by omega⟩, w_cont, hM]
  simp only [wr_id, wr_b2i, wr_wr, b2i_eq0, b2i_eq1, b2i_01, sm_rem_eq, sm_div_eq, wl_m2, wl_m1, wl_0, wl_1, wl_2, wl_3, wl_4, wl_5, wl_6, wl_7, wl_8, wl_9, wl_10, wl_12, wl_13, wl_14, wl_16, wl_20, wl_21, wl_22, wl_23, wl_32, wl_36, wl_40, wl_41, wl_42, wl_43, wl_44, wl_45, wl_46, wl_47, wl_48, wl_57, wl_59, wl_60, wl_61, wl_62, wl_65, wl_90, wl_97, wl_99, wl_100, wl_121, wl_122, wl_140, wl_142, wl_143, wl_145, wl_147, wl_160, wl_161, wl_162, wl_242, wl_380, wl_400, wl_420, wl_820, wl_1340, wl_5480, wl_9999, true_and, and_true, true_or, or_true, if_true, if_false, and_self, or_self, false_and, and_false, false_or, or_false, not_true_eq_false, not_false_eq_true, Int.reduceEq, Int.reduceLT, Int.reduceLE, Int.reduceToNat, Int.reduceAdd, Int.reduceMul, Int.reduceSub, Int.reduceMod, Int.reduceDiv, Int.reduceNeg, Nat.reduceEqDiff, sm_rd_ok, sm_rd_ok2, sm_wt_ok, sm_cp_ok, Option.isSome_some, Option.getD_some, w_cont, Option.toList_some, Option.toList_none, List.cons_append, List.nil_append]
  rw [b172_16]
  simp only [wr_id, wr_b2i, wr_wr, b2i_eq0, b2i_eq1, b2i_01, sm_rem_eq, sm_div_eq, wl_m2, wl_m1, wl_0, wl_1, wl_2, wl_3, wl_4, wl_5, wl_6, wl_7, wl_8, wl_9, wl_10, wl_12, wl_13, wl_14, wl_16, wl_20, wl_21, wl_22, wl_23, wl_32, wl_36, wl_40, wl_41, wl_42, wl_43, wl_44, wl_45, wl_46, wl_47, wl_48, wl_57, wl_59, wl_60, wl_61, wl_62, wl_65, wl_90, wl_97, wl_99, wl_100, wl_121, wl_122, wl_140, wl_142, wl_143, wl_145, wl_147, wl_160, wl_161, wl_162, wl_242, wl_380, wl_400, wl_420, wl_820, wl_1340, wl_5480, wl_9999, true_and, and_true, true_or, or_true, if_true, if_false, and_self, or_self, false_and, and_false, false_or, or_false, not_true_eq_false, not_false_eq_true, Int.reduceEq, Int.reduceLT, Int.reduceLE, Int.reduceToNat, Int.reduceAdd, Int.reduceMul, Int.reduceSub, Int.reduceMod, Int.reduceDiv, Int.reduceNeg, Nat.reduceEqDiff, sm_rd_ok, sm_rd_ok2, sm_wt_ok, sm_cp_ok, Option.isSome_some, Option.getD_some, w_cont, Option.toList_some, Option.toList_none, List.cons_append, List.nil_append, decide_eq_false_iff_not]
  have hne := cAt_ne (w := M 0) (h := M 1) (c % 10 + dX s) (c / 10 + dY s)
  by_cases hp : 0 ≤ c % 10 + dX s ∧ c % 10 + dX s < M 0 ∧ 0 ≤ c / 10 + dY s ∧ c / 10 + dY s < M 1
  · have hn : ¬ nxC (M 0) (M 1) c s = -1 := hne.2 hp
    rw [if_neg (by intro h; exact h hp)]
    have yds : ∀ Q, sm_wp (d + 2) 172 21 [some (.inr (some 79)), some (.inl (c % 10)), some (.inl (c / 10)), some (.inl s), none] [] (Z, Rf, K, n, z) Q = sm_wp (d + 2) 172 72 [some (.inr (some 79)), some (.inl (c % 10)), some (.inl (c / 10)), some (.inl s), none] [.inl (ybR (c % 10) (c / 10) s)] (Z, Rf, K, n, z) Q := by
      intro Q
      have hc4 : s = 0 ∨ s = 1 ∨ s = 2 ∨ s = 3 := by omega
      rcases hc4 with rfl | rfl | rfl | rfl
      · rw [b172_21, wl_0, if_pos rfl, b172_25, m_yardBy (by omega), w_cont]
        simp only [wr_id, wr_b2i, wr_wr, b2i_eq0, b2i_eq1, b2i_01, sm_rem_eq, sm_div_eq, wl_m2, wl_m1, wl_0, wl_1, wl_2, wl_3, wl_4, wl_5, wl_6, wl_7, wl_8, wl_9, wl_10, wl_12, wl_13, wl_14, wl_16, wl_20, wl_21, wl_22, wl_23, wl_32, wl_36, wl_40, wl_41, wl_42, wl_43, wl_44, wl_45, wl_46, wl_47, wl_48, wl_57, wl_59, wl_60, wl_61, wl_62, wl_65, wl_90, wl_97, wl_99, wl_100, wl_121, wl_122, wl_140, wl_142, wl_143, wl_145, wl_147, wl_160, wl_161, wl_162, wl_242, wl_380, wl_400, wl_420, wl_820, wl_1340, wl_5480, wl_9999, true_and, and_true, true_or, or_true, if_true, if_false, and_self, or_self, false_and, and_false, false_or, or_false, not_true_eq_false, not_false_eq_true, Int.reduceEq, Int.reduceLT, Int.reduceLE, Int.reduceToNat, Int.reduceAdd, Int.reduceMul, Int.reduceSub, Int.reduceMod, Int.reduceDiv, Int.reduceNeg, Nat.reduceEqDiff, sm_rd_ok, sm_rd_ok2, sm_wt_ok, sm_cp_ok, Option.isSome_some, Option.getD_some, w_cont, Option.toList_some, Option.toList_none, List.cons_append, List.nil_append]
        rw [b172_31]
        rfl
      · rw [b172_21, wl_1, if_neg (by decide), b172_34, wl_1, if_pos rfl, b172_39, m_yardBy (by omega), w_cont]
        simp only [wr_id, wr_b2i, wr_wr, b2i_eq0, b2i_eq1, b2i_01, sm_rem_eq, sm_div_eq, wl_m2, wl_m1, wl_0, wl_1, wl_2, wl_3, wl_4, wl_5, wl_6, wl_7, wl_8, wl_9, wl_10, wl_12, wl_13, wl_14, wl_16, wl_20, wl_21, wl_22, wl_23, wl_32, wl_36, wl_40, wl_41, wl_42, wl_43, wl_44, wl_45, wl_46, wl_47, wl_48, wl_57, wl_59, wl_60, wl_61, wl_62, wl_65, wl_90, wl_97, wl_99, wl_100, wl_121, wl_122, wl_140, wl_142, wl_143, wl_145, wl_147, wl_160, wl_161, wl_162, wl_242, wl_380, wl_400, wl_420, wl_820, wl_1340, wl_5480, wl_9999, true_and, and_true, true_or, or_true, if_true, if_false, and_self, or_self, false_and, and_false, false_or, or_false, not_true_eq_false, not_false_eq_true, Int.reduceEq, Int.reduceLT, Int.reduceLE, Int.reduceToNat, Int.reduceAdd, Int.reduceMul, Int.reduceSub, Int.reduceMod, Int.reduceDiv, Int.reduceNeg, Nat.reduceEqDiff, sm_rd_ok, sm_rd_ok2, sm_wt_ok, sm_cp_ok, Option.isSome_some, Option.getD_some, w_cont, Option.toList_some, Option.toList_none, List.cons_append, List.nil_append]
        rw [b172_47]
        rfl
      · rw [b172_21, wl_2, if_neg (by decide), b172_34, wl_2, if_neg (by decide), b172_50, wl_2, if_pos rfl, b172_55, m_yardBy (by omega), w_cont]
        simp only [wr_id, wr_b2i, wr_wr, b2i_eq0, b2i_eq1, b2i_01, sm_rem_eq, sm_div_eq, wl_m2, wl_m1, wl_0, wl_1, wl_2, wl_3, wl_4, wl_5, wl_6, wl_7, wl_8, wl_9, wl_10, wl_12, wl_13, wl_14, wl_16, wl_20, wl_21, wl_22, wl_23, wl_32, wl_36, wl_40, wl_41, wl_42, wl_43, wl_44, wl_45, wl_46, wl_47, wl_48, wl_57, wl_59, wl_60, wl_61, wl_62, wl_65, wl_90, wl_97, wl_99, wl_100, wl_121, wl_122, wl_140, wl_142, wl_143, wl_145, wl_147, wl_160, wl_161, wl_162, wl_242, wl_380, wl_400, wl_420, wl_820, wl_1340, wl_5480, wl_9999, true_and, and_true, true_or, or_true, if_true, if_false, and_self, or_self, false_and, and_false, false_or, or_false, not_true_eq_false, not_false_eq_true, Int.reduceEq, Int.reduceLT, Int.reduceLE, Int.reduceToNat, Int.reduceAdd, Int.reduceMul, Int.reduceSub, Int.reduceMod, Int.reduceDiv, Int.reduceNeg, Nat.reduceEqDiff, sm_rd_ok, sm_rd_ok2, sm_wt_ok, sm_cp_ok, Option.isSome_some, Option.getD_some, w_cont, Option.toList_some, Option.toList_none, List.cons_append, List.nil_append]
        rw [b172_63]
        rfl
      · rw [b172_21, wl_3, if_neg (by decide), b172_34, wl_3, if_neg (by decide), b172_50, wl_3, if_neg (by decide), b172_66, m_yardBy (by omega), w_cont]
        simp only [wr_id, wr_b2i, wr_wr, b2i_eq0, b2i_eq1, b2i_01, sm_rem_eq, sm_div_eq, wl_m2, wl_m1, wl_0, wl_1, wl_2, wl_3, wl_4, wl_5, wl_6, wl_7, wl_8, wl_9, wl_10, wl_12, wl_13, wl_14, wl_16, wl_20, wl_21, wl_22, wl_23, wl_32, wl_36, wl_40, wl_41, wl_42, wl_43, wl_44, wl_45, wl_46, wl_47, wl_48, wl_57, wl_59, wl_60, wl_61, wl_62, wl_65, wl_90, wl_97, wl_99, wl_100, wl_121, wl_122, wl_140, wl_142, wl_143, wl_145, wl_147, wl_160, wl_161, wl_162, wl_242, wl_380, wl_400, wl_420, wl_820, wl_1340, wl_5480, wl_9999, true_and, and_true, true_or, or_true, if_true, if_false, and_self, or_self, false_and, and_false, false_or, or_false, not_true_eq_false, not_false_eq_true, Int.reduceEq, Int.reduceLT, Int.reduceLE, Int.reduceToNat, Int.reduceAdd, Int.reduceMul, Int.reduceSub, Int.reduceMod, Int.reduceDiv, Int.reduceNeg, Nat.reduceEqDiff, sm_rd_ok, sm_rd_ok2, sm_wt_ok, sm_cp_ok, Option.isSome_some, Option.getD_some, w_cont, Option.toList_some, Option.toList_none, List.cons_append, List.nil_append]
        rfl
    rw [yds, b172_72, kk_79 H, rr_79_0 H]
    simp (disch := omega) only [wr_id, wr_b2i, wr_wr, b2i_eq0, b2i_eq1, b2i_01, sm_rem_eq, sm_div_eq, wl_m2, wl_m1, wl_0, wl_1, wl_2, wl_3, wl_4, wl_5, wl_6, wl_7, wl_8, wl_9, wl_10, wl_12, wl_13, wl_14, wl_16, wl_20, wl_21, wl_22, wl_23, wl_32, wl_36, wl_40, wl_41, wl_42, wl_43, wl_44, wl_45, wl_46, wl_47, wl_48, wl_57, wl_59, wl_60, wl_61, wl_62, wl_65, wl_90, wl_97, wl_99, wl_100, wl_121, wl_122, wl_140, wl_142, wl_143, wl_145, wl_147, wl_160, wl_161, wl_162, wl_242, wl_380, wl_400, wl_420, wl_820, wl_1340, wl_5480, wl_9999, true_and, and_true, true_or, or_true, if_true, if_false, and_self, or_self, false_and, and_false, false_or, or_false, not_true_eq_false, not_false_eq_true, Int.reduceEq, Int.reduceLT, Int.reduceLE, Int.reduceToNat, Int.reduceAdd, Int.reduceMul, Int.reduceSub, Int.reduceMod, Int.reduceDiv, Int.reduceNeg, Nat.reduceEqDiff, sm_rd_ok, sm_rd_ok2, sm_wt_ok, sm_cp_ok, Option.isSome_some, Option.getD_some, w_cont, Option.toList_some, Option.toList_none, List.cons_append, List.nil_append, kk_80 H, hM]
    rw [show (850 + ybR (c % 10) (c / 10) s).toNat = 850 + (ybR (c % 10) (c / 10) s).toNat by omega, wr_id (by omega) (by omega)]
    by_cases ht : M (850 + (ybR (c % 10) (c / 10) s).toNat) = -1
    · rw [if_pos ht, b172_89, b172_94]
      have e : opn (M 0) (M 1) (fun j => M (850 + j)) c s = true := by simp only [opn, decide_eq_true_eq]; exact ⟨hn, ht⟩
      rw [e]
      simp only [wr_id, wr_b2i, wr_wr, b2i_eq0, b2i_eq1, b2i_01, sm_rem_eq, sm_div_eq, wl_m2, wl_m1, wl_0, wl_1, wl_2, wl_3, wl_4, wl_5, wl_6, wl_7, wl_8, wl_9, wl_10, wl_12, wl_13, wl_14, wl_16, wl_20, wl_21, wl_22, wl_23, wl_32, wl_36, wl_40, wl_41, wl_42, wl_43, wl_44, wl_45, wl_46, wl_47, wl_48, wl_57, wl_59, wl_60, wl_61, wl_62, wl_65, wl_90, wl_97, wl_99, wl_100, wl_121, wl_122, wl_140, wl_142, wl_143, wl_145, wl_147, wl_160, wl_161, wl_162, wl_242, wl_380, wl_400, wl_420, wl_820, wl_1340, wl_5480, wl_9999, true_and, and_true, true_or, or_true, if_true, if_false, and_self, or_self, false_and, and_false, false_or, or_false, not_true_eq_false, not_false_eq_true, Int.reduceEq, Int.reduceLT, Int.reduceLE, Int.reduceToNat, Int.reduceAdd, Int.reduceMul, Int.reduceSub, Int.reduceMod, Int.reduceDiv, Int.reduceNeg, Nat.reduceEqDiff, sm_rd_ok, sm_rd_ok2, sm_wt_ok, sm_cp_ok, Option.isSome_some, Option.getD_some, w_cont, Option.toList_some, Option.toList_none, List.cons_append, List.nil_append]
      rfl
    · rw [if_neg ht, b172_93, b172_94]
      have e : opn (M 0) (M 1) (fun j => M (850 + j)) c s = false := by simp only [opn, decide_eq_false_iff_not]; exact fun h => ht h.2
      rw [e]
      simp only [wr_id, wr_b2i, wr_wr, b2i_eq0, b2i_eq1, b2i_01, sm_rem_eq, sm_div_eq, wl_m2, wl_m1, wl_0, wl_1, wl_2, wl_3, wl_4, wl_5, wl_6, wl_7, wl_8, wl_9, wl_10, wl_12, wl_13, wl_14, wl_16, wl_20, wl_21, wl_22, wl_23, wl_32, wl_36, wl_40, wl_41, wl_42, wl_43, wl_44, wl_45, wl_46, wl_47, wl_48, wl_57, wl_59, wl_60, wl_61, wl_62, wl_65, wl_90, wl_97, wl_99, wl_100, wl_121, wl_122, wl_140, wl_142, wl_143, wl_145, wl_147, wl_160, wl_161, wl_162, wl_242, wl_380, wl_400, wl_420, wl_820, wl_1340, wl_5480, wl_9999, true_and, and_true, true_or, or_true, if_true, if_false, and_self, or_self, false_and, and_false, false_or, or_false, not_true_eq_false, not_false_eq_true, Int.reduceEq, Int.reduceLT, Int.reduceLE, Int.reduceToNat, Int.reduceAdd, Int.reduceMul, Int.reduceSub, Int.reduceMod, Int.reduceDiv, Int.reduceNeg, Nat.reduceEqDiff, sm_rd_ok, sm_rd_ok2, sm_wt_ok, sm_cp_ok, Option.isSome_some, Option.getD_some, w_cont, Option.toList_some, Option.toList_none, List.cons_append, List.nil_append]
      rfl
  · rw [if_pos hp, b172_19]
    have e : opn (M 0) (M 1) (fun j => M (850 + j)) c s = false := by
      simp only [opn, decide_eq_false_iff_not]
      exact fun h => hp (hne.1 h.1)
    rw [e]
    simp only [wr_id, wr_b2i, wr_wr, b2i_eq0, b2i_eq1, b2i_01, sm_rem_eq, sm_div_eq, wl_m2, wl_m1, wl_0, wl_1, wl_2, wl_3, wl_4, wl_5, wl_6, wl_7, wl_8, wl_9, wl_10, wl_12, wl_13, wl_14, wl_16, wl_20, wl_21, wl_22, wl_23, wl_32, wl_36, wl_40, wl_41, wl_42, wl_43, wl_44, wl_45, wl_46, wl_47, wl_48, wl_57, wl_59, wl_60, wl_61, wl_62, wl_65, wl_90, wl_97, wl_99, wl_100, wl_121, wl_122, wl_140, wl_142, wl_143, wl_145, wl_147, wl_160, wl_161, wl_162, wl_242, wl_380, wl_400, wl_420, wl_820, wl_1340, wl_5480, wl_9999, true_and, and_true, true_or, or_true, if_true, if_false, and_self, or_self, false_and, and_false, false_or, or_false, not_true_eq_false, not_false_eq_true, Int.reduceEq, Int.reduceLT, Int.reduceLE, Int.reduceToNat, Int.reduceAdd, Int.reduceMul, Int.reduceSub, Int.reduceMod, Int.reduceDiv, Int.reduceNeg, Nat.reduceEqDiff, sm_rd_ok, sm_rd_ok2, sm_wt_ok, sm_cp_ok, Option.isSome_some, Option.getD_some, w_cont, Option.toList_some, Option.toList_none, List.cons_append, List.nil_append]
    rfl
set_option maxHeartbeats 1000000 in
theorem m_sp1 (H : sm_sh Rf K) (hM : Z 80 = M) (hs : szN M) (hT : ∀ k, k < 242 → -1 ≤ M (850 + k) ∧ M (850 + k) ≤ 7) {f c : Int} {st : spT} (hf : wfS (M 0) (M 1) f st) (hf0 : 0 ≤ f ∧ f < 100) (hc : isC (M 0) (M 1) c = true) (hr : rSp Z 93 94 st) (k : Nat) (hk : k < 4) (l3 l7 : Option sm_V) : ∃ Z' l7', rSp Z' 93 94 (spS (M 0) (M 1) (fun j => M (850 + j)) f c (k : Int) st) ∧ (∀ a, a ≠ 93 → a ≠ 94 → Z' a = Z a) ∧ ∀ Q, sm_wp (d + 3) 173 51 [some (.inr (some 79)), some (.inl f), some (.inl (st.2.2 : Int)), l3, some (.inl (c % 10)), some (.inl (c / 10)), some (.inl (k : Int)), l7] [] (Z, Rf, K, n, z) Q = sm_wp (d + 3) 173 51 [some (.inr (some 79)), some (.inl f), some (.inl ((spS (M 0) (M 1) (fun j => M (850 + j)) f c (k : Int) st).2.2 : Int)), l3, some (.inl (c % 10)), some (.inl (c / 10)), some (.inl ((k + 1 : Nat) : Int)), l7'] [] (Z', Rf, K, n, z) Q := by
  have hs' := hs
  unfold szN at hs'
  have hcc := hc
  simp only [isC, decide_eq_true_eq] at hcc
  have hb := dXY_bd (k : Int)
  have hnb := nxC_bd hs'.1.2 hs'.2.2 c (k : Int)
  have head : ∀ Q, sm_wp (d + 3) 173 51 [some (.inr (some 79)), some (.inl f), some (.inl (st.2.2 : Int)), l3, some (.inl (c % 10)), some (.inl (c / 10)), some (.inl (k : Int)), l7] [] (Z, Rf, K, n, z) Q = if opn (M 0) (M 1) (fun j => M (850 + j)) c (k : Int) = false then sm_wp (d + 3) 173 70 [some (.inr (some 79)), some (.inl f), some (.inl (st.2.2 : Int)), l3, some (.inl (c % 10)), some (.inl (c / 10)), some (.inl (k : Int)), l7] [] (Z, Rf, K, n, z) Q else sm_wp (d + 3) 173 73 [some (.inr (some 79)), some (.inl f), some (.inl (st.2.2 : Int)), l3, some (.inl (c % 10)), some (.inl (c / 10)), some (.inl (k : Int)), l7] [] (Z, Rf, K, n, z) Q := by
    intro Q
    rw [b173_51, wr_id (by omega) (by omega), if_neg (by omega), b173_57, kk_79 H, m_isOpen H hM hs hc (by omega) hT, w_cont]
    simp only [wr_id, wr_b2i, wr_wr, b2i_eq0, b2i_eq1, b2i_01, sm_rem_eq, sm_div_eq, wl_m2, wl_m1, wl_0, wl_1, wl_2, wl_3, wl_4, wl_5, wl_6, wl_7, wl_8, wl_9, wl_10, wl_12, wl_13, wl_14, wl_16, wl_20, wl_21, wl_22, wl_23, wl_32, wl_36, wl_40, wl_41, wl_42, wl_43, wl_44, wl_45, wl_46, wl_47, wl_48, wl_57, wl_59, wl_60, wl_61, wl_62, wl_65, wl_90, wl_97, wl_99, wl_100, wl_121, wl_122, wl_140, wl_142, wl_143, wl_145, wl_147, wl_160, wl_161, wl_162, wl_242, wl_380, wl_400, wl_420, wl_820, wl_1340, wl_5480, wl_9999, true_and, and_true, true_or, or_true, if_true, if_false, and_self, or_self, false_and, and_false, false_or, or_false, not_true_eq_false, not_false_eq_true, Int.reduceEq, Int.reduceLT, Int.reduceLE, Int.reduceToNat, Int.reduceAdd, Int.reduceMul, Int.reduceSub, Int.reduceMod, Int.reduceDiv, Int.reduceNeg, Nat.reduceEqDiff, sm_rd_ok, sm_rd_ok2, sm_wt_ok, sm_cp_ok, Option.isSome_some, Option.getD_some, w_cont, Option.toList_some, Option.toList_none, List.cons_append, List.nil_append]
    rw [b173_67]
    simp only [wr_id, wr_b2i, wr_wr, b2i_eq0, b2i_eq1, b2i_01, sm_rem_eq, sm_div_eq, wl_m2, wl_m1, wl_0, wl_1, wl_2, wl_3, wl_4, wl_5, wl_6, wl_7, wl_8, wl_9, wl_10, wl_12, wl_13, wl_14, wl_16, wl_20, wl_21, wl_22, wl_23, wl_32, wl_36, wl_40, wl_41, wl_42, wl_43, wl_44, wl_45, wl_46, wl_47, wl_48, wl_57, wl_59, wl_60, wl_61, wl_62, wl_65, wl_90, wl_97, wl_99, wl_100, wl_121, wl_122, wl_140, wl_142, wl_143, wl_145, wl_147, wl_160, wl_161, wl_162, wl_242, wl_380, wl_400, wl_420, wl_820, wl_1340, wl_5480, wl_9999, true_and, and_true, true_or, or_true, if_true, if_false, and_self, or_self, false_and, and_false, false_or, or_false, not_true_eq_false, not_false_eq_true, Int.reduceEq, Int.reduceLT, Int.reduceLE, Int.reduceToNat, Int.reduceAdd, Int.reduceMul, Int.reduceSub, Int.reduceMod, Int.reduceDiv, Int.reduceNeg, Nat.reduceEqDiff, sm_rd_ok, sm_rd_ok2, sm_wt_ok, sm_cp_ok, Option.isSome_some, Option.getD_some, w_cont, Option.toList_some, Option.toList_none, List.cons_append, List.nil_append]
  unfold spS
  by_cases ho : opn (M 0) (M 1) (fun j => M (850 + j)) c (k : Int) = true
  · have ho' := ho
    simp only [opn, decide_eq_true_eq] at ho'
    have hp := (cAt_ne (w := M 0) (h := M 1) (c % 10 + dX (k : Int)) (c / 10 + dY (k : Int))).1 ho'.1
    have en : nxC (M 0) (M 1) c (k : Int) = (c / 10 + dY (k : Int)) * 10 + (c % 10 + dX (k : Int)) := cAt_pos hp
    have hnm := hf.2.1 (nxC (M 0) (M 1) c (k : Int)).toNat (by omega)
    have mid : ∀ Q, sm_wp (d + 3) 173 51 [some (.inr (some 79)), some (.inl f), some (.inl (st.2.2 : Int)), l3, some (.inl (c % 10)), some (.inl (c / 10)), some (.inl (k : Int)), l7] [] (Z, Rf, K, n, z) Q = if st.1 (nxC (M 0) (M 1) c (k : Int)).toNat = -1 then sm_wp (d + 3) 173 109 [some (.inr (some 79)), some (.inl f), some (.inl (st.2.2 : Int)), l3, some (.inl (c % 10)), some (.inl (c / 10)), some (.inl (k : Int)), some (.inl (nxC (M 0) (M 1) c (k : Int)))] [] (Z, Rf, K, n, z) Q else sm_wp (d + 3) 173 106 [some (.inr (some 79)), some (.inl f), some (.inl (st.2.2 : Int)), l3, some (.inl (c % 10)), some (.inl (c / 10)), some (.inl (k : Int)), some (.inl (nxC (M 0) (M 1) c (k : Int)))] [] (Z, Rf, K, n, z) Q := by
      intro Q
      rw [head, if_neg (by rw [ho]; decide), b173_73, m_aheadY ⟨by omega, by omega⟩, w_cont]
      simp only [wr_id, wr_b2i, wr_wr, b2i_eq0, b2i_eq1, b2i_01, sm_rem_eq, sm_div_eq, wl_m2, wl_m1, wl_0, wl_1, wl_2, wl_3, wl_4, wl_5, wl_6, wl_7, wl_8, wl_9, wl_10, wl_12, wl_13, wl_14, wl_16, wl_20, wl_21, wl_22, wl_23, wl_32, wl_36, wl_40, wl_41, wl_42, wl_43, wl_44, wl_45, wl_46, wl_47, wl_48, wl_57, wl_59, wl_60, wl_61, wl_62, wl_65, wl_90, wl_97, wl_99, wl_100, wl_121, wl_122, wl_140, wl_142, wl_143, wl_145, wl_147, wl_160, wl_161, wl_162, wl_242, wl_380, wl_400, wl_420, wl_820, wl_1340, wl_5480, wl_9999, true_and, and_true, true_or, or_true, if_true, if_false, and_self, or_self, false_and, and_false, false_or, or_false, not_true_eq_false, not_false_eq_true, Int.reduceEq, Int.reduceLT, Int.reduceLE, Int.reduceToNat, Int.reduceAdd, Int.reduceMul, Int.reduceSub, Int.reduceMod, Int.reduceDiv, Int.reduceNeg, Nat.reduceEqDiff, sm_rd_ok, sm_rd_ok2, sm_wt_ok, sm_cp_ok, Option.isSome_some, Option.getD_some, w_cont, Option.toList_some, Option.toList_none, List.cons_append, List.nil_append]
      rw [b173_82, m_aheadX ⟨by omega, by omega⟩, w_cont]
      simp only [wr_id, wr_b2i, wr_wr, b2i_eq0, b2i_eq1, b2i_01, sm_rem_eq, sm_div_eq, wl_m2, wl_m1, wl_0, wl_1, wl_2, wl_3, wl_4, wl_5, wl_6, wl_7, wl_8, wl_9, wl_10, wl_12, wl_13, wl_14, wl_16, wl_20, wl_21, wl_22, wl_23, wl_32, wl_36, wl_40, wl_41, wl_42, wl_43, wl_44, wl_45, wl_46, wl_47, wl_48, wl_57, wl_59, wl_60, wl_61, wl_62, wl_65, wl_90, wl_97, wl_99, wl_100, wl_121, wl_122, wl_140, wl_142, wl_143, wl_145, wl_147, wl_160, wl_161, wl_162, wl_242, wl_380, wl_400, wl_420, wl_820, wl_1340, wl_5480, wl_9999, true_and, and_true, true_or, or_true, if_true, if_false, and_self, or_self, false_and, and_false, false_or, or_false, not_true_eq_false, not_false_eq_true, Int.reduceEq, Int.reduceLT, Int.reduceLE, Int.reduceToNat, Int.reduceAdd, Int.reduceMul, Int.reduceSub, Int.reduceMod, Int.reduceDiv, Int.reduceNeg, Nat.reduceEqDiff, sm_rd_ok, sm_rd_ok2, sm_wt_ok, sm_cp_ok, Option.isSome_some, Option.getD_some, w_cont, Option.toList_some, Option.toList_none, List.cons_append, List.nil_append]
      rw [b173_92, kk_79 H, rr_79_28 H, show 10 * (c / 10 + dY (k : Int)) + c % 10 + dX (k : Int) = nxC (M 0) (M 1) c (k : Int) by omega]
      simp (disch := omega) only [wr_id, wr_b2i, wr_wr, b2i_eq0, b2i_eq1, b2i_01, sm_rem_eq, sm_div_eq, wl_m2, wl_m1, wl_0, wl_1, wl_2, wl_3, wl_4, wl_5, wl_6, wl_7, wl_8, wl_9, wl_10, wl_12, wl_13, wl_14, wl_16, wl_20, wl_21, wl_22, wl_23, wl_32, wl_36, wl_40, wl_41, wl_42, wl_43, wl_44, wl_45, wl_46, wl_47, wl_48, wl_57, wl_59, wl_60, wl_61, wl_62, wl_65, wl_90, wl_97, wl_99, wl_100, wl_121, wl_122, wl_140, wl_142, wl_143, wl_145, wl_147, wl_160, wl_161, wl_162, wl_242, wl_380, wl_400, wl_420, wl_820, wl_1340, wl_5480, wl_9999, true_and, and_true, true_or, or_true, if_true, if_false, and_self, or_self, false_and, and_false, false_or, or_false, not_true_eq_false, not_false_eq_true, Int.reduceEq, Int.reduceLT, Int.reduceLE, Int.reduceToNat, Int.reduceAdd, Int.reduceMul, Int.reduceSub, Int.reduceMod, Int.reduceDiv, Int.reduceNeg, Nat.reduceEqDiff, sm_rd_ok, sm_rd_ok2, sm_wt_ok, sm_cp_ok, Option.isSome_some, Option.getD_some, w_cont, Option.toList_some, Option.toList_none, List.cons_append, List.nil_append, kk_93 H]
      rw [hr.1 _ (by omega), wr_id (by omega) (by omega)]
    by_cases h1 : st.1 (nxC (M 0) (M 1) c (k : Int)).toNat = -1
    · rw [if_pos ⟨ho, h1⟩]
      have hlt := spS_lt hf hs'.1.2 hs'.2.2 ho'.1 h1
      refine ⟨sm_u (sm_u Z 93 (nxC (M 0) (M 1) c (k : Int)).toNat f) 94 st.2.2 (nxC (M 0) (M 1) c (k : Int)), some (.inl (nxC (M 0) (M 1) c (k : Int))), rSp_upd (by decide) hr, fun a g1 g2 => by rw [sm_u_row g2, sm_u_row g1], fun Q => ?_⟩
      rw [mid, if_pos h1, b173_109, kk_79 H, rr_79_28 H, rr_79_29 H]
      simp (disch := omega) only [wr_id, wr_b2i, wr_wr, b2i_eq0, b2i_eq1, b2i_01, sm_rem_eq, sm_div_eq, wl_m2, wl_m1, wl_0, wl_1, wl_2, wl_3, wl_4, wl_5, wl_6, wl_7, wl_8, wl_9, wl_10, wl_12, wl_13, wl_14, wl_16, wl_20, wl_21, wl_22, wl_23, wl_32, wl_36, wl_40, wl_41, wl_42, wl_43, wl_44, wl_45, wl_46, wl_47, wl_48, wl_57, wl_59, wl_60, wl_61, wl_62, wl_65, wl_90, wl_97, wl_99, wl_100, wl_121, wl_122, wl_140, wl_142, wl_143, wl_145, wl_147, wl_160, wl_161, wl_162, wl_242, wl_380, wl_400, wl_420, wl_820, wl_1340, wl_5480, wl_9999, true_and, and_true, true_or, or_true, if_true, if_false, and_self, or_self, false_and, and_false, false_or, or_false, not_true_eq_false, not_false_eq_true, Int.reduceEq, Int.reduceLT, Int.reduceLE, Int.reduceToNat, Int.reduceAdd, Int.reduceMul, Int.reduceSub, Int.reduceMod, Int.reduceDiv, Int.reduceNeg, Nat.reduceEqDiff, sm_rd_ok, sm_rd_ok2, sm_wt_ok, sm_cp_ok, Option.isSome_some, Option.getD_some, w_cont, Option.toList_some, Option.toList_none, List.cons_append, List.nil_append, kk_93 H, kk_94 H, Int.toNat_natCast]
      rw [b173_128]
      rfl
    · rw [if_neg (by intro h; exact h1 h.2)]
      refine ⟨Z, some (.inl (nxC (M 0) (M 1) c (k : Int))), hr, fun _ _ _ => rfl, fun Q => ?_⟩
      rw [mid, if_neg h1, b173_106, b173_128]
      rfl
  · have ho' : opn (M 0) (M 1) (fun j => M (850 + j)) c (k : Int) = false := Bool.eq_false_iff.2 ho
    rw [if_neg (by intro h; exact ho h.1)]
    refine ⟨Z, l7, hr, fun _ _ _ => rfl, fun Q => ?_⟩
    rw [head, if_pos ho', b173_70, b173_128]
    rfl
theorem m_spN (H : sm_sh Rf K) (hM : Z 80 = M) (hs : szN M) (hT : ∀ k, k < 242 → -1 ≤ M (850 + k) ∧ M (850 + k) ≤ 7) {f c : Int} {st : spT} (hf : wfS (M 0) (M 1) f st) (hf0 : 0 ≤ f ∧ f < 100) (hc : isC (M 0) (M 1) c = true) (hr : rSp Z 93 94 st) (l3 l7 : Option sm_V) : ∃ Z' l7', rSp Z' 93 94 (spN (M 0) (M 1) (fun j => M (850 + j)) f c st) ∧ (∀ a, a ≠ 93 → a ≠ 94 → Z' a = Z a) ∧ ∀ Q, sm_wp (d + 3) 173 51 [some (.inr (some 79)), some (.inl f), some (.inl (st.2.2 : Int)), l3, some (.inl (c % 10)), some (.inl (c / 10)), some (.inl 0), l7] [] (Z, Rf, K, n, z) Q = sm_wp (d + 3) 173 134 [some (.inr (some 79)), some (.inl f), some (.inl ((spN (M 0) (M 1) (fun j => M (850 + j)) f c st).2.2 : Int)), l3, some (.inl (c % 10)), some (.inl (c / 10)), some (.inl 4), l7'] [] (Z', Rf, K, n, z) Q := by
  have hs' := hs
  unfold szN at hs'
  obtain ⟨Z0, la, a0, b0, c0⟩ := m_sp1 (d := d) (n := n) (z := z) H hM hs hT hf hf0 hc hr 0 (by omega) l3 l7
  have f0 := (spS_wf (T := fun j => M (850 + j)) hf hf0 hs'.1.2 hs'.2.2 c ((0 : Nat) : Int)).1
  obtain ⟨Z1, lb, a1, b1, c1⟩ := m_sp1 (d := d) (n := n) (z := z) H (by rw [b0 80 (by decide) (by decide)]; exact hM) hs hT f0 hf0 hc a0 1 (by omega) l3 la
  have f1 := (spS_wf (T := fun j => M (850 + j)) f0 hf0 hs'.1.2 hs'.2.2 c ((1 : Nat) : Int)).1
  obtain ⟨Z2, lc, a2, b2, c2⟩ := m_sp1 (d := d) (n := n) (z := z) H (by rw [b1 80 (by decide) (by decide), b0 80 (by decide) (by decide)]; exact hM) hs hT f1 hf0 hc a1 2 (by omega) l3 lb
  have f2 := (spS_wf (T := fun j => M (850 + j)) f1 hf0 hs'.1.2 hs'.2.2 c ((2 : Nat) : Int)).1
  obtain ⟨Z3, ld, a3, b3, c3⟩ := m_sp1 (d := d) (n := n) (z := z) H (by rw [b2 80 (by decide) (by decide), b1 80 (by decide) (by decide), b0 80 (by decide) (by decide)]; exact hM) hs hT f2 hf0 hc a2 3 (by omega) l3 lc
  refine ⟨Z3, ld, a3, fun a g1 g2 => by rw [b3 a g1 g2, b2 a g1 g2, b1 a g1 g2, b0 a g1 g2], fun Q => ?_⟩
  refine (c0 Q).trans ((c1 Q).trans ((c2 Q).trans ((c3 Q).trans ?_)))
  rw [b173_51, wr_id (by omega) (by omega), if_pos (by omega)]
  rfl
theorem m_sp_loop (H : sm_sh Rf K) (hs : szN M) (hT : ∀ k, k < 242 → -1 ≤ M (850 + k) ∧ M (850 + k) ≤ 7) {f : Int} (hf0 : 0 ≤ f ∧ f < 100) : ∀ (k i : Nat) (st : spT) (Z : Nat → Nat → Int) (l4 l5 l6 l7 : Option sm_V), i + k = 100 → Z 80 = M → wfS (M 0) (M 1) f st → rSp Z 93 94 st → ∃ Z', rSp Z' 93 94 (spR (M 0) (M 1) (fun j => M (850 + j)) f k i st) ∧ (∀ a, a ≠ 93 → a ≠ 94 → Z' a = Z a) ∧ ∀ Q, sm_wp (d + 3) 173 21 [some (.inr (some 79)), some (.inl f), some (.inl (st.2.2 : Int)), some (.inl (i : Int)), l4, l5, l6, l7] [] (Z, Rf, K, n, z) Q = Q none (Z', Rf, K, n, z) := by
  have hs' := hs
  unfold szN at hs'
  intro k
  induction k with
  | zero =>
    intro i st Z l4 l5 l6 l7 hik hM hf hr
    have hle := wfS_le hf
    refine ⟨Z, hr, fun _ _ _ => rfl, fun Q => ?_⟩
    rw [b173_21, wr_id (by omega) (by omega), wr_id (by omega) (by omega), if_pos (by omega), b173_140]
  | succ k ih =>
    intro i st Z l4 l5 l6 l7 hik hM hf hr
    have hle := wfS_le hf
    simp only [spR]
    by_cases hi : i < st.2.2
    · rw [if_pos hi]
      have hc := hf.1 i hi
      have hcc := hc
      simp only [isC, decide_eq_true_eq] at hcc
      obtain ⟨Z1, l7a, g1, g2, g3⟩ := m_spN (d := d) (n := n) (z := z) H hM hs hT hf hf0 hc hr (some (.inl (i : Int))) l7
      obtain ⟨f1, _⟩ := spN_wf (T := fun j => M (850 + j)) hf hf0 hs'.1.2 hs'.2.2 (st.2.1 i)
      obtain ⟨Z2, e1, e2, e3⟩ := ih (i + 1) _ Z1 (some (.inl (st.2.1 i % 10))) (some (.inl (st.2.1 i / 10))) (some (.inl 4)) l7a (by omega) (by rw [g2 80 (by decide) (by decide)]; exact hM) f1 g1
      refine ⟨Z2, e1, fun a h1 h2 => by rw [e2 a h1 h2, g2 a h1 h2], fun Q => ?_⟩
      rw [b173_21, wr_id (by omega) (by omega), wr_id (by omega) (by omega), if_neg (by omega), b173_26, kk_79 H, rr_79_29 H]
      simp (disch := omega) only [wr_id, wr_b2i, wr_wr, b2i_eq0, b2i_eq1, b2i_01, sm_rem_eq, sm_div_eq, wl_m2, wl_m1, wl_0, wl_1, wl_2, wl_3, wl_4, wl_5, wl_6, wl_7, wl_8, wl_9, wl_10, wl_12, wl_13, wl_14, wl_16, wl_20, wl_21, wl_22, wl_23, wl_32, wl_36, wl_40, wl_41, wl_42, wl_43, wl_44, wl_45, wl_46, wl_47, wl_48, wl_57, wl_59, wl_60, wl_61, wl_62, wl_65, wl_90, wl_97, wl_99, wl_100, wl_121, wl_122, wl_140, wl_142, wl_143, wl_145, wl_147, wl_160, wl_161, wl_162, wl_242, wl_380, wl_400, wl_420, wl_820, wl_1340, wl_5480, wl_9999, true_and, and_true, true_or, or_true, if_true, if_false, and_self, or_self, false_and, and_false, false_or, or_false, not_true_eq_false, not_false_eq_true, Int.reduceEq, Int.reduceLT, Int.reduceLE, Int.reduceToNat, Int.reduceAdd, Int.reduceMul, Int.reduceSub, Int.reduceMod, Int.reduceDiv, Int.reduceNeg, Nat.reduceEqDiff, sm_rd_ok, sm_rd_ok2, sm_wt_ok, sm_cp_ok, Option.isSome_some, Option.getD_some, w_cont, Option.toList_some, Option.toList_none, List.cons_append, List.nil_append, kk_94 H, Int.toNat_natCast, hr.2 i hi]
      rw [g3, b173_134, show (i : Int) + 1 = ((i + 1 : Nat) : Int) by omega, e3]
    · rw [if_neg hi]
      refine ⟨Z, hr, fun _ _ _ => rfl, fun Q => ?_⟩
      rw [b173_21, wr_id (by omega) (by omega), wr_id (by omega) (by omega), if_pos (by omega), b173_140]
theorem m_spreads (H : sm_sh Rf K) (hM : Z 80 = M) (hs : szN M) (hT : ∀ k, k < 242 → -1 ≤ M (850 + k) ∧ M (850 + k) ≤ 7) {c : Nat} {st : mkT} (hc : c < 100) (hf : wfM (M 0) (M 1) c st) (hi : isC (M 0) (M 1) (c : Int) = true) (h1 : st.1 c = -1) (hr : ∀ k, k < 100 → Z 93 k = st.1 k) : ∃ Z', (∀ k, k < 100 → Z' 93 k = (spF (M 0) (M 1) (fun j => M (850 + j)) c st.1).1 k) ∧ (∀ a, a ≠ 93 → a ≠ 94 → Z' a = Z a) ∧ ∀ Q, sm_call (d + 3) 173 [.inr (some 79), .inl (c : Int)] (Z, Rf, K, n, z) Q = Q none (Z', Rf, K, n, z) := by
  obtain ⟨Z', e1, e2, e3⟩ := m_sp_loop (d := d) (n := n) (z := z) H hs hT (f := (c : Int)) (by omega) 100 0 (mU st.1 c (c : Int), fun _ => (c : Int), 1) (sm_u (sm_u Z 94 0 (c : Int)) 93 c (c : Int)) none none none none (by omega) (by rw [sm_u_row (by decide), sm_u_row (by decide)]; exact hM) (wfS_first hf hc hi h1) ⟨fun k hk => by
      rw [sm_u_eq]
      simp only [mU]
      split
      · rfl
      · rw [sm_u_ne (by decide)]; exact hr k hk, fun i hi => by
      rw [sm_u_ne (by decide), sm_u_eq]
      simp only at hi
      rw [if_pos (by omega)]⟩
  refine ⟨Z', e1.1, fun a g1 g2 => by rw [e2 a g1 g2, sm_u_row g1, sm_u_row g2], fun Q => ?_⟩
  rw [ce173, b173_0, kk_79 H, rr_79_28 H, rr_79_29 H]
  simp (disch := omega) only [wr_id, wr_b2i, wr_wr, b2i_eq0, b2i_eq1, b2i_01, sm_rem_eq, sm_div_eq, wl_m2, wl_m1, wl_0, wl_1, wl_2, wl_3, wl_4, wl_5, wl_6, wl_7, wl_8, wl_9, wl_10, wl_12, wl_13, wl_14, wl_16, wl_20, wl_21, wl_22, wl_23, wl_32, wl_36, wl_40, wl_41, wl_42, wl_43, wl_44, wl_45, wl_46, wl_47, wl_48, wl_57, wl_59, wl_60, wl_61, wl_62, wl_65, wl_90, wl_97, wl_99, wl_100, wl_121, wl_122, wl_140, wl_142, wl_143, wl_145, wl_147, wl_160, wl_161, wl_162, wl_242, wl_380, wl_400, wl_420, wl_820, wl_1340, wl_5480, wl_9999, true_and, and_true, true_or, or_true, if_true, if_false, and_self, or_self, false_and, and_false, false_or, or_false, not_true_eq_false, not_false_eq_true, Int.reduceEq, Int.reduceLT, Int.reduceLE, Int.reduceToNat, Int.reduceAdd, Int.reduceMul, Int.reduceSub, Int.reduceMod, Int.reduceDiv, Int.reduceNeg, Nat.reduceEqDiff, sm_rd_ok, sm_rd_ok2, sm_wt_ok, sm_cp_ok, Option.isSome_some, Option.getD_some, w_cont, Option.toList_some, Option.toList_none, List.cons_append, List.nil_append, kk_93 H, kk_94 H, Int.toNat_natCast]
  exact e3 Q
theorem m_lc_fill (H : sm_sh Rf K) : ∀ (k i : Nat) (Z : Nat → Nat → Int), i + k = 100 → sm_wp d 174 7 [some (.inr (some 79)), some (.inl (i : Int))] [] (Z, Rf, K, n, z) Q = sm_wp d 174 28 [some (.inr (some 79)), some (.inl 0)] [] (sm_fr Z 93 i 100 (-1), Rf, K, n, z) Q := by
  intro k
  induction k with
  | zero =>
    intro i Z h
    have hi : i = 100 := by omega
    subst hi
    rw [b174_7, wr_id (by omega) (by omega), if_pos (by omega), sm_fr_none, b174_26]
  | succ k ih =>
    intro i Z h
    rw [b174_7, wr_id (by omega) (by omega), if_neg (by omega), b174_13, kk_79 H, rr_79_28 H]
    simp (disch := omega) only [wr_id, wr_b2i, wr_wr, b2i_eq0, b2i_eq1, b2i_01, sm_rem_eq, sm_div_eq, wl_m2, wl_m1, wl_0, wl_1, wl_2, wl_3, wl_4, wl_5, wl_6, wl_7, wl_8, wl_9, wl_10, wl_12, wl_13, wl_14, wl_16, wl_20, wl_21, wl_22, wl_23, wl_32, wl_36, wl_40, wl_41, wl_42, wl_43, wl_44, wl_45, wl_46, wl_47, wl_48, wl_57, wl_59, wl_60, wl_61, wl_62, wl_65, wl_90, wl_97, wl_99, wl_100, wl_121, wl_122, wl_140, wl_142, wl_143, wl_145, wl_147, wl_160, wl_161, wl_162, wl_242, wl_380, wl_400, wl_420, wl_820, wl_1340, wl_5480, wl_9999, true_and, and_true, true_or, or_true, if_true, if_false, and_self, or_self, false_and, and_false, false_or, or_false, not_true_eq_false, not_false_eq_true, Int.reduceEq, Int.reduceLT, Int.reduceLE, Int.reduceToNat, Int.reduceAdd, Int.reduceMul, Int.reduceSub, Int.reduceMod, Int.reduceDiv, Int.reduceNeg, Nat.reduceEqDiff, sm_rd_ok, sm_rd_ok2, sm_wt_ok, sm_cp_ok, Option.isSome_some, Option.getD_some, w_cont, Option.toList_some, Option.toList_none, List.cons_append, List.nil_append, kk_93 H, Int.toNat_natCast]
    rw [show (i : Int) + 1 = ((i + 1 : Nat) : Int) by omega, ih (i + 1) _ (by omega), sm_fr_step _ _ _ _ _ (by omega)]
theorem m_lc_loop (H : sm_sh Rf K) (hs : szN M) (hT : ∀ k, k < 242 → -1 ≤ M (850 + k) ∧ M (850 + k) ≤ 7) : ∀ (k c : Nat) (st : mkT) (Z : Nat → Nat → Int), c + k = 100 → Z 80 = M → wfM (M 0) (M 1) c st → (∀ k, k < 100 → Z 93 k = st.1 k) → Z 79 30 = st.2.2 → ∃ Z', (∀ j, j < 100 → Z' 93 j = (mkR (M 0) (M 1) (fun j => M (850 + j)) k c st).1 j) ∧ Z' 79 30 = (mkR (M 0) (M 1) (fun j => M (850 + j)) k c st).2.2 ∧ (∀ a, a ≠ 79 → a ≠ 93 → a ≠ 94 → Z' a = Z a) ∧ (∀ j, j ≠ 30 → Z' 79 j = Z 79 j) ∧ ∀ Q, sm_wp (d + 4) 174 28 [some (.inr (some 79)), some (.inl (c : Int))] [] (Z, Rf, K, n, z) Q = Q none (Z', Rf, K, n, z) := by
  have hs' := hs
  unfold szN at hs'
  intro k
  induction k with
  | zero =>
    intro c st Z hck hM hf hr h30
    refine ⟨Z, hr, h30, fun _ _ _ _ => rfl, fun _ _ => rfl, fun Q => ?_⟩
    rw [b174_28, wr_id (by omega) (by omega), if_pos (by omega), b174_76]
  | succ k ih =>
    intro c st Z hck hM hf hr h30
    have hszM : szM Z := by subst hM; exact hs
    have hf2 := mk1_wf (T := fun j => M (850 + j)) (by omega) hs'.1.2 hs'.2.2 hf
    have hn := hf.1 c (by omega)
    have head : ∀ Q, sm_wp (d + 4) 174 28 [some (.inr (some 79)), some (.inl (c : Int))] [] (Z, Rf, K, n, z) Q = if isC (M 0) (M 1) (c : Int) = true ∧ st.1 c = -1 then sm_wp (d + 4) 174 55 [some (.inr (some 79)), some (.inl (c : Int))] [] (Z, Rf, K, n, z) Q else sm_wp (d + 4) 174 28 [some (.inr (some 79)), some (.inl ((c + 1 : Nat) : Int))] [] (Z, Rf, K, n, z) Q := by
      intro Q
      rw [b174_28, wr_id (by omega) (by omega), if_neg (by omega), b174_34, kk_79 H, m_isCell H hszM ⟨by omega, by omega⟩, w_cont, hM]
      simp only [wr_id, wr_b2i, wr_wr, b2i_eq0, b2i_eq1, b2i_01, sm_rem_eq, sm_div_eq, wl_m2, wl_m1, wl_0, wl_1, wl_2, wl_3, wl_4, wl_5, wl_6, wl_7, wl_8, wl_9, wl_10, wl_12, wl_13, wl_14, wl_16, wl_20, wl_21, wl_22, wl_23, wl_32, wl_36, wl_40, wl_41, wl_42, wl_43, wl_44, wl_45, wl_46, wl_47, wl_48, wl_57, wl_59, wl_60, wl_61, wl_62, wl_65, wl_90, wl_97, wl_99, wl_100, wl_121, wl_122, wl_140, wl_142, wl_143, wl_145, wl_147, wl_160, wl_161, wl_162, wl_242, wl_380, wl_400, wl_420, wl_820, wl_1340, wl_5480, wl_9999, true_and, and_true, true_or, or_true, if_true, if_false, and_self, or_self, false_and, and_false, false_or, or_false, not_true_eq_false, not_false_eq_true, Int.reduceEq, Int.reduceLT, Int.reduceLE, Int.reduceToNat, Int.reduceAdd, Int.reduceMul, Int.reduceSub, Int.reduceMod, Int.reduceDiv, Int.reduceNeg, Nat.reduceEqDiff, sm_rd_ok, sm_rd_ok2, sm_wt_ok, sm_cp_ok, Option.isSome_some, Option.getD_some, w_cont, Option.toList_some, Option.toList_none, List.cons_append, List.nil_append]
      rw [b174_39]
      simp only [wr_id, wr_b2i, wr_wr, b2i_eq0, b2i_eq1, b2i_01, sm_rem_eq, sm_div_eq, wl_m2, wl_m1, wl_0, wl_1, wl_2, wl_3, wl_4, wl_5, wl_6, wl_7, wl_8, wl_9, wl_10, wl_12, wl_13, wl_14, wl_16, wl_20, wl_21, wl_22, wl_23, wl_32, wl_36, wl_40, wl_41, wl_42, wl_43, wl_44, wl_45, wl_46, wl_47, wl_48, wl_57, wl_59, wl_60, wl_61, wl_62, wl_65, wl_90, wl_97, wl_99, wl_100, wl_121, wl_122, wl_140, wl_142, wl_143, wl_145, wl_147, wl_160, wl_161, wl_162, wl_242, wl_380, wl_400, wl_420, wl_820, wl_1340, wl_5480, wl_9999, true_and, and_true, true_or, or_true, if_true, if_false, and_self, or_self, false_and, and_false, false_or, or_false, not_true_eq_false, not_false_eq_true, Int.reduceEq, Int.reduceLT, Int.reduceLE, Int.reduceToNat, Int.reduceAdd, Int.reduceMul, Int.reduceSub, Int.reduceMod, Int.reduceDiv, Int.reduceNeg, Nat.reduceEqDiff, sm_rd_ok, sm_rd_ok2, sm_wt_ok, sm_cp_ok, Option.isSome_some, Option.getD_some, w_cont, Option.toList_some, Option.toList_none, List.cons_append, List.nil_append]
      by_cases h1 : isC (M 0) (M 1) (c : Int) = true
      · rw [if_neg (by rw [h1]; decide), b174_42, kk_79 H, rr_79_28 H]
        simp (disch := omega) only [wr_id, wr_b2i, wr_wr, b2i_eq0, b2i_eq1, b2i_01, sm_rem_eq, sm_div_eq, wl_m2, wl_m1, wl_0, wl_1, wl_2, wl_3, wl_4, wl_5, wl_6, wl_7, wl_8, wl_9, wl_10, wl_12, wl_13, wl_14, wl_16, wl_20, wl_21, wl_22, wl_23, wl_32, wl_36, wl_40, wl_41, wl_42, wl_43, wl_44, wl_45, wl_46, wl_47, wl_48, wl_57, wl_59, wl_60, wl_61, wl_62, wl_65, wl_90, wl_97, wl_99, wl_100, wl_121, wl_122, wl_140, wl_142, wl_143, wl_145, wl_147, wl_160, wl_161, wl_162, wl_242, wl_380, wl_400, wl_420, wl_820, wl_1340, wl_5480, wl_9999, true_and, and_true, true_or, or_true, if_true, if_false, and_self, or_self, false_and, and_false, false_or, or_false, not_true_eq_false, not_false_eq_true, Int.reduceEq, Int.reduceLT, Int.reduceLE, Int.reduceToNat, Int.reduceAdd, Int.reduceMul, Int.reduceSub, Int.reduceMod, Int.reduceDiv, Int.reduceNeg, Nat.reduceEqDiff, sm_rd_ok, sm_rd_ok2, sm_wt_ok, sm_cp_ok, Option.isSome_some, Option.getD_some, w_cont, Option.toList_some, Option.toList_none, List.cons_append, List.nil_append, kk_93 H, Int.toNat_natCast]
        rw [hr c (by omega), wr_id (by omega) (by omega)]
        by_cases h2 : st.1 c = -1
        · rw [if_pos h2, if_pos ⟨h1, h2⟩]
        · rw [if_neg h2, if_neg (by intro h; exact h2 h.2), b174_52, b174_70]
          rfl
      · rw [if_pos (Bool.eq_false_iff.2 h1), if_neg (by intro h; exact h1 h.1), b174_70]
        rfl
    simp only [mkR]
    by_cases hq : isC (M 0) (M 1) (c : Int) = true ∧ st.1 c = -1
    · obtain ⟨Z1, g1, g2, g3⟩ := m_spreads (d := d) (n := n) (z := z) H hM hs hT (by omega) hf hq.1 hq.2 hr
      have em : mk1 (M 0) (M 1) (fun j => M (850 + j)) c st = ((spF (M 0) (M 1) (fun j => M (850 + j)) c st.1).1, mU st.2.1 c ((spF (M 0) (M 1) (fun j => M (850 + j)) c st.1).2.2 : Int), st.2.2 + 1) := by
        unfold mk1
        rw [if_pos hq]
      have e79 : Z1 79 = Z 79 := g2 79 (by decide) (by decide)
      obtain ⟨Z2, e1, e2, e3, e4, e5⟩ := ih (c + 1) _ (sm_u Z1 79 30 (Z1 79 30 + 1)) (by omega) (by rw [sm_u_row (by decide), g2 80 (by decide) (by decide)]; exact hM) hf2 (fun j hj => by rw [sm_u_ne (by decide), g1 j hj, em]) (by rw [sm_u_self, e79, h30, em])
      refine ⟨Z2, e1, e2, fun a h1 h2 h3 => by rw [e3 a h1 h2 h3, sm_u_row h1, g2 a h2 h3], fun j hj => by rw [e4 j hj, sm_u_eq, if_neg hj, e79], fun Q => ?_⟩
      rw [head, if_pos hq, b174_55, kk_79 H, g3, w_cont]
      simp only [wr_id, wr_b2i, wr_wr, b2i_eq0, b2i_eq1, b2i_01, sm_rem_eq, sm_div_eq, wl_m2, wl_m1, wl_0, wl_1, wl_2, wl_3, wl_4, wl_5, wl_6, wl_7, wl_8, wl_9, wl_10, wl_12, wl_13, wl_14, wl_16, wl_20, wl_21, wl_22, wl_23, wl_32, wl_36, wl_40, wl_41, wl_42, wl_43, wl_44, wl_45, wl_46, wl_47, wl_48, wl_57, wl_59, wl_60, wl_61, wl_62, wl_65, wl_90, wl_97, wl_99, wl_100, wl_121, wl_122, wl_140, wl_142, wl_143, wl_145, wl_147, wl_160, wl_161, wl_162, wl_242, wl_380, wl_400, wl_420, wl_820, wl_1340, wl_5480, wl_9999, true_and, and_true, true_or, or_true, if_true, if_false, and_self, or_self, false_and, and_false, false_or, or_false, not_true_eq_false, not_false_eq_true, Int.reduceEq, Int.reduceLT, Int.reduceLE, Int.reduceToNat, Int.reduceAdd, Int.reduceMul, Int.reduceSub, Int.reduceMod, Int.reduceDiv, Int.reduceNeg, Nat.reduceEqDiff, sm_rd_ok, sm_rd_ok2, sm_wt_ok, sm_cp_ok, Option.isSome_some, Option.getD_some, w_cont, Option.toList_some, Option.toList_none, List.cons_append, List.nil_append]
      rw [b174_60, kk_79 H, b174_70]
      simp only [wr_id, wr_b2i, wr_wr, b2i_eq0, b2i_eq1, b2i_01, sm_rem_eq, sm_div_eq, wl_m2, wl_m1, wl_0, wl_1, wl_2, wl_3, wl_4, wl_5, wl_6, wl_7, wl_8, wl_9, wl_10, wl_12, wl_13, wl_14, wl_16, wl_20, wl_21, wl_22, wl_23, wl_32, wl_36, wl_40, wl_41, wl_42, wl_43, wl_44, wl_45, wl_46, wl_47, wl_48, wl_57, wl_59, wl_60, wl_61, wl_62, wl_65, wl_90, wl_97, wl_99, wl_100, wl_121, wl_122, wl_140, wl_142, wl_143, wl_145, wl_147, wl_160, wl_161, wl_162, wl_242, wl_380, wl_400, wl_420, wl_820, wl_1340, wl_5480, wl_9999, true_and, and_true, true_or, or_true, if_true, if_false, and_self, or_self, false_and, and_false, false_or, or_false, not_true_eq_false, not_false_eq_true, Int.reduceEq, Int.reduceLT, Int.reduceLE, Int.reduceToNat, Int.reduceAdd, Int.reduceMul, Int.reduceSub, Int.reduceMod, Int.reduceDiv, Int.reduceNeg, Nat.reduceEqDiff, sm_rd_ok, sm_rd_ok2, sm_wt_ok, sm_cp_ok, Option.isSome_some, Option.getD_some, w_cont, Option.toList_some, Option.toList_none, List.cons_append, List.nil_append]
      rw [show (c : Int) + 1 = ((c + 1 : Nat) : Int) by omega, e5]
    · have em : mk1 (M 0) (M 1) (fun j => M (850 + j)) c st = st := by
        unfold mk1
        rw [if_neg hq]
      rw [em] at hf2 ⊢
      obtain ⟨Z2, e1, e2, e3, e4, e5⟩ := ih (c + 1) st Z (by omega) hM hf2 hr h30
      refine ⟨Z2, e1, e2, e3, e4, fun Q => ?_⟩
      rw [head, if_neg hq, e5]
theorem m_laysCounties (H : sm_sh Rf K) (hM : Z 80 = M) (hs : szN M) (hT : ∀ k, k < 242 → -1 ≤ M (850 + k) ∧ M (850 + k) ≤ 7) : ∃ Z', (∀ j, j < 100 → Z' 93 j = (coS (M 0) (M 1) (fun j => M (850 + j))).1 j) ∧ Z' 79 30 = (coS (M 0) (M 1) (fun j => M (850 + j))).2.2 ∧ (∀ a, a ≠ 79 → a ≠ 93 → a ≠ 94 → Z' a = Z a) ∧ (∀ j, j ≠ 30 → Z' 79 j = Z 79 j) ∧ ∀ Q, sm_call (d + 4) 174 [.inr (some 79)] (Z, Rf, K, n, z) Q = Q none (Z', Rf, K, n, z) := by
  have hw0 : wfM (M 0) (M 1) 0 (fun _ => -1, fun _ => 0, 0) := ⟨fun k _ => by simp, fun k hk => by omega, fun k hk hn => absurd rfl hn, by simp, fun k hk hn => absurd rfl hn⟩
  obtain ⟨Z', e1, e2, e3, e4, e5⟩ := m_lc_loop (d := d) (n := n) (z := z) H hs hT 100 0 (fun _ => -1, fun _ => 0, 0) (sm_fr (sm_u Z 79 30 0) 93 0 100 (-1)) (by omega) (by
    funext j
    rw [sm_fr_ne (by decide), sm_u_ne (by decide), hM]) hw0 (fun k hk => by
    unfold sm_fr
    rw [if_pos ⟨rfl, by omega, hk⟩]) (by rw [sm_fr_ne (by decide), sm_u_self])
  refine ⟨Z', e1, e2, fun a h1 h2 h3 => ?_, fun j hj => ?_, fun Q => ?_⟩
  · rw [e3 a h1 h2 h3]
    funext j
    rw [sm_fr_ne h2, sm_u_ne h1]
  · rw [e4 j hj, sm_fr_ne (by decide), sm_u_eq, if_neg hj]
  · rw [ce174, b174_0, kk_79 H]
    simp only [wr_id, wr_b2i, wr_wr, b2i_eq0, b2i_eq1, b2i_01, sm_rem_eq, sm_div_eq, wl_m2, wl_m1, wl_0, wl_1, wl_2, wl_3, wl_4, wl_5, wl_6, wl_7, wl_8, wl_9, wl_10, wl_12, wl_13, wl_14, wl_16, wl_20, wl_21, wl_22, wl_23, wl_32, wl_36, wl_40, wl_41, wl_42, wl_43, wl_44, wl_45, wl_46, wl_47, wl_48, wl_57, wl_59, wl_60, wl_61, wl_62, wl_65, wl_90, wl_97, wl_99, wl_100, wl_121, wl_122, wl_140, wl_142, wl_143, wl_145, wl_147, wl_160, wl_161, wl_162, wl_242, wl_380, wl_400, wl_420, wl_820, wl_1340, wl_5480, wl_9999, true_and, and_true, true_or, or_true, if_true, if_false, and_self, or_self, false_and, and_false, false_or, or_false, not_true_eq_false, not_false_eq_true, Int.reduceEq, Int.reduceLT, Int.reduceLE, Int.reduceToNat, Int.reduceAdd, Int.reduceMul, Int.reduceSub, Int.reduceMod, Int.reduceDiv, Int.reduceNeg, Nat.reduceEqDiff, sm_rd_ok, sm_rd_ok2, sm_wt_ok, sm_cp_ok, Option.isSome_some, Option.getD_some, w_cont, Option.toList_some, Option.toList_none, List.cons_append, List.nil_append]
    refine Eq.trans (m_lc_fill H 100 0 _ (by omega)) ?_
    exact e5 Q
end MCOUNT
