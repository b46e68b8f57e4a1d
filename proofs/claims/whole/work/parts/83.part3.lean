section PART3
variable {d n z : Nat} {Rf : Nat → Nat → Option Nat} {K : Nat → Nat × Nat} {Z : Nat → Nat → Int} {Q : Option sm_V → sm_S → Prop} {M : Nat → Int} {F : Nat → Int}
/-- what a search needs of the model -/
def pmP (Z : Nat → Nat → Int) (M F : Nat → Int) : Prop := Z 80 = M ∧ ∀ k, k < 400 → Z 95 k = F k ∧ F k ≤ 1 ∧ -1000 ≤ F k
theorem pmP_fr {Z Z' : Nat → Nat → Int} (hf : ∀ a, a ≠ 96 → a ≠ 94 → Z' a = Z a) (hp : pmP Z M F) : pmP Z' M F := ⟨by rw [hf 80 (by decide) (by decide)]; exact hp.1, fun k hk => by rw [hf 95 (by decide) (by decide)]; exact hp.2 k hk⟩
theorem m_pb1 (H : sm_sh Rf K) (hp : pmP Z M F) (hs : szN M) (hT : ∀ k, k < 242 → -1 ≤ M (850 + k) ∧ M (850 + k) ≤ 7) {a : Nat} {c : Int} {st : spT} (hf : wfB (M 0) (M 1) F a st) (hc : isC (M 0) (M 1) c = true) (hr : rSp Z 96 94 st) (k : Nat) (hk : k < 4) (l1 l2 l4 l7 : Option sm_V) : ∃ Z' l7', rSp Z' 96 94 (pbS (M 0) (M 1) (fun j => M (850 + j)) F c (k : Int) st) ∧ (∀ a, a ≠ 96 → a ≠ 94 → Z' a = Z a) ∧ ∀ Q, sm_wp (d + 3) 193 71 [some (.inr (some 79)), l1, l2, some (.inl (st.2.2 : Int)), l4, some (.inl c), some (.inl (k : Int)), l7] [] (Z, Rf, K, n, z) Q = sm_wp (d + 3) 193 71 [some (.inr (some 79)), l1, l2, some (.inl ((pbS (M 0) (M 1) (fun j => M (850 + j)) F c (k : Int) st).2.2 : Int)), l4, some (.inl c), some (.inl ((k + 1 : Nat) : Int)), l7'] [] (Z', Rf, K, n, z) Q := by
  have hs' := hs
  unfold szN at hs'
  have hnb := nxC_bd hs'.1.2 hs'.2.2 c (k : Int)
  have hle := wfB_le hf
  have hb := isC_bd hc
  have hdx := dXY_bd (k : Int)
  have hFk := hp.2 (4 * c + (k : Int)).toNat (by omega)
  have head : ∀ Q, sm_wp (d + 3) 193 71 [some (.inr (some 79)), l1, l2, some (.inl (st.2.2 : Int)), l4, some (.inl c), some (.inl (k : Int)), l7] [] (Z, Rf, K, n, z) Q = if opn (M 0) (M 1) (fun j => M (850 + j)) c (k : Int) = true ∧ F (4 * c + (k : Int)).toNat ≤ 0 then sm_wp (d + 3) 193 115 [some (.inr (some 79)), l1, l2, some (.inl (st.2.2 : Int)), l4, some (.inl c), some (.inl (k : Int)), l7] [] (Z, Rf, K, n, z) Q else sm_wp (d + 3) 193 71 [some (.inr (some 79)), l1, l2, some (.inl (st.2.2 : Int)), l4, some (.inl c), some (.inl ((k + 1 : Nat) : Int)), l7] [] (Z, Rf, K, n, z) Q := by
    intro Q
    rw [b193_71, wr_id (by omega) (by omega), if_neg (by omega), b193_77, kk_79 H]
    simp (disch := omega) only [wr_id, wr_b2i, wr_wr, b2i_eq0, b2i_eq1, b2i_01, sm_rem_eq, sm_div_eq, wl_m2, wl_m1, wl_0, wl_1, wl_2, wl_3, wl_4, wl_5, wl_6, wl_7, wl_8, wl_9, wl_10, wl_12, wl_13, wl_14, wl_16, wl_20, wl_21, wl_22, wl_23, wl_32, wl_36, wl_40, wl_41, wl_42, wl_43, wl_44, wl_45, wl_46, wl_47, wl_48, wl_57, wl_59, wl_60, wl_61, wl_62, wl_65, wl_90, wl_97, wl_99, wl_100, wl_121, wl_122, wl_140, wl_142, wl_143, wl_145, wl_147, wl_160, wl_161, wl_162, wl_242, wl_380, wl_400, wl_420, wl_820, wl_1340, wl_5480, wl_9999, true_and, and_true, true_or, or_true, if_true, if_false, and_self, or_self, false_and, and_false, false_or, or_false, not_true_eq_false, not_false_eq_true, Int.reduceEq, Int.reduceLT, Int.reduceLE, Int.reduceToNat, Int.reduceAdd, Int.reduceMul, Int.reduceSub, Int.reduceMod, Int.reduceDiv, Int.reduceNeg, Nat.reduceEqDiff, sm_rd_ok, sm_rd_ok2, sm_wt_ok, sm_cp_ok, Option.isSome_some, Option.getD_some, w_cont, Option.toList_some, Option.toList_none, List.cons_append, List.nil_append]
    rw [m_isOpen H hp.1 hs hc (by omega) hT, w_cont]
    simp only [wr_id, wr_b2i, wr_wr, b2i_eq0, b2i_eq1, b2i_01, sm_rem_eq, sm_div_eq, wl_m2, wl_m1, wl_0, wl_1, wl_2, wl_3, wl_4, wl_5, wl_6, wl_7, wl_8, wl_9, wl_10, wl_12, wl_13, wl_14, wl_16, wl_20, wl_21, wl_22, wl_23, wl_32, wl_36, wl_40, wl_41, wl_42, wl_43, wl_44, wl_45, wl_46, wl_47, wl_48, wl_57, wl_59, wl_60, wl_61, wl_62, wl_65, wl_90, wl_97, wl_99, wl_100, wl_121, wl_122, wl_140, wl_142, wl_143, wl_145, wl_147, wl_160, wl_161, wl_162, wl_242, wl_380, wl_400, wl_420, wl_820, wl_1340, wl_5480, wl_9999, true_and, and_true, true_or, or_true, if_true, if_false, and_self, or_self, false_and, and_false, false_or, or_false, not_true_eq_false, not_false_eq_true, Int.reduceEq, Int.reduceLT, Int.reduceLE, Int.reduceToNat, Int.reduceAdd, Int.reduceMul, Int.reduceSub, Int.reduceMod, Int.reduceDiv, Int.reduceNeg, Nat.reduceEqDiff, sm_rd_ok, sm_rd_ok2, sm_wt_ok, sm_cp_ok, Option.isSome_some, Option.getD_some, w_cont, Option.toList_some, Option.toList_none, List.cons_append, List.nil_append]
    rw [b193_93]
    simp only [wr_id, wr_b2i, wr_wr, b2i_eq0, b2i_eq1, b2i_01, sm_rem_eq, sm_div_eq, wl_m2, wl_m1, wl_0, wl_1, wl_2, wl_3, wl_4, wl_5, wl_6, wl_7, wl_8, wl_9, wl_10, wl_12, wl_13, wl_14, wl_16, wl_20, wl_21, wl_22, wl_23, wl_32, wl_36, wl_40, wl_41, wl_42, wl_43, wl_44, wl_45, wl_46, wl_47, wl_48, wl_57, wl_59, wl_60, wl_61, wl_62, wl_65, wl_90, wl_97, wl_99, wl_100, wl_121, wl_122, wl_140, wl_142, wl_143, wl_145, wl_147, wl_160, wl_161, wl_162, wl_242, wl_380, wl_400, wl_420, wl_820, wl_1340, wl_5480, wl_9999, true_and, and_true, true_or, or_true, if_true, if_false, and_self, or_self, false_and, and_false, false_or, or_false, not_true_eq_false, not_false_eq_true, Int.reduceEq, Int.reduceLT, Int.reduceLE, Int.reduceToNat, Int.reduceAdd, Int.reduceMul, Int.reduceSub, Int.reduceMod, Int.reduceDiv, Int.reduceNeg, Nat.reduceEqDiff, sm_rd_ok, sm_rd_ok2, sm_wt_ok, sm_cp_ok, Option.isSome_some, Option.getD_some, w_cont, Option.toList_some, Option.toList_none, List.cons_append, List.nil_append]
    by_cases h1 : opn (M 0) (M 1) (fun j => M (850 + j)) c (k : Int) = true
    · rw [if_neg (by rw [h1]; decide), b193_96, kk_79 H, rr_79_35 H]
      simp (disch := omega) only [wr_id, wr_b2i, wr_wr, b2i_eq0, b2i_eq1, b2i_01, sm_rem_eq, sm_div_eq, wl_m2, wl_m1, wl_0, wl_1, wl_2, wl_3, wl_4, wl_5, wl_6, wl_7, wl_8, wl_9, wl_10, wl_12, wl_13, wl_14, wl_16, wl_20, wl_21, wl_22, wl_23, wl_32, wl_36, wl_40, wl_41, wl_42, wl_43, wl_44, wl_45, wl_46, wl_47, wl_48, wl_57, wl_59, wl_60, wl_61, wl_62, wl_65, wl_90, wl_97, wl_99, wl_100, wl_121, wl_122, wl_140, wl_142, wl_143, wl_145, wl_147, wl_160, wl_161, wl_162, wl_242, wl_380, wl_400, wl_420, wl_820, wl_1340, wl_5480, wl_9999, true_and, and_true, true_or, or_true, if_true, if_false, and_self, or_self, false_and, and_false, false_or, or_false, not_true_eq_false, not_false_eq_true, Int.reduceEq, Int.reduceLT, Int.reduceLE, Int.reduceToNat, Int.reduceAdd, Int.reduceMul, Int.reduceSub, Int.reduceMod, Int.reduceDiv, Int.reduceNeg, Nat.reduceEqDiff, sm_rd_ok, sm_rd_ok2, sm_wt_ok, sm_cp_ok, Option.isSome_some, Option.getD_some, w_cont, Option.toList_some, Option.toList_none, List.cons_append, List.nil_append, kk_95 H, hFk.1]
      by_cases h2 : F (4 * c + (k : Int)).toNat ≤ 0
      · rw [if_neg (by omega), if_pos ⟨h1, h2⟩]
      · rw [if_pos (by omega), if_neg (fun g => h2 g.2), b193_112, b193_168, show (k : Int) + 1 = ((k + 1 : Nat) : Int) by omega]
    · rw [if_pos (Bool.eq_false_iff.2 h1), if_neg (fun g => h1 g.1), b193_168, show (k : Int) + 1 = ((k + 1 : Nat) : Int) by omega]
  unfold pbS
  by_cases ho : opn (M 0) (M 1) (fun j => M (850 + j)) c (k : Int) = true ∧ F (4 * c + (k : Int)).toNat ≤ 0
  · have ho1 := ho.1
    simp only [opn, decide_eq_true_eq] at ho1
    have hn := ho1.1
    have hpp := (cAt_ne (w := M 0) (h := M 1) (c % 10 + dX (k : Int)) (c / 10 + dY (k : Int))).1 hn
    have en : nxC (M 0) (M 1) c (k : Int) = (c / 10 + dY (k : Int)) * 10 + (c % 10 + dX (k : Int)) := cAt_pos hpp
    have en2 : c + 10 * dY (k : Int) + dX (k : Int) = nxC (M 0) (M 1) c (k : Int) := by omega
    have hcb := hf.2.1 (nxC (M 0) (M 1) c (k : Int)).toNat (by omega)
    have hcx := hr.1 (nxC (M 0) (M 1) c (k : Int)).toNat (by omega)
    have mid : ∀ Q, sm_wp (d + 3) 193 71 [some (.inr (some 79)), l1, l2, some (.inl (st.2.2 : Int)), l4, some (.inl c), some (.inl (k : Int)), l7] [] (Z, Rf, K, n, z) Q = if st.1 (nxC (M 0) (M 1) c (k : Int)).toNat = -1 then sm_wp (d + 3) 193 148 [some (.inr (some 79)), l1, l2, some (.inl (st.2.2 : Int)), l4, some (.inl c), some (.inl (k : Int)), some (.inl (nxC (M 0) (M 1) c (k : Int)))] [] (Z, Rf, K, n, z) Q else sm_wp (d + 3) 193 71 [some (.inr (some 79)), l1, l2, some (.inl (st.2.2 : Int)), l4, some (.inl c), some (.inl ((k + 1 : Nat) : Int)), some (.inl (nxC (M 0) (M 1) c (k : Int)))] [] (Z, Rf, K, n, z) Q := by
      intro Q
      rw [head, if_pos ho, b193_115, m_aheadY ⟨by omega, by omega⟩, w_cont]
      simp only [wr_id, wr_b2i, wr_wr, b2i_eq0, b2i_eq1, b2i_01, sm_rem_eq, sm_div_eq, wl_m2, wl_m1, wl_0, wl_1, wl_2, wl_3, wl_4, wl_5, wl_6, wl_7, wl_8, wl_9, wl_10, wl_12, wl_13, wl_14, wl_16, wl_20, wl_21, wl_22, wl_23, wl_32, wl_36, wl_40, wl_41, wl_42, wl_43, wl_44, wl_45, wl_46, wl_47, wl_48, wl_57, wl_59, wl_60, wl_61, wl_62, wl_65, wl_90, wl_97, wl_99, wl_100, wl_121, wl_122, wl_140, wl_142, wl_143, wl_145, wl_147, wl_160, wl_161, wl_162, wl_242, wl_380, wl_400, wl_420, wl_820, wl_1340, wl_5480, wl_9999, true_and, and_true, true_or, or_true, if_true, if_false, and_self, or_self, false_and, and_false, false_or, or_false, not_true_eq_false, not_false_eq_true, Int.reduceEq, Int.reduceLT, Int.reduceLE, Int.reduceToNat, Int.reduceAdd, Int.reduceMul, Int.reduceSub, Int.reduceMod, Int.reduceDiv, Int.reduceNeg, Nat.reduceEqDiff, sm_rd_ok, sm_rd_ok2, sm_wt_ok, sm_cp_ok, Option.isSome_some, Option.getD_some, w_cont, Option.toList_some, Option.toList_none, List.cons_append, List.nil_append]
      rw [b193_124, m_aheadX ⟨by omega, by omega⟩, w_cont]
      simp only [wr_id, wr_b2i, wr_wr, b2i_eq0, b2i_eq1, b2i_01, sm_rem_eq, sm_div_eq, wl_m2, wl_m1, wl_0, wl_1, wl_2, wl_3, wl_4, wl_5, wl_6, wl_7, wl_8, wl_9, wl_10, wl_12, wl_13, wl_14, wl_16, wl_20, wl_21, wl_22, wl_23, wl_32, wl_36, wl_40, wl_41, wl_42, wl_43, wl_44, wl_45, wl_46, wl_47, wl_48, wl_57, wl_59, wl_60, wl_61, wl_62, wl_65, wl_90, wl_97, wl_99, wl_100, wl_121, wl_122, wl_140, wl_142, wl_143, wl_145, wl_147, wl_160, wl_161, wl_162, wl_242, wl_380, wl_400, wl_420, wl_820, wl_1340, wl_5480, wl_9999, true_and, and_true, true_or, or_true, if_true, if_false, and_self, or_self, false_and, and_false, false_or, or_false, not_true_eq_false, not_false_eq_true, Int.reduceEq, Int.reduceLT, Int.reduceLE, Int.reduceToNat, Int.reduceAdd, Int.reduceMul, Int.reduceSub, Int.reduceMod, Int.reduceDiv, Int.reduceNeg, Nat.reduceEqDiff, sm_rd_ok, sm_rd_ok2, sm_wt_ok, sm_cp_ok, Option.isSome_some, Option.getD_some, w_cont, Option.toList_some, Option.toList_none, List.cons_append, List.nil_append]
      rw [b193_131, kk_79 H, rr_79_36 H, en2]
      simp (disch := omega) only [wr_id, wr_b2i, wr_wr, b2i_eq0, b2i_eq1, b2i_01, sm_rem_eq, sm_div_eq, wl_m2, wl_m1, wl_0, wl_1, wl_2, wl_3, wl_4, wl_5, wl_6, wl_7, wl_8, wl_9, wl_10, wl_12, wl_13, wl_14, wl_16, wl_20, wl_21, wl_22, wl_23, wl_32, wl_36, wl_40, wl_41, wl_42, wl_43, wl_44, wl_45, wl_46, wl_47, wl_48, wl_57, wl_59, wl_60, wl_61, wl_62, wl_65, wl_90, wl_97, wl_99, wl_100, wl_121, wl_122, wl_140, wl_142, wl_143, wl_145, wl_147, wl_160, wl_161, wl_162, wl_242, wl_380, wl_400, wl_420, wl_820, wl_1340, wl_5480, wl_9999, true_and, and_true, true_or, or_true, if_true, if_false, and_self, or_self, false_and, and_false, false_or, or_false, not_true_eq_false, not_false_eq_true, Int.reduceEq, Int.reduceLT, Int.reduceLE, Int.reduceToNat, Int.reduceAdd, Int.reduceMul, Int.reduceSub, Int.reduceMod, Int.reduceDiv, Int.reduceNeg, Nat.reduceEqDiff, sm_rd_ok, sm_rd_ok2, sm_wt_ok, sm_cp_ok, Option.isSome_some, Option.getD_some, w_cont, Option.toList_some, Option.toList_none, List.cons_append, List.nil_append, kk_96 H, hcx]
      by_cases h1 : st.1 (nxC (M 0) (M 1) c (k : Int)).toNat = -1
      · rw [if_pos h1, if_pos h1]
      · rw [if_neg h1, if_neg h1, b193_145, b193_168, show (k : Int) + 1 = ((k + 1 : Nat) : Int) by omega]
    by_cases h1 : st.1 (nxC (M 0) (M 1) c (k : Int)).toNat = -1
    · rw [if_pos ⟨ho, h1⟩]
      have hlt := wfB_lt hf (k := (nxC (M 0) (M 1) c (k : Int)).toNat) (by omega) h1
      refine ⟨sm_u (sm_u Z 96 (nxC (M 0) (M 1) c (k : Int)).toNat (k : Int)) 94 st.2.2 (nxC (M 0) (M 1) c (k : Int)), some (.inl (nxC (M 0) (M 1) c (k : Int))), rSp_upd (by decide) hr, fun a g1 g2 => by rw [sm_u_row g2, sm_u_row g1], fun Q => ?_⟩
      rw [mid, if_pos h1, b193_148, kk_79 H, rr_79_36 H, rr_79_29 H]
      simp (disch := omega) only [wr_id, wr_b2i, wr_wr, b2i_eq0, b2i_eq1, b2i_01, sm_rem_eq, sm_div_eq, wl_m2, wl_m1, wl_0, wl_1, wl_2, wl_3, wl_4, wl_5, wl_6, wl_7, wl_8, wl_9, wl_10, wl_12, wl_13, wl_14, wl_16, wl_20, wl_21, wl_22, wl_23, wl_32, wl_36, wl_40, wl_41, wl_42, wl_43, wl_44, wl_45, wl_46, wl_47, wl_48, wl_57, wl_59, wl_60, wl_61, wl_62, wl_65, wl_90, wl_97, wl_99, wl_100, wl_121, wl_122, wl_140, wl_142, wl_143, wl_145, wl_147, wl_160, wl_161, wl_162, wl_242, wl_380, wl_400, wl_420, wl_820, wl_1340, wl_5480, wl_9999, true_and, and_true, true_or, or_true, if_true, if_false, and_self, or_self, false_and, and_false, false_or, or_false, not_true_eq_false, not_false_eq_true, Int.reduceEq, Int.reduceLT, Int.reduceLE, Int.reduceToNat, Int.reduceAdd, Int.reduceMul, Int.reduceSub, Int.reduceMod, Int.reduceDiv, Int.reduceNeg, Nat.reduceEqDiff, sm_rd_ok, sm_rd_ok2, sm_wt_ok, sm_cp_ok, Option.isSome_some, Option.getD_some, w_cont, Option.toList_some, Option.toList_none, List.cons_append, List.nil_append, kk_96 H, kk_94 H, Int.toNat_natCast]
      rw [b193_168]
      rfl
    · rw [if_neg (fun g => h1 g.2)]
      refine ⟨Z, some (.inl (nxC (M 0) (M 1) c (k : Int))), hr, fun _ _ _ => rfl, fun Q => ?_⟩
      rw [mid, if_neg h1]
  · rw [if_neg (fun g => ho g.1)]
    refine ⟨Z, l7, hr, fun _ _ _ => rfl, fun Q => ?_⟩
    rw [head, if_neg ho]
theorem m_pbN (H : sm_sh Rf K) (hp : pmP Z M F) (hs : szN M) (hT : ∀ k, k < 242 → -1 ≤ M (850 + k) ∧ M (850 + k) ≤ 7) {a : Nat} {st : spT} (hf : wfB (M 0) (M 1) F a st) {j0 : Nat} (hj0 : j0 < st.2.2) (hr : rSp Z 96 94 st) (l1 l2 l4 l7 : Option sm_V) : ∃ Z' l7', rSp Z' 96 94 (pbN (M 0) (M 1) (fun j => M (850 + j)) F (st.2.1 j0) st) ∧ (∀ a, a ≠ 96 → a ≠ 94 → Z' a = Z a) ∧ ∀ Q, sm_wp (d + 3) 193 71 [some (.inr (some 79)), l1, l2, some (.inl (st.2.2 : Int)), l4, some (.inl (st.2.1 j0)), some (.inl 0), l7] [] (Z, Rf, K, n, z) Q = sm_wp (d + 3) 193 174 [some (.inr (some 79)), l1, l2, some (.inl ((pbN (M 0) (M 1) (fun j => M (850 + j)) F (st.2.1 j0) st).2.2 : Int)), l4, some (.inl (st.2.1 j0)), some (.inl 4), l7'] [] (Z', Rf, K, n, z) Q := by
  have hs' := hs
  unfold szN at hs'
  have hw := hs'.1.2
  have hh := hs'.2.2
  have hc := (hf.1 j0 hj0).1
  obtain ⟨Z0, la, a0, b0, c0⟩ := m_pb1 (d := d) (n := n) (z := z) H hp hs hT hf hc hr 0 (by omega) l1 l2 l4 l7
  obtain ⟨f0, g0⟩ := pbS_wf (T := fun j => M (850 + j)) hf hw hh hj0 rfl (s := ((0 : Nat) : Int)) (by omega)
  have p0 := pmP_fr b0 hp
  obtain ⟨Z1, lb, a1, b1, c1⟩ := m_pb1 (d := d) (n := n) (z := z) H p0 hs hT f0 hc a0 1 (by omega) l1 l2 l4 la
  obtain ⟨f1, g1⟩ := pbS_wf (T := fun j => M (850 + j)) f0 hw hh (Nat.lt_of_lt_of_le hj0 g0.1) (g0.2.1 j0 hj0) (s := ((1 : Nat) : Int)) (by omega)
  have g01 := grS_trans g0 g1
  have p1 := pmP_fr b1 p0
  obtain ⟨Z2, lc, a2, b2, c2⟩ := m_pb1 (d := d) (n := n) (z := z) H p1 hs hT f1 hc a1 2 (by omega) l1 l2 l4 lb
  obtain ⟨f2, g2⟩ := pbS_wf (T := fun j => M (850 + j)) f1 hw hh (Nat.lt_of_lt_of_le hj0 g01.1) (g01.2.1 j0 hj0) (s := ((2 : Nat) : Int)) (by omega)
  have p2 := pmP_fr b2 p1
  obtain ⟨Z3, ld, a3, b3, c3⟩ := m_pb1 (d := d) (n := n) (z := z) H p2 hs hT f2 hc a2 3 (by omega) l1 l2 l4 lc
  refine ⟨Z3, ld, a3, fun a q1 q2 => by rw [b3 a q1 q2, b2 a q1 q2, b1 a q1 q2, b0 a q1 q2], fun Q => ?_⟩
  refine (c0 Q).trans ((c1 Q).trans ((c2 Q).trans ((c3 Q).trans ?_)))
  rw [b193_71, wr_id (by omega) (by omega), if_pos (by omega)]
  rfl
theorem m_pb_loop (H : sm_sh Rf K) (hs : szN M) (hT : ∀ k, k < 242 → -1 ≤ M (850 + k) ∧ M (850 + k) ≤ 7) {a b : Nat} (hb : b < 100) (l1 : Option sm_V) : ∀ (k i : Nat) (st : spT) (Z : Nat → Nat → Int) (l5 l6 l7 : Option sm_V), i + k = 100 → pmP Z M F → wfB (M 0) (M 1) F a st → rSp Z 96 94 st → ∃ Z' l3' l4' l5' l6' l7', rSp Z' 96 94 (pmR (M 0) (M 1) (fun j => M (850 + j)) F b k i st) ∧ (∀ a, a ≠ 96 → a ≠ 94 → Z' a = Z a) ∧ ∀ Q, sm_wp (d + 3) 193 43 [some (.inr (some 79)), l1, some (.inl (b : Int)), some (.inl (st.2.2 : Int)), some (.inl (i : Int)), l5, l6, l7] [] (Z, Rf, K, n, z) Q = sm_wp (d + 3) 193 180 [some (.inr (some 79)), l1, some (.inl (b : Int)), l3', l4', l5', l6', l7'] [] (Z', Rf, K, n, z) Q := by
  have hs' := hs
  unfold szN at hs'
  intro k
  induction k with
  | zero =>
    intro i st Z l5 l6 l7 hik hp hf hr
    have hle := wfB_le hf
    refine ⟨Z, some (.inl (st.2.2 : Int)), some (.inl (i : Int)), l5, l6, l7, hr, fun _ _ _ => rfl, fun Q => ?_⟩
    rw [b193_43, wr_id (by omega) (by omega), wr_id (by omega) (by omega), if_pos (by omega)]
  | succ k ih =>
    intro i st Z l5 l6 l7 hik hp hf hr
    have hle := wfB_le hf
    have hcb := hf.2.1 b hb
    have hcx := hr.1 b hb
    by_cases hi : i < st.2.2
    · have head : ∀ Q, sm_wp (d + 3) 193 43 [some (.inr (some 79)), l1, some (.inl (b : Int)), some (.inl (st.2.2 : Int)), some (.inl (i : Int)), l5, l6, l7] [] (Z, Rf, K, n, z) Q = if st.1 b = -1 then sm_wp (d + 3) 193 59 [some (.inr (some 79)), l1, some (.inl (b : Int)), some (.inl (st.2.2 : Int)), some (.inl (i : Int)), l5, l6, l7] [] (Z, Rf, K, n, z) Q else sm_wp (d + 3) 193 180 [some (.inr (some 79)), l1, some (.inl (b : Int)), some (.inl (st.2.2 : Int)), some (.inl (i : Int)), l5, l6, l7] [] (Z, Rf, K, n, z) Q := by
        intro Q
        rw [b193_43, wr_id (by omega) (by omega), wr_id (by omega) (by omega), if_neg (by omega), b193_49, kk_79 H, rr_79_36 H]
        simp (disch := omega) only [wr_id, wr_b2i, wr_wr, b2i_eq0, b2i_eq1, b2i_01, sm_rem_eq, sm_div_eq, wl_m2, wl_m1, wl_0, wl_1, wl_2, wl_3, wl_4, wl_5, wl_6, wl_7, wl_8, wl_9, wl_10, wl_12, wl_13, wl_14, wl_16, wl_20, wl_21, wl_22, wl_23, wl_32, wl_36, wl_40, wl_41, wl_42, wl_43, wl_44, wl_45, wl_46, wl_47, wl_48, wl_57, wl_59, wl_60, wl_61, wl_62, wl_65, wl_90, wl_97, wl_99, wl_100, wl_121, wl_122, wl_140, wl_142, wl_143, wl_145, wl_147, wl_160, wl_161, wl_162, wl_242, wl_380, wl_400, wl_420, wl_820, wl_1340, wl_5480, wl_9999, true_and, and_true, true_or, or_true, if_true, if_false, and_self, or_self, false_and, and_false, false_or, or_false, not_true_eq_false, not_false_eq_true, Int.reduceEq, Int.reduceLT, Int.reduceLE, Int.reduceToNat, Int.reduceAdd, Int.reduceMul, Int.reduceSub, Int.reduceMod, Int.reduceDiv, Int.reduceNeg, Nat.reduceEqDiff, sm_rd_ok, sm_rd_ok2, sm_wt_ok, sm_cp_ok, Option.isSome_some, Option.getD_some, w_cont, Option.toList_some, Option.toList_none, List.cons_append, List.nil_append, kk_96 H, Int.toNat_natCast, hcx]
      by_cases hbn : st.1 b = -1
      · have e : pmR (M 0) (M 1) (fun j => M (850 + j)) F b (k + 1) i st = pmR (M 0) (M 1) (fun j => M (850 + j)) F b k (i + 1) (pbN (M 0) (M 1) (fun j => M (850 + j)) F (st.2.1 i) st) := by simp only [pmR]; rw [if_pos ⟨hi, hbn⟩]
        obtain ⟨Z1, l7a, a1, b1, c1⟩ := m_pbN (d := d) (n := n) (z := z) H hp hs hT hf hi hr l1 (some (.inl (b : Int))) (some (.inl (i : Int))) l7
        obtain ⟨Z2, l3b, l4b, l5b, l6b, l7b, a2, b2, c2⟩ := ih (i + 1) _ Z1 (some (.inl (st.2.1 i))) (some (.inl 4)) l7a (by omega) (pmP_fr b1 hp) (pbN_wf (T := fun j => M (850 + j)) hf hs'.1.2 hs'.2.2 hi).1 a1
        rw [e]
        refine ⟨Z2, l3b, l4b, l5b, l6b, l7b, a2, fun a q1 q2 => by rw [b2 a q1 q2, b1 a q1 q2], fun Q => ?_⟩
        have hq := hr.2 i hi
        rw [head, if_pos hbn, b193_59, kk_79 H, rr_79_29 H]
        simp (disch := omega) only [wr_id, wr_b2i, wr_wr, b2i_eq0, b2i_eq1, b2i_01, sm_rem_eq, sm_div_eq, wl_m2, wl_m1, wl_0, wl_1, wl_2, wl_3, wl_4, wl_5, wl_6, wl_7, wl_8, wl_9, wl_10, wl_12, wl_13, wl_14, wl_16, wl_20, wl_21, wl_22, wl_23, wl_32, wl_36, wl_40, wl_41, wl_42, wl_43, wl_44, wl_45, wl_46, wl_47, wl_48, wl_57, wl_59, wl_60, wl_61, wl_62, wl_65, wl_90, wl_97, wl_99, wl_100, wl_121, wl_122, wl_140, wl_142, wl_143, wl_145, wl_147, wl_160, wl_161, wl_162, wl_242, wl_380, wl_400, wl_420, wl_820, wl_1340, wl_5480, wl_9999, true_and, and_true, true_or, or_true, if_true, if_false, and_self, or_self, false_and, and_false, false_or, or_false, not_true_eq_false, not_false_eq_true, Int.reduceEq, Int.reduceLT, Int.reduceLE, Int.reduceToNat, Int.reduceAdd, Int.reduceMul, Int.reduceSub, Int.reduceMod, Int.reduceDiv, Int.reduceNeg, Nat.reduceEqDiff, sm_rd_ok, sm_rd_ok2, sm_wt_ok, sm_cp_ok, Option.isSome_some, Option.getD_some, w_cont, Option.toList_some, Option.toList_none, List.cons_append, List.nil_append, kk_94 H, Int.toNat_natCast, hq]
        refine (c1 Q).trans ?_
        rw [b193_174, show (i : Int) + 1 = ((i + 1 : Nat) : Int) by omega]
        exact c2 Q
      · have e : pmR (M 0) (M 1) (fun j => M (850 + j)) F b (k + 1) i st = st := by simp only [pmR]; rw [if_neg (fun g => hbn g.2)]
        rw [e]
        refine ⟨Z, some (.inl (st.2.2 : Int)), some (.inl (i : Int)), l5, l6, l7, hr, fun _ _ _ => rfl, fun Q => ?_⟩
        rw [head, if_neg hbn]
    · have e : pmR (M 0) (M 1) (fun j => M (850 + j)) F b (k + 1) i st = st := by simp only [pmR]; rw [if_neg (fun g => hi g.1)]
      rw [e]
      refine ⟨Z, some (.inl (st.2.2 : Int)), some (.inl (i : Int)), l5, l6, l7, hr, fun _ _ _ => rfl, fun Q => ?_⟩
      rw [b193_43, wr_id (by omega) (by omega), wr_id (by omega) (by omega), if_pos (by omega)]
theorem m_kw_loop (H : sm_sh Rf K) {w h : Int} {F0 : Nat → Int} {a : Nat} {st : spT} (hf : wfB w h F0 a st) (ha : a < 100) (l2 l3 : Option sm_V) : ∀ (f i : Nat) (F : Nat → Int) (Z : Nat → Nat → Int) (l5 l6 l7 : Option sm_V), i ≤ f → i < st.2.2 → (∀ c, c < 100 → Z 96 c = st.1 c) → (∀ k, k < 400 → Z 95 k = F k) → ∃ Z', (∀ k, k < 400 → Z' 95 k = pwR st.1 a f (st.2.1 i) F k) ∧ (∀ q, q ≠ 95 → Z' q = Z q) ∧ ∀ Q, sm_wp (d + 1) 193 195 [some (.inr (some 79)), some (.inl (a : Int)), l2, l3, some (.inl (st.2.1 i)), l5, l6, l7] [] (Z, Rf, K, n, z) Q = Q (some (.inl 1)) (Z', Rf, K, n, z) := by
  have stop : ∀ (i : Nat) (Z : Nat → Nat → Int) (l5 l6 l7 : Option sm_V), st.2.1 i = (a : Int) → ∀ Q, sm_wp (d + 1) 193 195 [some (.inr (some 79)), some (.inl (a : Int)), l2, l3, some (.inl (st.2.1 i)), l5, l6, l7] [] (Z, Rf, K, n, z) Q = Q (some (.inl 1)) (Z, Rf, K, n, z) := by
    intro i Z l5 l6 l7 hia Q
    rw [b193_195, hia, if_pos rfl, b193_272]
    simp only [wr_id, wr_b2i, wr_wr, b2i_eq0, b2i_eq1, b2i_01, sm_rem_eq, sm_div_eq, wl_m2, wl_m1, wl_0, wl_1, wl_2, wl_3, wl_4, wl_5, wl_6, wl_7, wl_8, wl_9, wl_10, wl_12, wl_13, wl_14, wl_16, wl_20, wl_21, wl_22, wl_23, wl_32, wl_36, wl_40, wl_41, wl_42, wl_43, wl_44, wl_45, wl_46, wl_47, wl_48, wl_57, wl_59, wl_60, wl_61, wl_62, wl_65, wl_90, wl_97, wl_99, wl_100, wl_121, wl_122, wl_140, wl_142, wl_143, wl_145, wl_147, wl_160, wl_161, wl_162, wl_242, wl_380, wl_400, wl_420, wl_820, wl_1340, wl_5480, wl_9999, true_and, and_true, true_or, or_true, if_true, if_false, and_self, or_self, false_and, and_false, false_or, or_false, not_true_eq_false, not_false_eq_true, Int.reduceEq, Int.reduceLT, Int.reduceLE, Int.reduceToNat, Int.reduceAdd, Int.reduceMul, Int.reduceSub, Int.reduceMod, Int.reduceDiv, Int.reduceNeg, Nat.reduceEqDiff, sm_rd_ok, sm_rd_ok2, sm_wt_ok, sm_cp_ok, Option.isSome_some, Option.getD_some, w_cont, Option.toList_some, Option.toList_none, List.cons_append, List.nil_append]
  intro f
  induction f with
  | zero =>
    intro i F Z l5 l6 l7 hif hi hcb hF
    have hi0 : i = 0 := by omega
    exact ⟨Z, hF, fun _ _ => rfl, fun Q => stop i Z l5 l6 l7 (by rw [hi0]; exact hf.2.2.2.1.1) Q⟩
  | succ f ih =>
    intro i F Z l5 l6 l7 hif hi hcb hF
    rcases Nat.eq_zero_or_pos i with h0 | h1
    · have hia : st.2.1 i = (a : Int) := by rw [h0]; exact hf.2.2.2.1.1
      refine ⟨Z, ?_, fun _ _ => rfl, fun Q => stop i Z l5 l6 l7 hia Q⟩
      simp only [pwR]
      rw [if_pos hia]
      exact hF
    · obtain ⟨hs, hia, j, hj, e, _⟩ := wfB_pre hf h1 hi
      have hbi := isC_bd (hf.1 i hi).1
      have hbj := isC_bd (hf.1 j (by omega)).1
      have e72 : Z 96 (st.2.1 i).toNat = st.1 (st.2.1 i).toNat := hcb _ (by omega)
      obtain ⟨s, hsd⟩ : ∃ s, s = st.1 (st.2.1 i).toNat := ⟨_, rfl⟩
      rw [← hsd] at hs e e72
      obtain ⟨c, hcd⟩ : ∃ c, c = st.2.1 i := ⟨_, rfl⟩
      rw [← hcd] at hbi hia e72 e
      have hdx := dXY_bd s
      obtain ⟨p, hpd⟩ : ∃ p, p = c - dX s - dY s * 10 := ⟨_, rfl⟩
      have hpj : p = st.2.1 j := by rw [hpd, e]
      have hpm : c - 10 * dY s - dX s = p := by omega
      let Z1 := sm_u (sm_u Z 95 (4 * p + s).toNat (Z 95 (4 * p + s).toNat + 1)) 95 (4 * c + (s + 2) % 4).toNat (sm_u Z 95 (4 * p + s).toNat (Z 95 (4 * p + s).toNat + 1) 95 (4 * c + (s + 2) % 4).toNat - 1)
      have r1 : ∀ q, q ≠ 95 → Z1 q = Z q := fun q hq => by show sm_u _ _ _ _ q = _; rw [sm_u_row hq, sm_u_row hq]
      obtain ⟨Z2, g1, g2, g3⟩ := ih j (pwU F s p c) Z1 (some (.inl s)) (some (.inl p)) l7 (by omega) (by omega) (fun c hc => by rw [r1 96 (by decide)]; exact hcb c hc) (pwU_row hF (by omega) (by omega))
      refine ⟨Z2, ?_, fun q hq => by rw [g2 q hq, r1 q hq], fun Q => ?_⟩
      · simp only [pwR]
        rw [← hcd, if_neg hia]
        rw [← hcd] at hsd
        rw [← hsd, ← hpd, hpj]
        rw [hpj] at g1
        exact g1
      · rw [← hcd, b193_195, wr_id (by omega) (by omega), wr_id (by omega) (by omega), if_neg hia, b193_201, kk_79 H, rr_79_36 H]
        simp (disch := omega) only [wr_id, wr_b2i, wr_wr, b2i_eq0, b2i_eq1, b2i_01, sm_rem_eq, sm_div_eq, wl_m2, wl_m1, wl_0, wl_1, wl_2, wl_3, wl_4, wl_5, wl_6, wl_7, wl_8, wl_9, wl_10, wl_12, wl_13, wl_14, wl_16, wl_20, wl_21, wl_22, wl_23, wl_32, wl_36, wl_40, wl_41, wl_42, wl_43, wl_44, wl_45, wl_46, wl_47, wl_48, wl_57, wl_59, wl_60, wl_61, wl_62, wl_65, wl_90, wl_97, wl_99, wl_100, wl_121, wl_122, wl_140, wl_142, wl_143, wl_145, wl_147, wl_160, wl_161, wl_162, wl_242, wl_380, wl_400, wl_420, wl_820, wl_1340, wl_5480, wl_9999, true_and, and_true, true_or, or_true, if_true, if_false, and_self, or_self, false_and, and_false, false_or, or_false, not_true_eq_false, not_false_eq_true, Int.reduceEq, Int.reduceLT, Int.reduceLE, Int.reduceToNat, Int.reduceAdd, Int.reduceMul, Int.reduceSub, Int.reduceMod, Int.reduceDiv, Int.reduceNeg, Nat.reduceEqDiff, sm_rd_ok, sm_rd_ok2, sm_wt_ok, sm_cp_ok, Option.isSome_some, Option.getD_some, w_cont, Option.toList_some, Option.toList_none, List.cons_append, List.nil_append, kk_96 H, e72]
        rw [m_aheadY ⟨by omega, by omega⟩, w_cont]
        simp only [wr_id, wr_b2i, wr_wr, b2i_eq0, b2i_eq1, b2i_01, sm_rem_eq, sm_div_eq, wl_m2, wl_m1, wl_0, wl_1, wl_2, wl_3, wl_4, wl_5, wl_6, wl_7, wl_8, wl_9, wl_10, wl_12, wl_13, wl_14, wl_16, wl_20, wl_21, wl_22, wl_23, wl_32, wl_36, wl_40, wl_41, wl_42, wl_43, wl_44, wl_45, wl_46, wl_47, wl_48, wl_57, wl_59, wl_60, wl_61, wl_62, wl_65, wl_90, wl_97, wl_99, wl_100, wl_121, wl_122, wl_140, wl_142, wl_143, wl_145, wl_147, wl_160, wl_161, wl_162, wl_242, wl_380, wl_400, wl_420, wl_820, wl_1340, wl_5480, wl_9999, true_and, and_true, true_or, or_true, if_true, if_false, and_self, or_self, false_and, and_false, false_or, or_false, not_true_eq_false, not_false_eq_true, Int.reduceEq, Int.reduceLT, Int.reduceLE, Int.reduceToNat, Int.reduceAdd, Int.reduceMul, Int.reduceSub, Int.reduceMod, Int.reduceDiv, Int.reduceNeg, Nat.reduceEqDiff, sm_rd_ok, sm_rd_ok2, sm_wt_ok, sm_cp_ok, Option.isSome_some, Option.getD_some, w_cont, Option.toList_some, Option.toList_none, List.cons_append, List.nil_append]
        rw [b193_219, m_aheadX ⟨by omega, by omega⟩, w_cont]
        simp only [wr_id, wr_b2i, wr_wr, b2i_eq0, b2i_eq1, b2i_01, sm_rem_eq, sm_div_eq, wl_m2, wl_m1, wl_0, wl_1, wl_2, wl_3, wl_4, wl_5, wl_6, wl_7, wl_8, wl_9, wl_10, wl_12, wl_13, wl_14, wl_16, wl_20, wl_21, wl_22, wl_23, wl_32, wl_36, wl_40, wl_41, wl_42, wl_43, wl_44, wl_45, wl_46, wl_47, wl_48, wl_57, wl_59, wl_60, wl_61, wl_62, wl_65, wl_90, wl_97, wl_99, wl_100, wl_121, wl_122, wl_140, wl_142, wl_143, wl_145, wl_147, wl_160, wl_161, wl_162, wl_242, wl_380, wl_400, wl_420, wl_820, wl_1340, wl_5480, wl_9999, true_and, and_true, true_or, or_true, if_true, if_false, and_self, or_self, false_and, and_false, false_or, or_false, not_true_eq_false, not_false_eq_true, Int.reduceEq, Int.reduceLT, Int.reduceLE, Int.reduceToNat, Int.reduceAdd, Int.reduceMul, Int.reduceSub, Int.reduceMod, Int.reduceDiv, Int.reduceNeg, Nat.reduceEqDiff, sm_rd_ok, sm_rd_ok2, sm_wt_ok, sm_cp_ok, Option.isSome_some, Option.getD_some, w_cont, Option.toList_some, Option.toList_none, List.cons_append, List.nil_append]
        rw [b193_226, kk_79 H, rr_79_35 H, hpm]
        simp (disch := omega) only [wr_id, wr_b2i, wr_wr, b2i_eq0, b2i_eq1, b2i_01, sm_rem_eq, sm_div_eq, wl_m2, wl_m1, wl_0, wl_1, wl_2, wl_3, wl_4, wl_5, wl_6, wl_7, wl_8, wl_9, wl_10, wl_12, wl_13, wl_14, wl_16, wl_20, wl_21, wl_22, wl_23, wl_32, wl_36, wl_40, wl_41, wl_42, wl_43, wl_44, wl_45, wl_46, wl_47, wl_48, wl_57, wl_59, wl_60, wl_61, wl_62, wl_65, wl_90, wl_97, wl_99, wl_100, wl_121, wl_122, wl_140, wl_142, wl_143, wl_145, wl_147, wl_160, wl_161, wl_162, wl_242, wl_380, wl_400, wl_420, wl_820, wl_1340, wl_5480, wl_9999, true_and, and_true, true_or, or_true, if_true, if_false, and_self, or_self, false_and, and_false, false_or, or_false, not_true_eq_false, not_false_eq_true, Int.reduceEq, Int.reduceLT, Int.reduceLE, Int.reduceToNat, Int.reduceAdd, Int.reduceMul, Int.reduceSub, Int.reduceMod, Int.reduceDiv, Int.reduceNeg, Nat.reduceEqDiff, sm_rd_ok, sm_rd_ok2, sm_wt_ok, sm_cp_ok, Option.isSome_some, Option.getD_some, w_cont, Option.toList_some, Option.toList_none, List.cons_append, List.nil_append, kk_95 H]
        rw [← hpj] at g3
        exact g3 Q
theorem m_cb_fill (H : sm_sh Rf K) {l1 l2 l4 l5 l6 l7 : Option sm_V} : ∀ (k i : Nat) (Z : Nat → Nat → Int), i + k = 100 → ∀ Q, sm_wp d 193 2 [some (.inr (some 79)), l1, l2, some (.inl (i : Int)), l4, l5, l6, l7] [] (Z, Rf, K, n, z) Q = sm_wp d 193 21 [some (.inr (some 79)), l1, l2, some (.inl 100), l4, l5, l6, l7] [] (sm_fr Z 96 i 100 (-1), Rf, K, n, z) Q := by
  intro k
  induction k with
  | zero =>
    intro i Z hik Q
    have : i = 100 := by omega
    subst this
    rw [b193_2, wr_id (by omega) (by omega), if_pos (by omega), sm_fr_none]
    rfl
  | succ k ih =>
    intro i Z hik Q
    rw [b193_2, wr_id (by omega) (by omega), if_neg (by omega), b193_8, kk_79 H, rr_79_36 H]
    simp (disch := omega) only [wr_id, wr_b2i, wr_wr, b2i_eq0, b2i_eq1, b2i_01, sm_rem_eq, sm_div_eq, wl_m2, wl_m1, wl_0, wl_1, wl_2, wl_3, wl_4, wl_5, wl_6, wl_7, wl_8, wl_9, wl_10, wl_12, wl_13, wl_14, wl_16, wl_20, wl_21, wl_22, wl_23, wl_32, wl_36, wl_40, wl_41, wl_42, wl_43, wl_44, wl_45, wl_46, wl_47, wl_48, wl_57, wl_59, wl_60, wl_61, wl_62, wl_65, wl_90, wl_97, wl_99, wl_100, wl_121, wl_122, wl_140, wl_142, wl_143, wl_145, wl_147, wl_160, wl_161, wl_162, wl_242, wl_380, wl_400, wl_420, wl_820, wl_1340, wl_5480, wl_9999, true_and, and_true, true_or, or_true, if_true, if_false, and_self, or_self, false_and, and_false, false_or, or_false, not_true_eq_false, not_false_eq_true, Int.reduceEq, Int.reduceLT, Int.reduceLE, Int.reduceToNat, Int.reduceAdd, Int.reduceMul, Int.reduceSub, Int.reduceMod, Int.reduceDiv, Int.reduceNeg, Nat.reduceEqDiff, sm_rd_ok, sm_rd_ok2, sm_wt_ok, sm_cp_ok, Option.isSome_some, Option.getD_some, w_cont, Option.toList_some, Option.toList_none, List.cons_append, List.nil_append, kk_96 H, Int.toNat_natCast]
    rw [show (i : Int) + 1 = ((i + 1 : Nat) : Int) by omega, ih (i + 1) _ (by omega), sm_fr_step _ _ _ _ _ (by omega)]
theorem m_oneMore (H : sm_sh Rf K) (hp : pmP Z M F) (hs : szN M) (hT : ∀ k, k < 242 → -1 ≤ M (850 + k) ∧ M (850 + k) ≤ 7) {a b : Nat} (ha : isC (M 0) (M 1) (a : Int) = true) (hb : b < 100) : ∃ Z', (∀ q, q ≠ 94 → q ≠ 95 → q ≠ 96 → Z' q = Z q) ∧ (¬ (stW (M 0) (M 1) (fun j => M (850 + j)) F a b).1 b = -1 → ∀ k, k < 400 → Z' 95 k = paW (M 0) (M 1) (fun j => M (850 + j)) F a b k) ∧ ∀ Q, sm_call (d + 3) 193 [.inr (some 79), .inl (a : Int), .inl (b : Int)] (Z, Rf, K, n, z) Q = Q (some (.inl (if (stW (M 0) (M 1) (fun j => M (850 + j)) F a b).1 b = -1 then 0 else 1))) (Z', Rf, K, n, z) := by
  have hs' := hs
  unfold szN at hs'
  have hba := isC_bd ha
  let Z1 := sm_u (sm_u (sm_fr Z 96 0 100 (-1)) 94 0 (a : Int)) 96 a 4
  have r1 : ∀ q, q ≠ 96 → q ≠ 94 → Z1 q = Z q := fun q h1 h2 => by
    show sm_u _ _ _ _ q = _
    rw [sm_u_row h1, sm_u_row h2]
    funext j
    exact sm_fr_ne h1
  have hr1 : rSp Z1 96 94 (pb0 a) := by
    refine ⟨fun c hc => ?_, fun i hi => ?_⟩
    · show sm_u _ _ _ _ 96 c = (if c = a then (4 : Int) else -1)
      rw [sm_u_eq]
      by_cases hca : c = a
      · rw [if_pos hca, if_pos hca]
      · rw [if_neg hca, if_neg hca, sm_u_ne (by decide)]
        unfold sm_fr
        rw [if_pos ⟨rfl, by omega, hc⟩]
    · have hi1 : i < 1 := hi
      have : i = 0 := by omega
      show sm_u _ _ _ _ 94 i = (a : Int)
      rw [this, sm_u_ne (by decide), sm_u_self]
  obtain ⟨Z2, l3, l4, l5, l6, l7, a2, b2, c2⟩ := m_pb_loop (d := d) (n := n) (z := z) (F := F) (b := b) H hs hT hb (some (.inl (a : Int))) 100 0 (pb0 a) Z1 none none none (by omega) (pmP_fr r1 hp) (pb0_wf ha) hr1
  have hf := stW_wf (T := fun j => M (850 + j)) (F := F) (b := b) hs'.1.2 hs'.2.2 ha
  have hcb := hf.2.1 b hb
  have hcx : Z2 96 b = (stW (M 0) (M 1) (fun j => M (850 + j)) F a b).1 b := a2.1 b hb
  have head : ∀ Q, sm_call (d + 3) 193 [.inr (some 79), .inl (a : Int), .inl (b : Int)] (Z, Rf, K, n, z) Q = if (stW (M 0) (M 1) (fun j => M (850 + j)) F a b).1 b = -1 then Q (some (.inl 0)) (Z2, Rf, K, n, z) else sm_wp (d + 3) 193 195 [some (.inr (some 79)), some (.inl (a : Int)), some (.inl (b : Int)), l3, some (.inl (b : Int)), l5, l6, l7] [] (Z2, Rf, K, n, z) Q := by
    intro Q
    rw [ce193, b193_0]
    refine (m_cb_fill H 100 0 Z (by omega) Q).trans ?_
    rw [b193_21, kk_79 H, rr_79_29 H, rr_79_36 H]
    simp (disch := omega) only [wr_id, wr_b2i, wr_wr, b2i_eq0, b2i_eq1, b2i_01, sm_rem_eq, sm_div_eq, wl_m2, wl_m1, wl_0, wl_1, wl_2, wl_3, wl_4, wl_5, wl_6, wl_7, wl_8, wl_9, wl_10, wl_12, wl_13, wl_14, wl_16, wl_20, wl_21, wl_22, wl_23, wl_32, wl_36, wl_40, wl_41, wl_42, wl_43, wl_44, wl_45, wl_46, wl_47, wl_48, wl_57, wl_59, wl_60, wl_61, wl_62, wl_65, wl_90, wl_97, wl_99, wl_100, wl_121, wl_122, wl_140, wl_142, wl_143, wl_145, wl_147, wl_160, wl_161, wl_162, wl_242, wl_380, wl_400, wl_420, wl_820, wl_1340, wl_5480, wl_9999, true_and, and_true, true_or, or_true, if_true, if_false, and_self, or_self, false_and, and_false, false_or, or_false, not_true_eq_false, not_false_eq_true, Int.reduceEq, Int.reduceLT, Int.reduceLE, Int.reduceToNat, Int.reduceAdd, Int.reduceMul, Int.reduceSub, Int.reduceMod, Int.reduceDiv, Int.reduceNeg, Nat.reduceEqDiff, sm_rd_ok, sm_rd_ok2, sm_wt_ok, sm_cp_ok, Option.isSome_some, Option.getD_some, w_cont, Option.toList_some, Option.toList_none, List.cons_append, List.nil_append, kk_96 H, kk_94 H, Int.toNat_natCast]
    refine (c2 Q).trans ?_
    rw [b193_180, kk_79 H, rr_79_36 H]
    simp (disch := omega) only [wr_id, wr_b2i, wr_wr, b2i_eq0, b2i_eq1, b2i_01, sm_rem_eq, sm_div_eq, wl_m2, wl_m1, wl_0, wl_1, wl_2, wl_3, wl_4, wl_5, wl_6, wl_7, wl_8, wl_9, wl_10, wl_12, wl_13, wl_14, wl_16, wl_20, wl_21, wl_22, wl_23, wl_32, wl_36, wl_40, wl_41, wl_42, wl_43, wl_44, wl_45, wl_46, wl_47, wl_48, wl_57, wl_59, wl_60, wl_61, wl_62, wl_65, wl_90, wl_97, wl_99, wl_100, wl_121, wl_122, wl_140, wl_142, wl_143, wl_145, wl_147, wl_160, wl_161, wl_162, wl_242, wl_380, wl_400, wl_420, wl_820, wl_1340, wl_5480, wl_9999, true_and, and_true, true_or, or_true, if_true, if_false, and_self, or_self, false_and, and_false, false_or, or_false, not_true_eq_false, not_false_eq_true, Int.reduceEq, Int.reduceLT, Int.reduceLE, Int.reduceToNat, Int.reduceAdd, Int.reduceMul, Int.reduceSub, Int.reduceMod, Int.reduceDiv, Int.reduceNeg, Nat.reduceEqDiff, sm_rd_ok, sm_rd_ok2, sm_wt_ok, sm_cp_ok, Option.isSome_some, Option.getD_some, w_cont, Option.toList_some, Option.toList_none, List.cons_append, List.nil_append, kk_96 H, Int.toNat_natCast, hcx]
    by_cases hn : (stW (M 0) (M 1) (fun j => M (850 + j)) F a b).1 b = -1
    · rw [if_pos hn, if_pos hn, b193_190]
      simp only [wr_id, wr_b2i, wr_wr, b2i_eq0, b2i_eq1, b2i_01, sm_rem_eq, sm_div_eq, wl_m2, wl_m1, wl_0, wl_1, wl_2, wl_3, wl_4, wl_5, wl_6, wl_7, wl_8, wl_9, wl_10, wl_12, wl_13, wl_14, wl_16, wl_20, wl_21, wl_22, wl_23, wl_32, wl_36, wl_40, wl_41, wl_42, wl_43, wl_44, wl_45, wl_46, wl_47, wl_48, wl_57, wl_59, wl_60, wl_61, wl_62, wl_65, wl_90, wl_97, wl_99, wl_100, wl_121, wl_122, wl_140, wl_142, wl_143, wl_145, wl_147, wl_160, wl_161, wl_162, wl_242, wl_380, wl_400, wl_420, wl_820, wl_1340, wl_5480, wl_9999, true_and, and_true, true_or, or_true, if_true, if_false, and_self, or_self, false_and, and_false, false_or, or_false, not_true_eq_false, not_false_eq_true, Int.reduceEq, Int.reduceLT, Int.reduceLE, Int.reduceToNat, Int.reduceAdd, Int.reduceMul, Int.reduceSub, Int.reduceMod, Int.reduceDiv, Int.reduceNeg, Nat.reduceEqDiff, sm_rd_ok, sm_rd_ok2, sm_wt_ok, sm_cp_ok, Option.isSome_some, Option.getD_some, w_cont, Option.toList_some, Option.toList_none, List.cons_append, List.nil_append]
    · rw [if_neg hn, if_neg hn, b193_192]
  by_cases hn : (stW (M 0) (M 1) (fun j => M (850 + j)) F a b).1 b = -1
  · refine ⟨Z2, fun q h1 h2 h3 => by rw [b2 q h3 h1, r1 q h3 h1], fun g => absurd hn g, fun Q => ?_⟩
    rw [head, if_pos hn, if_pos hn]
  · obtain ⟨i, h1, h2, h3⟩ := stW_ix hs'.1.2 hs'.2.2 ha hb hn
    obtain ⟨Z3, g1, g2, g3⟩ := m_kw_loop (d := d + 2) (n := n) (z := z) H hf (by omega) (some (.inl (b : Int))) l3 99 i F Z2 l5 l6 l7 h3 h1 a2.1 (fun k hk => by rw [b2 95 (by decide) (by decide), r1 95 (by decide) (by decide)]; exact (hp.2 k hk).1)
    rw [h2] at g1 g3
    refine ⟨Z3, fun q q1 q2 q3 => by rw [g2 q q2, b2 q q3 q1, r1 q q3 q1], fun _ => g1, fun Q => ?_⟩
    rw [head, if_neg hn, if_neg hn]
    exact g3 Q
theorem m_pa_loop (H : sm_sh Rf K) (hs : szN M) (hT : ∀ k, k < 242 → -1 ≤ M (850 + k) ∧ M (850 + k) ≤ 7) {a b : Nat} (ha : isC (M 0) (M 1) (a : Int) = true) (hb : b < 100) (hab : ¬ a = b) : ∀ (f m : Nat) (F : Nat → Int) (Z : Nat → Nat → Int), m + f = 4 → flI F a m → Z 80 = M → (∀ k, k < 400 → Z 95 k = F k) → ∃ Z', frU Z Z' ∧ ∀ Q, sm_wp (d + 4) 194 47 [some (.inr (some 79)), some (.inl (a : Int)), some (.inl (b : Int)), some (.inl (m : Int))] [] (Z, Rf, K, n, z) Q = Q (some (.inl (waR (M 0) (M 1) (fun j => M (850 + j)) a b f F (m : Int)))) (Z', Rf, K, n, z) := by
  have hs' := hs
  unfold szN at hs'
  have hba := isC_bd ha
  intro f
  induction f with
  | zero =>
    intro m F Z hm hF hM h95
    have hp : pmP Z M F := ⟨hM, fun k hk => ⟨h95 k hk, (hF.1 k hk).1, by have := (hF.1 k hk).2; omega⟩⟩
    obtain ⟨Z1, f1, _, q1⟩ := m_oneMore (d := d) (n := n) (z := z) H hp hs hT ha hb
    have hm4 : m = 4 := by omega
    have hful := stW_full (w := M 0) (h := M 1) (T := fun j => M (850 + j)) hab (by omega) (fun k hk => (hF.1 k hk).1) (by rw [hF.2, hm4]; rfl)
    refine ⟨Z1, ⟨fun q hq => f1 q (by omega) (by omega) (by omega), fun j hj => by rw [f1 79 (by decide) (by decide) (by decide)]⟩, fun Q => ?_⟩
    rw [b194_47, kk_79 H]
    simp only [wr_id, wr_b2i, wr_wr, b2i_eq0, b2i_eq1, b2i_01, sm_rem_eq, sm_div_eq, wl_m2, wl_m1, wl_0, wl_1, wl_2, wl_3, wl_4, wl_5, wl_6, wl_7, wl_8, wl_9, wl_10, wl_12, wl_13, wl_14, wl_16, wl_20, wl_21, wl_22, wl_23, wl_32, wl_36, wl_40, wl_41, wl_42, wl_43, wl_44, wl_45, wl_46, wl_47, wl_48, wl_57, wl_59, wl_60, wl_61, wl_62, wl_65, wl_90, wl_97, wl_99, wl_100, wl_121, wl_122, wl_140, wl_142, wl_143, wl_145, wl_147, wl_160, wl_161, wl_162, wl_242, wl_380, wl_400, wl_420, wl_820, wl_1340, wl_5480, wl_9999, true_and, and_true, true_or, or_true, if_true, if_false, and_self, or_self, false_and, and_false, false_or, or_false, not_true_eq_false, not_false_eq_true, Int.reduceEq, Int.reduceLT, Int.reduceLE, Int.reduceToNat, Int.reduceAdd, Int.reduceMul, Int.reduceSub, Int.reduceMod, Int.reduceDiv, Int.reduceNeg, Nat.reduceEqDiff, sm_rd_ok, sm_rd_ok2, sm_wt_ok, sm_cp_ok, Option.isSome_some, Option.getD_some, w_cont, Option.toList_some, Option.toList_none, List.cons_append, List.nil_append]
    refine (q1 _).trans ?_
    rw [w_cont, if_pos hful]
    simp only [wr_id, wr_b2i, wr_wr, b2i_eq0, b2i_eq1, b2i_01, sm_rem_eq, sm_div_eq, wl_m2, wl_m1, wl_0, wl_1, wl_2, wl_3, wl_4, wl_5, wl_6, wl_7, wl_8, wl_9, wl_10, wl_12, wl_13, wl_14, wl_16, wl_20, wl_21, wl_22, wl_23, wl_32, wl_36, wl_40, wl_41, wl_42, wl_43, wl_44, wl_45, wl_46, wl_47, wl_48, wl_57, wl_59, wl_60, wl_61, wl_62, wl_65, wl_90, wl_97, wl_99, wl_100, wl_121, wl_122, wl_140, wl_142, wl_143, wl_145, wl_147, wl_160, wl_161, wl_162, wl_242, wl_380, wl_400, wl_420, wl_820, wl_1340, wl_5480, wl_9999, true_and, and_true, true_or, or_true, if_true, if_false, and_self, or_self, false_and, and_false, false_or, or_false, not_true_eq_false, not_false_eq_true, Int.reduceEq, Int.reduceLT, Int.reduceLE, Int.reduceToNat, Int.reduceAdd, Int.reduceMul, Int.reduceSub, Int.reduceMod, Int.reduceDiv, Int.reduceNeg, Nat.reduceEqDiff, sm_rd_ok, sm_rd_ok2, sm_wt_ok, sm_cp_ok, Option.isSome_some, Option.getD_some, w_cont, Option.toList_some, Option.toList_none, List.cons_append, List.nil_append]
    rw [b194_53]
    simp only [wr_id, wr_b2i, wr_wr, b2i_eq0, b2i_eq1, b2i_01, sm_rem_eq, sm_div_eq, wl_m2, wl_m1, wl_0, wl_1, wl_2, wl_3, wl_4, wl_5, wl_6, wl_7, wl_8, wl_9, wl_10, wl_12, wl_13, wl_14, wl_16, wl_20, wl_21, wl_22, wl_23, wl_32, wl_36, wl_40, wl_41, wl_42, wl_43, wl_44, wl_45, wl_46, wl_47, wl_48, wl_57, wl_59, wl_60, wl_61, wl_62, wl_65, wl_90, wl_97, wl_99, wl_100, wl_121, wl_122, wl_140, wl_142, wl_143, wl_145, wl_147, wl_160, wl_161, wl_162, wl_242, wl_380, wl_400, wl_420, wl_820, wl_1340, wl_5480, wl_9999, true_and, and_true, true_or, or_true, if_true, if_false, and_self, or_self, false_and, and_false, false_or, or_false, not_true_eq_false, not_false_eq_true, Int.reduceEq, Int.reduceLT, Int.reduceLE, Int.reduceToNat, Int.reduceAdd, Int.reduceMul, Int.reduceSub, Int.reduceMod, Int.reduceDiv, Int.reduceNeg, Nat.reduceEqDiff, sm_rd_ok, sm_rd_ok2, sm_wt_ok, sm_cp_ok, Option.isSome_some, Option.getD_some, w_cont, Option.toList_some, Option.toList_none, List.cons_append, List.nil_append]
    rw [b194_62]
    rfl
  | succ f ih =>
    intro m F Z hm hF hM h95
    have hp : pmP Z M F := ⟨hM, fun k hk => ⟨h95 k hk, (hF.1 k hk).1, by have := (hF.1 k hk).2; omega⟩⟩
    obtain ⟨Z1, f1, p1, q1⟩ := m_oneMore (d := d) (n := n) (z := z) H hp hs hT ha hb
    have fr1 : frU Z Z1 := ⟨fun q hq => f1 q (by omega) (by omega) (by omega), fun j hj => by rw [f1 79 (by decide) (by decide) (by decide)]⟩
    simp only [waR]
    by_cases hn : (stW (M 0) (M 1) (fun j => M (850 + j)) F a b).1 b = -1
    · refine ⟨Z1, fr1, fun Q => ?_⟩
      rw [b194_47, kk_79 H]
      simp only [wr_id, wr_b2i, wr_wr, b2i_eq0, b2i_eq1, b2i_01, sm_rem_eq, sm_div_eq, wl_m2, wl_m1, wl_0, wl_1, wl_2, wl_3, wl_4, wl_5, wl_6, wl_7, wl_8, wl_9, wl_10, wl_12, wl_13, wl_14, wl_16, wl_20, wl_21, wl_22, wl_23, wl_32, wl_36, wl_40, wl_41, wl_42, wl_43, wl_44, wl_45, wl_46, wl_47, wl_48, wl_57, wl_59, wl_60, wl_61, wl_62, wl_65, wl_90, wl_97, wl_99, wl_100, wl_121, wl_122, wl_140, wl_142, wl_143, wl_145, wl_147, wl_160, wl_161, wl_162, wl_242, wl_380, wl_400, wl_420, wl_820, wl_1340, wl_5480, wl_9999, true_and, and_true, true_or, or_true, if_true, if_false, and_self, or_self, false_and, and_false, false_or, or_false, not_true_eq_false, not_false_eq_true, Int.reduceEq, Int.reduceLT, Int.reduceLE, Int.reduceToNat, Int.reduceAdd, Int.reduceMul, Int.reduceSub, Int.reduceMod, Int.reduceDiv, Int.reduceNeg, Nat.reduceEqDiff, sm_rd_ok, sm_rd_ok2, sm_wt_ok, sm_cp_ok, Option.isSome_some, Option.getD_some, w_cont, Option.toList_some, Option.toList_none, List.cons_append, List.nil_append]
      refine (q1 _).trans ?_
      rw [w_cont, if_pos hn, if_pos hn]
      simp only [wr_id, wr_b2i, wr_wr, b2i_eq0, b2i_eq1, b2i_01, sm_rem_eq, sm_div_eq, wl_m2, wl_m1, wl_0, wl_1, wl_2, wl_3, wl_4, wl_5, wl_6, wl_7, wl_8, wl_9, wl_10, wl_12, wl_13, wl_14, wl_16, wl_20, wl_21, wl_22, wl_23, wl_32, wl_36, wl_40, wl_41, wl_42, wl_43, wl_44, wl_45, wl_46, wl_47, wl_48, wl_57, wl_59, wl_60, wl_61, wl_62, wl_65, wl_90, wl_97, wl_99, wl_100, wl_121, wl_122, wl_140, wl_142, wl_143, wl_145, wl_147, wl_160, wl_161, wl_162, wl_242, wl_380, wl_400, wl_420, wl_820, wl_1340, wl_5480, wl_9999, true_and, and_true, true_or, or_true, if_true, if_false, and_self, or_self, false_and, and_false, false_or, or_false, not_true_eq_false, not_false_eq_true, Int.reduceEq, Int.reduceLT, Int.reduceLE, Int.reduceToNat, Int.reduceAdd, Int.reduceMul, Int.reduceSub, Int.reduceMod, Int.reduceDiv, Int.reduceNeg, Nat.reduceEqDiff, sm_rd_ok, sm_rd_ok2, sm_wt_ok, sm_cp_ok, Option.isSome_some, Option.getD_some, w_cont, Option.toList_some, Option.toList_none, List.cons_append, List.nil_append]
      rw [b194_53]
      simp only [wr_id, wr_b2i, wr_wr, b2i_eq0, b2i_eq1, b2i_01, sm_rem_eq, sm_div_eq, wl_m2, wl_m1, wl_0, wl_1, wl_2, wl_3, wl_4, wl_5, wl_6, wl_7, wl_8, wl_9, wl_10, wl_12, wl_13, wl_14, wl_16, wl_20, wl_21, wl_22, wl_23, wl_32, wl_36, wl_40, wl_41, wl_42, wl_43, wl_44, wl_45, wl_46, wl_47, wl_48, wl_57, wl_59, wl_60, wl_61, wl_62, wl_65, wl_90, wl_97, wl_99, wl_100, wl_121, wl_122, wl_140, wl_142, wl_143, wl_145, wl_147, wl_160, wl_161, wl_162, wl_242, wl_380, wl_400, wl_420, wl_820, wl_1340, wl_5480, wl_9999, true_and, and_true, true_or, or_true, if_true, if_false, and_self, or_self, false_and, and_false, false_or, or_false, not_true_eq_false, not_false_eq_true, Int.reduceEq, Int.reduceLT, Int.reduceLE, Int.reduceToNat, Int.reduceAdd, Int.reduceMul, Int.reduceSub, Int.reduceMod, Int.reduceDiv, Int.reduceNeg, Nat.reduceEqDiff, sm_rd_ok, sm_rd_ok2, sm_wt_ok, sm_cp_ok, Option.isSome_some, Option.getD_some, w_cont, Option.toList_some, Option.toList_none, List.cons_append, List.nil_append]
      rw [b194_62]
    · obtain ⟨Z2, f2, q2⟩ := ih (m + 1) (paW (M 0) (M 1) (fun j => M (850 + j)) F a b) Z1 (by omega) (paW_fl hs'.1.2 hs'.2.2 ha hb hab hn hF) (by rw [f1 80 (by decide) (by decide) (by decide)]; exact hM) (p1 hn)
      refine ⟨Z2, frU_trans fr1 f2, fun Q => ?_⟩
      rw [b194_47, kk_79 H]
      simp only [wr_id, wr_b2i, wr_wr, b2i_eq0, b2i_eq1, b2i_01, sm_rem_eq, sm_div_eq, wl_m2, wl_m1, wl_0, wl_1, wl_2, wl_3, wl_4, wl_5, wl_6, wl_7, wl_8, wl_9, wl_10, wl_12, wl_13, wl_14, wl_16, wl_20, wl_21, wl_22, wl_23, wl_32, wl_36, wl_40, wl_41, wl_42, wl_43, wl_44, wl_45, wl_46, wl_47, wl_48, wl_57, wl_59, wl_60, wl_61, wl_62, wl_65, wl_90, wl_97, wl_99, wl_100, wl_121, wl_122, wl_140, wl_142, wl_143, wl_145, wl_147, wl_160, wl_161, wl_162, wl_242, wl_380, wl_400, wl_420, wl_820, wl_1340, wl_5480, wl_9999, true_and, and_true, true_or, or_true, if_true, if_false, and_self, or_self, false_and, and_false, false_or, or_false, not_true_eq_false, not_false_eq_true, Int.reduceEq, Int.reduceLT, Int.reduceLE, Int.reduceToNat, Int.reduceAdd, Int.reduceMul, Int.reduceSub, Int.reduceMod, Int.reduceDiv, Int.reduceNeg, Nat.reduceEqDiff, sm_rd_ok, sm_rd_ok2, sm_wt_ok, sm_cp_ok, Option.isSome_some, Option.getD_some, w_cont, Option.toList_some, Option.toList_none, List.cons_append, List.nil_append]
      refine (q1 _).trans ?_
      rw [w_cont, if_neg hn, if_neg hn]
      simp only [wr_id, wr_b2i, wr_wr, b2i_eq0, b2i_eq1, b2i_01, sm_rem_eq, sm_div_eq, wl_m2, wl_m1, wl_0, wl_1, wl_2, wl_3, wl_4, wl_5, wl_6, wl_7, wl_8, wl_9, wl_10, wl_12, wl_13, wl_14, wl_16, wl_20, wl_21, wl_22, wl_23, wl_32, wl_36, wl_40, wl_41, wl_42, wl_43, wl_44, wl_45, wl_46, wl_47, wl_48, wl_57, wl_59, wl_60, wl_61, wl_62, wl_65, wl_90, wl_97, wl_99, wl_100, wl_121, wl_122, wl_140, wl_142, wl_143, wl_145, wl_147, wl_160, wl_161, wl_162, wl_242, wl_380, wl_400, wl_420, wl_820, wl_1340, wl_5480, wl_9999, true_and, and_true, true_or, or_true, if_true, if_false, and_self, or_self, false_and, and_false, false_or, or_false, not_true_eq_false, not_false_eq_true, Int.reduceEq, Int.reduceLT, Int.reduceLE, Int.reduceToNat, Int.reduceAdd, Int.reduceMul, Int.reduceSub, Int.reduceMod, Int.reduceDiv, Int.reduceNeg, Nat.reduceEqDiff, sm_rd_ok, sm_rd_ok2, sm_wt_ok, sm_cp_ok, Option.isSome_some, Option.getD_some, w_cont, Option.toList_some, Option.toList_none, List.cons_append, List.nil_append]
      rw [b194_53]
      simp only [wr_id, wr_b2i, wr_wr, b2i_eq0, b2i_eq1, b2i_01, sm_rem_eq, sm_div_eq, wl_m2, wl_m1, wl_0, wl_1, wl_2, wl_3, wl_4, wl_5, wl_6, wl_7, wl_8, wl_9, wl_10, wl_12, wl_13, wl_14, wl_16, wl_20, wl_21, wl_22, wl_23, wl_32, wl_36, wl_40, wl_41, wl_42, wl_43, wl_44, wl_45, wl_46, wl_47, wl_48, wl_57, wl_59, wl_60, wl_61, wl_62, wl_65, wl_90, wl_97, wl_99, wl_100, wl_121, wl_122, wl_140, wl_142, wl_143, wl_145, wl_147, wl_160, wl_161, wl_162, wl_242, wl_380, wl_400, wl_420, wl_820, wl_1340, wl_5480, wl_9999, true_and, and_true, true_or, or_true, if_true, if_false, and_self, or_self, false_and, and_false, false_or, or_false, not_true_eq_false, not_false_eq_true, Int.reduceEq, Int.reduceLT, Int.reduceLE, Int.reduceToNat, Int.reduceAdd, Int.reduceMul, Int.reduceSub, Int.reduceMod, Int.reduceDiv, Int.reduceNeg, Nat.reduceEqDiff, sm_rd_ok, sm_rd_ok2, sm_wt_ok, sm_cp_ok, Option.isSome_some, Option.getD_some, w_cont, Option.toList_some, Option.toList_none, List.cons_append, List.nil_append]
      rw [b194_56, show (m : Int) + 1 = ((m + 1 : Nat) : Int) by omega]
      exact q2 Q
theorem m_fl_fill (H : sm_sh Rf K) {l1 l2 : Option sm_V} : ∀ (k i : Nat) (Z : Nat → Nat → Int), i + k = 400 → ∀ Q, sm_wp d 194 25 [some (.inr (some 79)), l1, l2, some (.inl (i : Int))] [] (Z, Rf, K, n, z) Q = sm_wp d 194 45 [some (.inr (some 79)), l1, l2, some (.inl 400)] [] (sm_fr Z 95 i 400 0, Rf, K, n, z) Q := by
  intro k
  induction k with
  | zero =>
    intro i Z hik Q
    have : i = 400 := by omega
    subst this
    rw [b194_25, wr_id (by omega) (by omega), if_pos (by omega), sm_fr_none]
    rfl
  | succ k ih =>
    intro i Z hik Q
    rw [b194_25, wr_id (by omega) (by omega), if_neg (by omega), b194_32, kk_79 H, rr_79_35 H]
    simp (disch := omega) only [wr_id, wr_b2i, wr_wr, b2i_eq0, b2i_eq1, b2i_01, sm_rem_eq, sm_div_eq, wl_m2, wl_m1, wl_0, wl_1, wl_2, wl_3, wl_4, wl_5, wl_6, wl_7, wl_8, wl_9, wl_10, wl_12, wl_13, wl_14, wl_16, wl_20, wl_21, wl_22, wl_23, wl_32, wl_36, wl_40, wl_41, wl_42, wl_43, wl_44, wl_45, wl_46, wl_47, wl_48, wl_57, wl_59, wl_60, wl_61, wl_62, wl_65, wl_90, wl_97, wl_99, wl_100, wl_121, wl_122, wl_140, wl_142, wl_143, wl_145, wl_147, wl_160, wl_161, wl_162, wl_242, wl_380, wl_400, wl_420, wl_820, wl_1340, wl_5480, wl_9999, true_and, and_true, true_or, or_true, if_true, if_false, and_self, or_self, false_and, and_false, false_or, or_false, not_true_eq_false, not_false_eq_true, Int.reduceEq, Int.reduceLT, Int.reduceLE, Int.reduceToNat, Int.reduceAdd, Int.reduceMul, Int.reduceSub, Int.reduceMod, Int.reduceDiv, Int.reduceNeg, Nat.reduceEqDiff, sm_rd_ok, sm_rd_ok2, sm_wt_ok, sm_cp_ok, Option.isSome_some, Option.getD_some, w_cont, Option.toList_some, Option.toList_none, List.cons_append, List.nil_append, kk_95 H, Int.toNat_natCast]
    rw [show (i : Int) + 1 = ((i + 1 : Nat) : Int) by omega, ih (i + 1) _ (by omega), sm_fr_step _ _ _ _ _ (by omega)]
theorem m_part (H : sm_sh Rf K) (hM : Z 80 = M) (hi : invD M) {a b : Int} (ha : aI a) (hb : aI b) : ∃ Z', frU Z Z' ∧ ∀ Q, sm_call (d + 5) 194 [.inr (some 79), .inl a, .inl b] (Z, Rf, K, n, z) Q = Q (some (.inl (paS M a b))) (Z', Rf, K, n, z) := by
  have hsz := szM_of hi hM
  have ha' := ha
  have hb' := hb
  unfold aI at ha' hb'
  have head : ∀ Q, sm_call (d + 5) 194 [.inr (some 79), .inl a, .inl b] (Z, Rf, K, n, z) Q = if isC (M 0) (M 1) a = true ∧ isC (M 0) (M 1) b = true ∧ ¬ a = b then sm_wp (d + 5) 194 23 [some (.inr (some 79)), some (.inl a), some (.inl b), none] [] (Z, Rf, K, n, z) Q else Q (some (.inl (-1))) (Z, Rf, K, n, z) := by
    intro Q
    rw [ce194, b194_0, kk_79 H, m_isCell H hsz ha, w_cont, hM]
    simp only [wr_id, wr_b2i, wr_wr, b2i_eq0, b2i_eq1, b2i_01, sm_rem_eq, sm_div_eq, wl_m2, wl_m1, wl_0, wl_1, wl_2, wl_3, wl_4, wl_5, wl_6, wl_7, wl_8, wl_9, wl_10, wl_12, wl_13, wl_14, wl_16, wl_20, wl_21, wl_22, wl_23, wl_32, wl_36, wl_40, wl_41, wl_42, wl_43, wl_44, wl_45, wl_46, wl_47, wl_48, wl_57, wl_59, wl_60, wl_61, wl_62, wl_65, wl_90, wl_97, wl_99, wl_100, wl_121, wl_122, wl_140, wl_142, wl_143, wl_145, wl_147, wl_160, wl_161, wl_162, wl_242, wl_380, wl_400, wl_420, wl_820, wl_1340, wl_5480, wl_9999, true_and, and_true, true_or, or_true, if_true, if_false, and_self, or_self, false_and, and_false, false_or, or_false, not_true_eq_false, not_false_eq_true, Int.reduceEq, Int.reduceLT, Int.reduceLE, Int.reduceToNat, Int.reduceAdd, Int.reduceMul, Int.reduceSub, Int.reduceMod, Int.reduceDiv, Int.reduceNeg, Nat.reduceEqDiff, sm_rd_ok, sm_rd_ok2, sm_wt_ok, sm_cp_ok, Option.isSome_some, Option.getD_some, w_cont, Option.toList_some, Option.toList_none, List.cons_append, List.nil_append]
    rw [b194_5]
    simp only [wr_id, wr_b2i, wr_wr, b2i_eq0, b2i_eq1, b2i_01, sm_rem_eq, sm_div_eq, wl_m2, wl_m1, wl_0, wl_1, wl_2, wl_3, wl_4, wl_5, wl_6, wl_7, wl_8, wl_9, wl_10, wl_12, wl_13, wl_14, wl_16, wl_20, wl_21, wl_22, wl_23, wl_32, wl_36, wl_40, wl_41, wl_42, wl_43, wl_44, wl_45, wl_46, wl_47, wl_48, wl_57, wl_59, wl_60, wl_61, wl_62, wl_65, wl_90, wl_97, wl_99, wl_100, wl_121, wl_122, wl_140, wl_142, wl_143, wl_145, wl_147, wl_160, wl_161, wl_162, wl_242, wl_380, wl_400, wl_420, wl_820, wl_1340, wl_5480, wl_9999, true_and, and_true, true_or, or_true, if_true, if_false, and_self, or_self, false_and, and_false, false_or, or_false, not_true_eq_false, not_false_eq_true, Int.reduceEq, Int.reduceLT, Int.reduceLE, Int.reduceToNat, Int.reduceAdd, Int.reduceMul, Int.reduceSub, Int.reduceMod, Int.reduceDiv, Int.reduceNeg, Nat.reduceEqDiff, sm_rd_ok, sm_rd_ok2, sm_wt_ok, sm_cp_ok, Option.isSome_some, Option.getD_some, w_cont, Option.toList_some, Option.toList_none, List.cons_append, List.nil_append]
    by_cases h1 : isC (M 0) (M 1) a = true
    · rw [if_neg (by rw [h1]; decide), b194_8, kk_79 H, m_isCell H hsz hb, w_cont, hM]
      simp only [wr_id, wr_b2i, wr_wr, b2i_eq0, b2i_eq1, b2i_01, sm_rem_eq, sm_div_eq, wl_m2, wl_m1, wl_0, wl_1, wl_2, wl_3, wl_4, wl_5, wl_6, wl_7, wl_8, wl_9, wl_10, wl_12, wl_13, wl_14, wl_16, wl_20, wl_21, wl_22, wl_23, wl_32, wl_36, wl_40, wl_41, wl_42, wl_43, wl_44, wl_45, wl_46, wl_47, wl_48, wl_57, wl_59, wl_60, wl_61, wl_62, wl_65, wl_90, wl_97, wl_99, wl_100, wl_121, wl_122, wl_140, wl_142, wl_143, wl_145, wl_147, wl_160, wl_161, wl_162, wl_242, wl_380, wl_400, wl_420, wl_820, wl_1340, wl_5480, wl_9999, true_and, and_true, true_or, or_true, if_true, if_false, and_self, or_self, false_and, and_false, false_or, or_false, not_true_eq_false, not_false_eq_true, Int.reduceEq, Int.reduceLT, Int.reduceLE, Int.reduceToNat, Int.reduceAdd, Int.reduceMul, Int.reduceSub, Int.reduceMod, Int.reduceDiv, Int.reduceNeg, Nat.reduceEqDiff, sm_rd_ok, sm_rd_ok2, sm_wt_ok, sm_cp_ok, Option.isSome_some, Option.getD_some, w_cont, Option.toList_some, Option.toList_none, List.cons_append, List.nil_append]
      rw [b194_13]
      simp only [wr_id, wr_b2i, wr_wr, b2i_eq0, b2i_eq1, b2i_01, sm_rem_eq, sm_div_eq, wl_m2, wl_m1, wl_0, wl_1, wl_2, wl_3, wl_4, wl_5, wl_6, wl_7, wl_8, wl_9, wl_10, wl_12, wl_13, wl_14, wl_16, wl_20, wl_21, wl_22, wl_23, wl_32, wl_36, wl_40, wl_41, wl_42, wl_43, wl_44, wl_45, wl_46, wl_47, wl_48, wl_57, wl_59, wl_60, wl_61, wl_62, wl_65, wl_90, wl_97, wl_99, wl_100, wl_121, wl_122, wl_140, wl_142, wl_143, wl_145, wl_147, wl_160, wl_161, wl_162, wl_242, wl_380, wl_400, wl_420, wl_820, wl_1340, wl_5480, wl_9999, true_and, and_true, true_or, or_true, if_true, if_false, and_self, or_self, false_and, and_false, false_or, or_false, not_true_eq_false, not_false_eq_true, Int.reduceEq, Int.reduceLT, Int.reduceLE, Int.reduceToNat, Int.reduceAdd, Int.reduceMul, Int.reduceSub, Int.reduceMod, Int.reduceDiv, Int.reduceNeg, Nat.reduceEqDiff, sm_rd_ok, sm_rd_ok2, sm_wt_ok, sm_cp_ok, Option.isSome_some, Option.getD_some, w_cont, Option.toList_some, Option.toList_none, List.cons_append, List.nil_append]
      by_cases h2 : isC (M 0) (M 1) b = true
      · rw [if_neg (by rw [h2]; decide), b194_16, wr_id ha'.1 ha'.2, wr_id hb'.1 hb'.2]
        by_cases h3 : a = b
        · rw [if_pos h3, if_neg (fun g => g.2.2 h3), b194_21]
        · rw [if_neg h3, if_pos ⟨h1, h2, h3⟩]
      · rw [if_pos (Bool.eq_false_iff.2 h2), if_neg (fun g => h2 g.2.1), b194_21]
    · rw [if_pos (Bool.eq_false_iff.2 h1), if_neg (fun g => h1 g.1), b194_21]
  unfold paS
  by_cases hc : isC (M 0) (M 1) a = true ∧ isC (M 0) (M 1) b = true ∧ ¬ a = b
  · have ba := isC_bd hc.1
    have bb := isC_bd hc.2.1
    have ea : ((a.toNat : Nat) : Int) = a := by omega
    have eb : ((b.toNat : Nat) : Int) = b := by omega
    have r0 : ∀ q, q ≠ 95 → sm_fr Z 95 0 400 0 q = Z q := fun q hq => funext (fun j => sm_fr_ne hq)
    obtain ⟨Z1, f1, q1⟩ := m_pa_loop (d := d + 1) (n := n) (z := z) (a := a.toNat) (b := b.toNat) H hi.1.1 hi.1.2.1 (by rw [ea]; exact hc.1) (by omega) (by omega) 4 0 (fun _ => 0) (sm_fr Z 95 0 400 0) (by omega) (fl0 _) (by rw [r0 80 (by decide)]; exact hM) (fun k hk => by unfold sm_fr; rw [if_pos ⟨rfl, by omega, hk⟩])
    have fr0 : frU Z (sm_fr Z 95 0 400 0) := ⟨fun q hq => r0 q (by omega), fun j hj => by rw [r0 79 (by decide)]⟩
    refine ⟨Z1, frU_trans fr0 f1, fun Q => ?_⟩
    rw [ea, eb] at q1
    rw [head, if_pos hc, if_pos hc, b194_23]
    refine (m_fl_fill H 400 0 Z (by omega) Q).trans ?_
    rw [b194_45]
    exact q1 Q
  · refine ⟨Z, frU_refl Z, fun Q => ?_⟩
    rw [head, if_neg hc, if_neg hc]
end PART3
