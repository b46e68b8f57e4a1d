/-! A text told to both: the call. -/
section KTEXT
variable {d n z : Nat} {Rf : Nat → Nat → Option Nat} {K : Nat → Nat × Nat} {Z : Nat → Nat → Int}
/-- rows that a text may change without harm -/
theorem rAll_text {Z' : Nat → Nat → Int} (h : rAll Z Rf K n) (hz : ∀ a, ¬ a = 0 → ¬ a = 74 → ¬ a = 75 → ¬ a = 76 → ¬ a = 79 → ¬ a = 84 → ¬ a = 85 → Z' a = Z a) (h0 : ∀ j, ¬ j = 8 → ¬ j = 9 → ¬ j = 10 → Z' 0 j = Z 0 j) (hj : ∀ j, (j < 12 ∨ 23 < j) → Z' 79 j = Z 79 j) (h8 : Z' 0 8 = 0 ∧ Z' 79 14 = 0) (h9 : rFt Z') : rAll Z' Rf K n := by
  obtain ⟨Zt, hZt⟩ : ∃ Zt : Nat → Nat → Int, Zt = fun a => if a = 74 ∨ a = 75 ∨ a = 76 then Z' a else Z a := ⟨_, rfl⟩
  have t1 : ∀ a, ¬ (a = 74 ∨ a = 75 ∨ a = 76) → Zt a = Z a := fun a q => by rw [hZt]; exact if_neg q
  have t2 : ∀ a, (a = 74 ∨ a = 75 ∨ a = 76) → Zt a = Z' a := fun a q => by rw [hZt]; exact if_pos q
  have r1 : rAll Zt Rf K n := rAll_T ⟨fun a ha => t1 a (by omega), by rw [t1 59 (by omega)], by rw [t1 67 (by omega)]⟩ h
  obtain ⟨Zu, hZu⟩ : ∃ Zu : Nat → Nat → Int, Zu = fun a => if a = 84 ∨ a = 85 then Z' a else Zt a := ⟨_, rfl⟩
  have u1 : ∀ a, ¬ (a = 84 ∨ a = 85) → Zu a = Zt a := fun a q => by rw [hZu]; exact if_neg q
  have u2 : ∀ a, (a = 84 ∨ a = 85) → Zu a = Z' a := fun a q => by rw [hZu]; exact if_pos q
  have r2 : rAll Zu Rf K n := rAll_U ⟨fun a ha => u1 a (by omega), fun j _ => by rw [u1 79 (by omega)]⟩ r1
  obtain ⟨_, _, _, _, _, _, a7, a8, _⟩ := h
  refine rAll_side (fun a q1 q2 q3 q4 q5 q6 => ?_) ⟨?_, ?_, ?_⟩ ?_ ?_ h9 r2
  · by_cases g : a = 84 ∨ a = 85
    · rw [u2 a g]
    · rw [u1 a g]
      by_cases g2 : a = 74 ∨ a = 75 ∨ a = 76
      · rw [t2 a g2]
      · rw [t1 a g2, hz a q1 (by omega) (by omega) (by omega) q4 (by omega) (by omega)]
  · rw [h0 2 (by decide) (by decide) (by decide), u1 0 (by omega), t1 0 (by omega)]
  · rw [hj 5 (by omega), u1 79 (by omega), t1 79 (by omega)]
  · rw [hj 6 (by omega), u1 79 (by omega), t1 79 (by omega)]
  · unfold rCh at a7 ⊢
    rw [h0 12 (by decide) (by decide) (by decide), hj 4 (by omega), hz 78 (by decide) (by decide) (by decide) (by decide) (by decide) (by decide) (by decide), hz 83 (by decide) (by decide) (by decide) (by decide) (by decide) (by decide) (by decide), hz 80 (by decide) (by decide) (by decide) (by decide) (by decide) (by decide) (by decide)]
    exact a7
  · unfold rTp at a8 ⊢
    rw [h8.1, h8.2, hz 77 (by decide) (by decide) (by decide) (by decide) (by decide) (by decide) (by decide), hz 86 (by decide) (by decide) (by decide) (by decide) (by decide) (by decide) (by decide)]
    exact ⟨rfl, by omega, a8.2.2⟩
theorem k_text0 (h : rAll Z Rf K n) {v : Int} (hv : aI v) (hb : ¬ (0 ≤ v ∧ v ≤ 3)) : okC (d + 40) 95 156 [.inl v] Z Rf K n z := by
  have h0 := h
  obtain ⟨a1, a2, a3, a4, a5, a6, a7, a8, a9, a10, _⟩ := h0
  unfold aI at hv
  obtain ⟨Z1, hZ1⟩ : ∃ Z1, Z1 = sm_u (sm_u (sm_u Z 0 8 0) 0 9 0) 0 10 (-1) := ⟨_, rfl⟩
  have o1 : ∀ a, a ≠ 0 → Z1 a = Z a := fun a q => by rw [hZ1, sm_u_row q, sm_u_row q, sm_u_row q]
  have v1 : ∀ j, Z1 0 j = if j = 10 then -1 else if j = 9 then 0 else if j = 8 then 0 else Z 0 j := fun j => by rw [hZ1, sm_u_eq, sm_u_eq, sm_u_eq]
  obtain ⟨Z2, hZ2⟩ : ∃ Z2, Z2 = sm_u (sm_u (sm_u (sm_u Z1 79 19 0) 79 14 0) 79 21 0) 79 23 (-1) := ⟨_, rfl⟩
  have o2 : ∀ a, a ≠ 79 → Z2 a = Z1 a := fun a q => by rw [hZ2, sm_u_row q, sm_u_row q, sm_u_row q, sm_u_row q]
  have v2 : ∀ j, Z2 79 j = if j = 23 then -1 else if j = 21 then 0 else if j = 14 then 0 else if j = 19 then 0 else Z 79 j := fun j => by rw [hZ2, sm_u_eq, sm_u_eq, sm_u_eq, sm_u_eq, o1 79 (by decide)]
  refine okC_of (-1) Z1 Z2 (fun Q hQ => ?_) (fun Q hQ => ?_) (rAll_text h (fun a q1 _ _ _ q5 _ _ => by rw [o2 a q5, o1 a q1]) (fun j q1 q2 q3 => by rw [o2 0 (by decide), v1, if_neg q3, if_neg q2, if_neg q1]) (fun j hj => by rw [v2, if_neg (by omega), if_neg (by omega), if_neg (by omega), if_neg (by omega)]) ⟨by rw [o2 0 (by decide), v1]; rfl, by rw [v2]; rfl⟩ ⟨by rw [o2 0 (by decide), v1, v2]; rfl, by rw [o2 0 (by decide), v1, v2]; rfl⟩) (by rw [o2 _ (by decide), o1 _ (by decide)])
  · rw [ce95, b95_0, kk_0 a1]
    simp only [wr_id, wr_b2i, wr_wr, b2i_eq0, b2i_eq1, b2i_01, sm_rem_eq, sm_div_eq, wl_m2, wl_m1, wl_0, wl_1, wl_2, wl_3, wl_4, wl_5, wl_6, wl_7, wl_8, wl_9, wl_10, wl_12, wl_13, wl_14, wl_16, wl_20, wl_21, wl_22, wl_23, wl_32, wl_36, wl_40, wl_41, wl_42, wl_43, wl_44, wl_45, wl_46, wl_47, wl_48, wl_57, wl_59, wl_60, wl_61, wl_62, wl_65, wl_90, wl_97, wl_99, wl_100, wl_121, wl_122, wl_140, wl_142, wl_143, wl_145, wl_147, wl_160, wl_161, wl_162, wl_242, wl_380, wl_400, wl_420, wl_820, wl_1340, wl_5480, wl_9999, true_and, and_true, true_or, or_true, if_true, if_false, and_self, or_self, false_and, and_false, false_or, or_false, not_true_eq_false, not_false_eq_true, Int.reduceEq, Int.reduceLT, Int.reduceLE, Int.reduceToNat, Int.reduceAdd, Int.reduceMul, Int.reduceSub, Int.reduceMod, Int.reduceDiv, Int.reduceNeg, Nat.reduceEqDiff, sm_rd_ok, sm_rd_ok2, sm_wt_ok, sm_cp_ok, Option.isSome_some, Option.getD_some, w_cont, Option.toList_some, Option.toList_none, List.cons_append, List.nil_append]
    rw [c_within (by omega) (by omega) (by omega), w_cont]
    simp only [wr_id, wr_b2i, wr_wr, b2i_eq0, b2i_eq1, b2i_01, sm_rem_eq, sm_div_eq, wl_m2, wl_m1, wl_0, wl_1, wl_2, wl_3, wl_4, wl_5, wl_6, wl_7, wl_8, wl_9, wl_10, wl_12, wl_13, wl_14, wl_16, wl_20, wl_21, wl_22, wl_23, wl_32, wl_36, wl_40, wl_41, wl_42, wl_43, wl_44, wl_45, wl_46, wl_47, wl_48, wl_57, wl_59, wl_60, wl_61, wl_62, wl_65, wl_90, wl_97, wl_99, wl_100, wl_121, wl_122, wl_140, wl_142, wl_143, wl_145, wl_147, wl_160, wl_161, wl_162, wl_242, wl_380, wl_400, wl_420, wl_820, wl_1340, wl_5480, wl_9999, true_and, and_true, true_or, or_true, if_true, if_false, and_self, or_self, false_and, and_false, false_or, or_false, not_true_eq_false, not_false_eq_true, Int.reduceEq, Int.reduceLT, Int.reduceLE, Int.reduceToNat, Int.reduceAdd, Int.reduceMul, Int.reduceSub, Int.reduceMod, Int.reduceDiv, Int.reduceNeg, Nat.reduceEqDiff, sm_rd_ok, sm_rd_ok2, sm_wt_ok, sm_cp_ok, Option.isSome_some, Option.getD_some, w_cont, Option.toList_some, Option.toList_none, List.cons_append, List.nil_append]
    rw [b95_26, isInB, decide_eq_false hb, if_pos (by decide), ← hZ1, b95_29]
    exact hQ
  · rw [ce156, b156_0, kk_79 a1]
    simp only [wr_id, wr_b2i, wr_wr, b2i_eq0, b2i_eq1, b2i_01, sm_rem_eq, sm_div_eq, wl_m2, wl_m1, wl_0, wl_1, wl_2, wl_3, wl_4, wl_5, wl_6, wl_7, wl_8, wl_9, wl_10, wl_12, wl_13, wl_14, wl_16, wl_20, wl_21, wl_22, wl_23, wl_32, wl_36, wl_40, wl_41, wl_42, wl_43, wl_44, wl_45, wl_46, wl_47, wl_48, wl_57, wl_59, wl_60, wl_61, wl_62, wl_65, wl_90, wl_97, wl_99, wl_100, wl_121, wl_122, wl_140, wl_142, wl_143, wl_145, wl_147, wl_160, wl_161, wl_162, wl_242, wl_380, wl_400, wl_420, wl_820, wl_1340, wl_5480, wl_9999, true_and, and_true, true_or, or_true, if_true, if_false, and_self, or_self, false_and, and_false, false_or, or_false, not_true_eq_false, not_false_eq_true, Int.reduceEq, Int.reduceLT, Int.reduceLE, Int.reduceToNat, Int.reduceAdd, Int.reduceMul, Int.reduceSub, Int.reduceMod, Int.reduceDiv, Int.reduceNeg, Nat.reduceEqDiff, sm_rd_ok, sm_rd_ok2, sm_wt_ok, sm_cp_ok, Option.isSome_some, Option.getD_some, w_cont, Option.toList_some, Option.toList_none, List.cons_append, List.nil_append]
    rw [m_isIn (by omega) (by omega) (by omega), w_cont]
    simp only [wr_id, wr_b2i, wr_wr, b2i_eq0, b2i_eq1, b2i_01, sm_rem_eq, sm_div_eq, wl_m2, wl_m1, wl_0, wl_1, wl_2, wl_3, wl_4, wl_5, wl_6, wl_7, wl_8, wl_9, wl_10, wl_12, wl_13, wl_14, wl_16, wl_20, wl_21, wl_22, wl_23, wl_32, wl_36, wl_40, wl_41, wl_42, wl_43, wl_44, wl_45, wl_46, wl_47, wl_48, wl_57, wl_59, wl_60, wl_61, wl_62, wl_65, wl_90, wl_97, wl_99, wl_100, wl_121, wl_122, wl_140, wl_142, wl_143, wl_145, wl_147, wl_160, wl_161, wl_162, wl_242, wl_380, wl_400, wl_420, wl_820, wl_1340, wl_5480, wl_9999, true_and, and_true, true_or, or_true, if_true, if_false, and_self, or_self, false_and, and_false, false_or, or_false, not_true_eq_false, not_false_eq_true, Int.reduceEq, Int.reduceLT, Int.reduceLE, Int.reduceToNat, Int.reduceAdd, Int.reduceMul, Int.reduceSub, Int.reduceMod, Int.reduceDiv, Int.reduceNeg, Nat.reduceEqDiff, sm_rd_ok, sm_rd_ok2, sm_wt_ok, sm_cp_ok, Option.isSome_some, Option.getD_some, w_cont, Option.toList_some, Option.toList_none, List.cons_append, List.nil_append]
    rw [b156_11, isInB, decide_eq_false hb, if_pos (by decide), b156_14, kk_79 a1]
    simp only [wr_id, wr_b2i, wr_wr, b2i_eq0, b2i_eq1, b2i_01, sm_rem_eq, sm_div_eq, wl_m2, wl_m1, wl_0, wl_1, wl_2, wl_3, wl_4, wl_5, wl_6, wl_7, wl_8, wl_9, wl_10, wl_12, wl_13, wl_14, wl_16, wl_20, wl_21, wl_22, wl_23, wl_32, wl_36, wl_40, wl_41, wl_42, wl_43, wl_44, wl_45, wl_46, wl_47, wl_48, wl_57, wl_59, wl_60, wl_61, wl_62, wl_65, wl_90, wl_97, wl_99, wl_100, wl_121, wl_122, wl_140, wl_142, wl_143, wl_145, wl_147, wl_160, wl_161, wl_162, wl_242, wl_380, wl_400, wl_420, wl_820, wl_1340, wl_5480, wl_9999, true_and, and_true, true_or, or_true, if_true, if_false, and_self, or_self, false_and, and_false, false_or, or_false, not_true_eq_false, not_false_eq_true, Int.reduceEq, Int.reduceLT, Int.reduceLE, Int.reduceToNat, Int.reduceAdd, Int.reduceMul, Int.reduceSub, Int.reduceMod, Int.reduceDiv, Int.reduceNeg, Nat.reduceEqDiff, sm_rd_ok, sm_rd_ok2, sm_wt_ok, sm_cp_ok, Option.isSome_some, Option.getD_some, w_cont, Option.toList_some, Option.toList_none, List.cons_append, List.nil_append]
    rw [← hZ2]
    exact hQ
end KTEXT
