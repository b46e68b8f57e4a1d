/-- the same duchy, but for its numbers -/
theorem rD_row {Z Z' : Nat → Nat → Int} {Rf : Nat → Nat → Option Nat} {K : Nat → Nat × Nat} {M M' : Nat → Int} {b : Nat} (h1 : Z' b 0 = M' 0 ∧ Z' b 1 = M' 1 ∧ Z' b 2 = M' 2 ∧ Z' b 3 = M' 3) (hz : ∀ a, b < a → a < b + 25 → Z' a = Z a) (hh : ∀ a, a = 19 ∨ a = 20 ∨ (97 ≤ a ∧ a < 1000000) → Z' a = Z a) (hM : ∀ k, 4 ≤ k → M' k = M k) (hr : rD Z Rf K M b) : rD Z' Rf K M' b := by
  obtain ⟨_, h2, h3, h4, h5, h6, h7, h8, h9⟩ := hr
  refine ⟨h1, fun c hc => ?_, fun k hk => ?_, ?_, ?_, ?_, ?_, ?_, ?_⟩
  · rw [hz _ (by omega) (by omega), hz _ (by omega) (by omega), hz _ (by omega) (by omega), hz _ (by omega) (by omega), hz _ (by omega) (by omega), hz _ (by omega) (by omega), hz _ (by omega) (by omega), hM _ (by omega), hM _ (by omega), hM _ (by omega), hM _ (by omega), hM _ (by omega), hM _ (by omega), hM _ (by omega)]
    exact h2 c hc
  · rw [hz _ (by omega) (by omega), hM _ (by omega)]
    exact h3 k hk
  · rw [hz _ (by omega) (by omega), hz _ (by omega) (by omega), hM _ (by omega)]
    refine ⟨h4.1, fun i hi => ?_⟩
    rw [hM _ (by omega), hM _ (by omega)]
    exact h4.2 i hi
  · rw [hz _ (by omega) (by omega), hz _ (by omega) (by omega), hM _ (by omega)]
    refine ⟨h5.1, fun i hi c hc => ?_⟩
    rw [hM _ (by omega)]
    exact h5.2 i hi c hc
  · rw [hz _ (by omega) (by omega), hz _ (by omega) (by omega), hM _ (by omega)]
    refine ⟨h6.1, fun i hi c hc => ?_⟩
    rw [hM _ (by omega)]
    exact h6.2 i hi c hc
  · rw [hz _ (by omega) (by omega), hz _ (by omega) (by omega), hM _ (by omega)]
    refine ⟨h7.1, fun i hi c hc => ?_⟩
    rw [hM _ (by omega)]
    exact h7.2 i hi c hc
  · exact rHb_cg (fun k hk => hM k (by omega)) hh h8
  · obtain ⟨b1, b2, b3⟩ := h9
    refine ⟨fun k hk => by rw [hz _ (by omega) (by omega), hM _ (by omega)]; exact b1 k hk, fun k hk => by rw [hz _ (by omega) (by omega), hM _ (by omega)]; exact b2 k hk, ?_⟩
    rcases b3 with b3 | b3
    · exact Or.inl ⟨b3.1, by rw [hz _ (by omega) (by omega)]; exact b3.2.1, by rw [hz _ (by omega) (by omega)]; exact b3.2.2⟩
    · refine Or.inr ⟨b3.1, by rw [hz _ (by omega) (by omega)]; exact b3.2.1, by rw [hz _ (by omega) (by omega), hM _ (by omega)]; exact b3.2.2.1, fun i hi c hc => ?_⟩
      rw [hM _ (by omega)] at hi
      rw [hM _ (by omega), hz _ (by omega) (by omega)]
      exact b3.2.2.2 i hi c hc
/-- the same but for flies -/
theorem rD_fl {Z Z' : Nat → Nat → Int} {Rf : Nat → Nat → Option Nat} {K : Nat → Nat × Nat} {M M' : Nat → Int} (h1 : Z' 1 0 = M' 0 ∧ Z' 1 1 = M' 1 ∧ Z' 1 2 = M' 2 ∧ Z' 1 3 = M' 3) (h2 : ∀ c, c < 100 → Z' 2 c = M' (20 + c)) (hz : ∀ a, a ≠ 1 → a ≠ 2 → Z' a = Z a) (hM : ∀ k, (4 ≤ k ∧ k < 20) ∨ 120 ≤ k → M' k = M k) (hr : rD Z Rf K M 1) : rD Z' Rf K M' 1 := by
  obtain ⟨_, g2, h3, h4, h5, h6, h7, h8, h9⟩ := hr
  refine ⟨h1, fun c hc => ?_, fun k hk => ?_, ?_, ?_, ?_, ?_, ?_, ?_⟩
  · refine ⟨h2 c hc, ?_⟩
    rw [hz _ (by omega) (by omega), hz _ (by omega) (by omega), hz _ (by omega) (by omega), hz _ (by omega) (by omega), hz _ (by omega) (by omega), hz _ (by omega) (by omega), hM _ (by omega), hM _ (by omega), hM _ (by omega), hM _ (by omega), hM _ (by omega), hM _ (by omega)]
    exact (g2 c hc).2
  · rw [hz _ (by omega) (by omega), hM _ (by omega)]
    exact h3 k hk
  · rw [hz _ (by omega) (by omega), hz _ (by omega) (by omega), hM _ (by omega)]
    refine ⟨h4.1, fun i hi => ?_⟩
    rw [hM _ (by omega), hM _ (by omega)]
    exact h4.2 i hi
  · rw [hz _ (by omega) (by omega), hz _ (by omega) (by omega), hM _ (by omega)]
    refine ⟨h5.1, fun i hi c hc => ?_⟩
    rw [hM _ (by omega)]
    exact h5.2 i hi c hc
  · rw [hz _ (by omega) (by omega), hz _ (by omega) (by omega), hM _ (by omega)]
    refine ⟨h6.1, fun i hi c hc => ?_⟩
    rw [hM _ (by omega)]
    exact h6.2 i hi c hc
  · rw [hz _ (by omega) (by omega), hz _ (by omega) (by omega), hM _ (by omega)]
    refine ⟨h7.1, fun i hi c hc => ?_⟩
    rw [hM _ (by omega)]
    exact h7.2 i hi c hc
  · exact rHb_cg (fun k hk => hM k (by omega)) (fun a ha => hz a (by omega) (by omega)) h8
  · obtain ⟨b1, b2, b3⟩ := h9
    refine ⟨fun k hk => by rw [hz _ (by omega) (by omega), hM _ (by omega)]; exact b1 k hk, fun k hk => by rw [hz _ (by omega) (by omega), hM _ (by omega)]; exact b2 k hk, ?_⟩
    rcases b3 with b3 | b3
    · exact Or.inl ⟨b3.1, by rw [hz _ (by omega) (by omega)]; exact b3.2.1, by rw [hz _ (by omega) (by omega)]; exact b3.2.2⟩
    · refine Or.inr ⟨b3.1, by rw [hz _ (by omega) (by omega)]; exact b3.2.1, by rw [hz _ (by omega) (by omega), hM _ (by omega)]; exact b3.2.2.1, fun i hi c hc => ?_⟩
      rw [hM _ (by omega)] at hi
      rw [hM _ (by omega), hz _ (by omega) (by omega)]
      exact b3.2.2.2 i hi c hc
theorem stI_fr {Z Z' : Nat → Nat → Int} (h : ∀ a, (a = 10 ∨ a = 12 ∨ a = 14 ∨ a = 16 ∨ a = 24 ∨ a = 49 ∨ a = 59 ∨ a = 67) → Z' a 0 = Z a 0) (hs : stI Z) : stI Z' := by
  unfold stI at hs ⊢
  rw [h 10 (by omega), h 12 (by omega), h 14 (by omega), h 16 (by omega), h 24 (by omega), h 49 (by omega), h 59 (by omega), h 67 (by omega)]
  exact hs
theorem drR_inv {M : Nat → Int} (hi : invD M) : invD (drR 100 0 M) := invD_cg1 (fun k hk => drR_o 100 0 M (by omega) k (by omega)) hi
theorem invD_year {M : Nat → Int} {v : Int} (hv : 0 ≤ v ∧ v ≤ 9999) (hi : invD M) : invD (mU M 3 v) := by
  have e : ∀ k, k ≠ 3 → mU M 3 v k = M k := fun k hk => by unfold mU; rw [if_neg hk]
  obtain ⟨i1, i2, i3, i4, i5, i6, i7, i8, i9, i10, i11⟩ := hi
  refine ⟨invF_cg (fun k hk => e k (by omega)) i1, swS_cg (fun k hk => e k (by omega)) i2, ?_, fun c hc => ?_, fun c hc => ?_, fun c hc => ?_, fun c hc => ?_, ?_, ?_, ?_, ?_⟩
  · unfold mU
    rw [if_pos rfl]
    exact hv
  · rw [e _ (by omega)]; exact i4 c hc
  · rw [e _ (by omega)]; exact i5 c hc
  · rw [e _ (by omega)]; exact i6 c hc
  · rw [e _ (by omega)]; exact i7 c hc
  · rw [e 5 (by omega)]
    refine ⟨i8.1, fun i hi => ?_⟩
    rw [e _ (by omega), e _ (by omega)]
    exact i8.2 i hi
  · rw [e 7 (by omega), e 0 (by omega), e 1 (by omega)]
    refine ⟨i9.1, fun i hi => ?_⟩
    rw [e _ (by omega), e _ (by omega), e _ (by omega)]
    exact i9.2 i hi
  · rw [e 8 (by omega), e 0 (by omega), e 1 (by omega)]
    refine ⟨i10.1, fun i hi => ?_⟩
    rw [e _ (by omega), e _ (by omega), e _ (by omega)]
    exact i10.2 i hi
  · rw [e 6 (by omega)]
    intro i hi
    rw [e _ (by omega), e _ (by omega)]
    exact i11 i hi
theorem svS_3 {M : Nat → Int} (hi : invD M) : svS M 3 = M 3 := by
  obtain ⟨_, ag⟩ := allS_inv (th := false) hi.1 hi.2.1
  unfold svS
  rw [mvS_o (by omega), ag 3 (by omega) (by omega) (by omega)]
section SPRING2
variable {d n z : Nat} {Rf : Nat → Nat → Option Nat} {K : Nat → Nat × Nat} {Z : Nat → Nat → Int} {Q : Option sm_V → sm_S → Prop}
theorem c_spring9 (H : sm_sh Rf K) (h3 : Z 1 3 = 9999) : sm_call d 98 [.inr (some 0)] (Z, Rf, K, n, z) Q = Q (some (.inl (-1))) (Z, Rf, K, n, z) := by
  rw [ce98, b98_0, kk_0 H, rr_0_0 H]
  simp only [wr_id, wr_b2i, wr_wr, b2i_eq0, b2i_eq1, b2i_01, sm_rem_eq, sm_div_eq, wl_m2, wl_m1, wl_0, wl_1, wl_2, wl_3, wl_4, wl_5, wl_6, wl_7, wl_8, wl_9, wl_10, wl_12, wl_13, wl_14, wl_16, wl_20, wl_21, wl_22, wl_23, wl_32, wl_36, wl_40, wl_41, wl_42, wl_43, wl_44, wl_45, wl_46, wl_47, wl_48, wl_57, wl_59, wl_60, wl_61, wl_62, wl_65, wl_90, wl_97, wl_99, wl_100, wl_121, wl_122, wl_140, wl_142, wl_143, wl_145, wl_147, wl_160, wl_161, wl_162, wl_242, wl_380, wl_400, wl_420, wl_820, wl_1340, wl_5480, wl_9999, true_and, and_true, true_or, or_true, if_true, if_false, and_self, or_self, false_and, and_false, false_or, or_false, not_true_eq_false, not_false_eq_true, Int.reduceEq, Int.reduceLT, Int.reduceLE, Int.reduceToNat, Int.reduceAdd, Int.reduceMul, Int.reduceSub, Int.reduceMod, Int.reduceDiv, Int.reduceNeg, Nat.reduceEqDiff, sm_rd_ok, sm_rd_ok2, sm_wt_ok, sm_cp_ok, Option.isSome_some, Option.getD_some, w_cont, Option.toList_some, Option.toList_none, List.cons_append, List.nil_append, kk_1 H, h3]
  rw [b98_13]
theorem c_spring (H : sm_sh Rf K) (hz : sm_zs Z) (hst : stI Z) {M : Nat → Int} (hi : invD M) (hr : rD Z Rf K M 1) (h3 : M 3 ≠ 9999) : ∃ Z', rD Z' Rf K (spgS M) 1 ∧ stI Z' ∧ Z' 0 12 = 0 ∧ (∀ j, j ≠ 12 → Z' 0 j = Z 0 j) ∧ (∀ a, a ≠ 0 → a ≠ 1 → a ≠ 2 → a ≠ 7 → a ≠ 8 → (a < 22 ∨ 25 < a) → (a < 51 ∨ 62 < a) → Z' a = Z a) ∧ ∀ Q, sm_call (d + 6) 98 [.inr (some 0)] (Z, Rf, K, n, z) Q = Q (some (.inl (nmS (allS false (drR 100 0 M))).2.2)) (Z', Rf, K, n, z) := by
  have hd : rDr Z M := ⟨⟨hr.1.1, hr.1.2.1, hr.1.2.2.1⟩, fun c hc => ⟨(hr.2.1 c hc).1, (hr.2.1 c hc).2.2.2.1⟩⟩
  obtain ⟨Z1, g1, g2, g3⟩ := c_drawFlies (d := d + 4) (n := n) (z := z) H hi.1.1 hi.2.2.2.1 hd
  have o := drR_o 100 0 M (by omega)
  have r1 : rD Z1 Rf K (drR 100 0 M) 1 := rD_fl ⟨g1.1.1, g1.1.2.1, g1.1.2.2, by rw [g2.2 3 (by decide), o 3 (by omega)]; exact hr.1.2.2.2⟩ (fun c hc => (g1.2 c hc).1) g2.1 (fun k hk => o k (by omega)) hr
  have hz1 : sm_zs Z1 := zs_fr hz (fun a ha => g2.1 a (by omega) (by omega))
  have hst1 : stI Z1 := stI_fr (fun a ha => by rw [g2.1 a (by omega) (by omega)]) hst
  have hi1 := drR_inv hi
  obtain ⟨Z2, f1, f2, f3, f4, f5, f6⟩ := c_surveyFG (d := d) (n := n) (z := z) H hz1 hst1 hi1 r1
  have e3 : Z2 1 3 = M 3 := by rw [f1.1.2.2.2, svS_3 hi1, o 3 (by omega)]
  refine ⟨sm_u Z2 1 3 (M 3 + 1), ?_, ?_, ?_, ?_, ?_, fun Q => ?_⟩
  · refine rD_row (M := svS (drR 100 0 M)) ?_ (fun a h1 h2 => sm_u_row (by omega)) (fun a ha => sm_u_row (by omega)) (fun k hk => by unfold spgS mU; rw [if_neg (by omega)]) f1
    rw [sm_u_eq, sm_u_eq, sm_u_eq, sm_u_eq, if_neg (by decide), if_neg (by decide), if_neg (by decide), if_pos rfl]
    unfold spgS mU
    rw [if_neg (by decide), if_neg (by decide), if_neg (by decide), if_pos rfl]
    exact ⟨f1.1.1, f1.1.2.1, f1.1.2.2.1, rfl⟩
  · exact stI_fr (fun a ha => by rw [sm_u_ne (by omega)]) f2
  · rw [sm_u_ne (by decide)]; exact f3
  · intro j hj
    rw [sm_u_ne (by decide), f4 j hj, g2.1 0 (by decide) (by decide)]
  · intro a h0 h1 h2 h7 h8 h22 h51
    rw [sm_u_row h1, f5 a h0 h7 h8 h22 h51, g2.1 a h1 h2]
  · have h39 := hi.2.2.1
    rw [ce98, b98_0, kk_0 H, rr_0_0 H]
    simp only [wr_id, wr_b2i, wr_wr, b2i_eq0, b2i_eq1, b2i_01, sm_rem_eq, sm_div_eq, wl_m2, wl_m1, wl_0, wl_1, wl_2, wl_3, wl_4, wl_5, wl_6, wl_7, wl_8, wl_9, wl_10, wl_12, wl_13, wl_14, wl_16, wl_20, wl_21, wl_22, wl_23, wl_32, wl_36, wl_40, wl_41, wl_42, wl_43, wl_44, wl_45, wl_46, wl_47, wl_48, wl_57, wl_59, wl_60, wl_61, wl_62, wl_65, wl_90, wl_97, wl_99, wl_100, wl_121, wl_122, wl_140, wl_142, wl_143, wl_145, wl_147, wl_160, wl_161, wl_162, wl_242, wl_380, wl_400, wl_420, wl_820, wl_1340, wl_5480, wl_9999, true_and, and_true, true_or, or_true, if_true, if_false, and_self, or_self, false_and, and_false, false_or, or_false, not_true_eq_false, not_false_eq_true, Int.reduceEq, Int.reduceLT, Int.reduceLE, Int.reduceToNat, Int.reduceAdd, Int.reduceMul, Int.reduceSub, Int.reduceMod, Int.reduceDiv, Int.reduceNeg, Nat.reduceEqDiff, sm_rd_ok, sm_rd_ok2, sm_wt_ok, sm_cp_ok, Option.isSome_some, Option.getD_some, w_cont, Option.toList_some, Option.toList_none, List.cons_append, List.nil_append, kk_1 H, hr.1.2.2.2]
    rw [wr_id (by omega) (by omega), if_pos (by omega), b98_15, kk_0 H, rr_0_0 H]
    simp only [wr_id, wr_b2i, wr_wr, b2i_eq0, b2i_eq1, b2i_01, sm_rem_eq, sm_div_eq, wl_m2, wl_m1, wl_0, wl_1, wl_2, wl_3, wl_4, wl_5, wl_6, wl_7, wl_8, wl_9, wl_10, wl_12, wl_13, wl_14, wl_16, wl_20, wl_21, wl_22, wl_23, wl_32, wl_36, wl_40, wl_41, wl_42, wl_43, wl_44, wl_45, wl_46, wl_47, wl_48, wl_57, wl_59, wl_60, wl_61, wl_62, wl_65, wl_90, wl_97, wl_99, wl_100, wl_121, wl_122, wl_140, wl_142, wl_143, wl_145, wl_147, wl_160, wl_161, wl_162, wl_242, wl_380, wl_400, wl_420, wl_820, wl_1340, wl_5480, wl_9999, true_and, and_true, true_or, or_true, if_true, if_false, and_self, or_self, false_and, and_false, false_or, or_false, not_true_eq_false, not_false_eq_true, Int.reduceEq, Int.reduceLT, Int.reduceLE, Int.reduceToNat, Int.reduceAdd, Int.reduceMul, Int.reduceSub, Int.reduceMod, Int.reduceDiv, Int.reduceNeg, Nat.reduceEqDiff, sm_rd_ok, sm_rd_ok2, sm_wt_ok, sm_cp_ok, Option.isSome_some, Option.getD_some, w_cont, Option.toList_some, Option.toList_none, List.cons_append, List.nil_append, kk_1 H]
    refine (g3 _).trans ?_
    rw [w_cont]
    simp only [wr_id, wr_b2i, wr_wr, b2i_eq0, b2i_eq1, b2i_01, sm_rem_eq, sm_div_eq, wl_m2, wl_m1, wl_0, wl_1, wl_2, wl_3, wl_4, wl_5, wl_6, wl_7, wl_8, wl_9, wl_10, wl_12, wl_13, wl_14, wl_16, wl_20, wl_21, wl_22, wl_23, wl_32, wl_36, wl_40, wl_41, wl_42, wl_43, wl_44, wl_45, wl_46, wl_47, wl_48, wl_57, wl_59, wl_60, wl_61, wl_62, wl_65, wl_90, wl_97, wl_99, wl_100, wl_121, wl_122, wl_140, wl_142, wl_143, wl_145, wl_147, wl_160, wl_161, wl_162, wl_242, wl_380, wl_400, wl_420, wl_820, wl_1340, wl_5480, wl_9999, true_and, and_true, true_or, or_true, if_true, if_false, and_self, or_self, false_and, and_false, false_or, or_false, not_true_eq_false, not_false_eq_true, Int.reduceEq, Int.reduceLT, Int.reduceLE, Int.reduceToNat, Int.reduceAdd, Int.reduceMul, Int.reduceSub, Int.reduceMod, Int.reduceDiv, Int.reduceNeg, Nat.reduceEqDiff, sm_rd_ok, sm_rd_ok2, sm_wt_ok, sm_cp_ok, Option.isSome_some, Option.getD_some, w_cont, Option.toList_some, Option.toList_none, List.cons_append, List.nil_append]
    rw [b98_22, kk_0 H]
    simp only [wr_id, wr_b2i, wr_wr, b2i_eq0, b2i_eq1, b2i_01, sm_rem_eq, sm_div_eq, wl_m2, wl_m1, wl_0, wl_1, wl_2, wl_3, wl_4, wl_5, wl_6, wl_7, wl_8, wl_9, wl_10, wl_12, wl_13, wl_14, wl_16, wl_20, wl_21, wl_22, wl_23, wl_32, wl_36, wl_40, wl_41, wl_42, wl_43, wl_44, wl_45, wl_46, wl_47, wl_48, wl_57, wl_59, wl_60, wl_61, wl_62, wl_65, wl_90, wl_97, wl_99, wl_100, wl_121, wl_122, wl_140, wl_142, wl_143, wl_145, wl_147, wl_160, wl_161, wl_162, wl_242, wl_380, wl_400, wl_420, wl_820, wl_1340, wl_5480, wl_9999, true_and, and_true, true_or, or_true, if_true, if_false, and_self, or_self, false_and, and_false, false_or, or_false, not_true_eq_false, not_false_eq_true, Int.reduceEq, Int.reduceLT, Int.reduceLE, Int.reduceToNat, Int.reduceAdd, Int.reduceMul, Int.reduceSub, Int.reduceMod, Int.reduceDiv, Int.reduceNeg, Nat.reduceEqDiff, sm_rd_ok, sm_rd_ok2, sm_wt_ok, sm_cp_ok, Option.isSome_some, Option.getD_some, w_cont, Option.toList_some, Option.toList_none, List.cons_append, List.nil_append]
    refine (f6 _).trans ?_
    rw [w_cont]
    simp only [wr_id, wr_b2i, wr_wr, b2i_eq0, b2i_eq1, b2i_01, sm_rem_eq, sm_div_eq, wl_m2, wl_m1, wl_0, wl_1, wl_2, wl_3, wl_4, wl_5, wl_6, wl_7, wl_8, wl_9, wl_10, wl_12, wl_13, wl_14, wl_16, wl_20, wl_21, wl_22, wl_23, wl_32, wl_36, wl_40, wl_41, wl_42, wl_43, wl_44, wl_45, wl_46, wl_47, wl_48, wl_57, wl_59, wl_60, wl_61, wl_62, wl_65, wl_90, wl_97, wl_99, wl_100, wl_121, wl_122, wl_140, wl_142, wl_143, wl_145, wl_147, wl_160, wl_161, wl_162, wl_242, wl_380, wl_400, wl_420, wl_820, wl_1340, wl_5480, wl_9999, true_and, and_true, true_or, or_true, if_true, if_false, and_self, or_self, false_and, and_false, false_or, or_false, not_true_eq_false, not_false_eq_true, Int.reduceEq, Int.reduceLT, Int.reduceLE, Int.reduceToNat, Int.reduceAdd, Int.reduceMul, Int.reduceSub, Int.reduceMod, Int.reduceDiv, Int.reduceNeg, Nat.reduceEqDiff, sm_rd_ok, sm_rd_ok2, sm_wt_ok, sm_cp_ok, Option.isSome_some, Option.getD_some, w_cont, Option.toList_some, Option.toList_none, List.cons_append, List.nil_append]
    rw [b98_26, kk_0 H, rr_0_0 H]
    simp only [wr_id, wr_b2i, wr_wr, b2i_eq0, b2i_eq1, b2i_01, sm_rem_eq, sm_div_eq, wl_m2, wl_m1, wl_0, wl_1, wl_2, wl_3, wl_4, wl_5, wl_6, wl_7, wl_8, wl_9, wl_10, wl_12, wl_13, wl_14, wl_16, wl_20, wl_21, wl_22, wl_23, wl_32, wl_36, wl_40, wl_41, wl_42, wl_43, wl_44, wl_45, wl_46, wl_47, wl_48, wl_57, wl_59, wl_60, wl_61, wl_62, wl_65, wl_90, wl_97, wl_99, wl_100, wl_121, wl_122, wl_140, wl_142, wl_143, wl_145, wl_147, wl_160, wl_161, wl_162, wl_242, wl_380, wl_400, wl_420, wl_820, wl_1340, wl_5480, wl_9999, true_and, and_true, true_or, or_true, if_true, if_false, and_self, or_self, false_and, and_false, false_or, or_false, not_true_eq_false, not_false_eq_true, Int.reduceEq, Int.reduceLT, Int.reduceLE, Int.reduceToNat, Int.reduceAdd, Int.reduceMul, Int.reduceSub, Int.reduceMod, Int.reduceDiv, Int.reduceNeg, Nat.reduceEqDiff, sm_rd_ok, sm_rd_ok2, sm_wt_ok, sm_cp_ok, Option.isSome_some, Option.getD_some, w_cont, Option.toList_some, Option.toList_none, List.cons_append, List.nil_append, kk_1 H, e3]
theorem m_spring9 (H : sm_sh Rf K) (h3 : Z 80 3 = 9999) : sm_call d 176 [.inr (some 79)] (Z, Rf, K, n, z) Q = Q (some (.inl (-1))) (Z, Rf, K, n, z) := by
  rw [ce176, b176_0, kk_79 H, rr_79_0 H]
  simp (disch := omega) only [wr_id, wr_b2i, wr_wr, b2i_eq0, b2i_eq1, b2i_01, sm_rem_eq, sm_div_eq, wl_m2, wl_m1, wl_0, wl_1, wl_2, wl_3, wl_4, wl_5, wl_6, wl_7, wl_8, wl_9, wl_10, wl_12, wl_13, wl_14, wl_16, wl_20, wl_21, wl_22, wl_23, wl_32, wl_36, wl_40, wl_41, wl_42, wl_43, wl_44, wl_45, wl_46, wl_47, wl_48, wl_57, wl_59, wl_60, wl_61, wl_62, wl_65, wl_90, wl_97, wl_99, wl_100, wl_121, wl_122, wl_140, wl_142, wl_143, wl_145, wl_147, wl_160, wl_161, wl_162, wl_242, wl_380, wl_400, wl_420, wl_820, wl_1340, wl_5480, wl_9999, true_and, and_true, true_or, or_true, if_true, if_false, and_self, or_self, false_and, and_false, false_or, or_false, not_true_eq_false, not_false_eq_true, Int.reduceEq, Int.reduceLT, Int.reduceLE, Int.reduceToNat, Int.reduceAdd, Int.reduceMul, Int.reduceSub, Int.reduceMod, Int.reduceDiv, Int.reduceNeg, Nat.reduceEqDiff, sm_rd_ok, sm_rd_ok2, sm_wt_ok, sm_cp_ok, Option.isSome_some, Option.getD_some, w_cont, Option.toList_some, Option.toList_none, List.cons_append, List.nil_append, kk_80 H, h3]
  rw [b176_12]
theorem m_spring (H : sm_sh Rf K) {M : Nat → Int} (hM : Z 80 = M) (hi : invD M) (h6 : Z 79 6 = 0) (h3 : M 3 ≠ 9999) : ∃ Z', Z' 80 = spgS M ∧ Z' 79 4 = 0 ∧ (∀ j, j ≠ 4 → j ≠ 30 → Z' 79 j = Z 79 j) ∧ (∀ a, (a < 79 ∨ a = 81 ∨ a = 82 ∨ a = 83 ∨ a = 84 ∨ a = 85 ∨ a = 86 ∨ 94 < a) → Z' a = Z a) ∧ ∀ Q, sm_call (d + 8) 176 [.inr (some 79)] (Z, Rf, K, n, z) Q = Q (some (.inl (nmS (allS false (drR 100 0 M))).2.2)) (Z', Rf, K, n, z) := by
  have h39 := hi.2.2.1
  have q := m_dr_loop (d := d + 5) (n := n) (z := z) (Rf := Rf) (K := K) H 100 0 M Z (by omega) hM hi.1.1 hi.2.2.2.1
  have hi1 := drR_inv hi
  obtain ⟨Z2, f1, f2, f3, f4, f5⟩ := m_survey (d := d) (n := n) (z := z) H (Z := sm_r Z 80 (drR 100 0 M)) (M := drR 100 0 M) sm_r_same hi1 (by rw [sm_r_ne (by decide)]; exact h6)
  have o := drR_o 100 0 M (by omega)
  have e3 : Z2 80 3 = M 3 := by rw [f1, svS_3 hi1, o 3 (by omega)]
  refine ⟨sm_u Z2 80 3 (M 3 + 1), ?_, ?_, ?_, ?_, fun Q => ?_⟩
  · rw [sm_u_mU, f1]
    rfl
  · rw [sm_u_ne (by decide)]; exact f2
  · intro j h1 h2
    rw [sm_u_ne (by decide), f3 j h1 h2, sm_r_ne (by decide)]
  · intro a ha
    rw [sm_u_row (by omega), f4 a ha, sm_r_row (by omega)]
  · rw [ce176, b176_0, kk_79 H, rr_79_0 H]
    simp (disch := omega) only [wr_id, wr_b2i, wr_wr, b2i_eq0, b2i_eq1, b2i_01, sm_rem_eq, sm_div_eq, wl_m2, wl_m1, wl_0, wl_1, wl_2, wl_3, wl_4, wl_5, wl_6, wl_7, wl_8, wl_9, wl_10, wl_12, wl_13, wl_14, wl_16, wl_20, wl_21, wl_22, wl_23, wl_32, wl_36, wl_40, wl_41, wl_42, wl_43, wl_44, wl_45, wl_46, wl_47, wl_48, wl_57, wl_59, wl_60, wl_61, wl_62, wl_65, wl_90, wl_97, wl_99, wl_100, wl_121, wl_122, wl_140, wl_142, wl_143, wl_145, wl_147, wl_160, wl_161, wl_162, wl_242, wl_380, wl_400, wl_420, wl_820, wl_1340, wl_5480, wl_9999, true_and, and_true, true_or, or_true, if_true, if_false, and_self, or_self, false_and, and_false, false_or, or_false, not_true_eq_false, not_false_eq_true, Int.reduceEq, Int.reduceLT, Int.reduceLE, Int.reduceToNat, Int.reduceAdd, Int.reduceMul, Int.reduceSub, Int.reduceMod, Int.reduceDiv, Int.reduceNeg, Nat.reduceEqDiff, sm_rd_ok, sm_rd_ok2, sm_wt_ok, sm_cp_ok, Option.isSome_some, Option.getD_some, w_cont, Option.toList_some, Option.toList_none, List.cons_append, List.nil_append, kk_80 H, hM]
    rw [if_neg h3, b176_14]
    refine (q Q).trans ?_
    rw [b176_69, kk_79 H]
    simp only [wr_id, wr_b2i, wr_wr, b2i_eq0, b2i_eq1, b2i_01, sm_rem_eq, sm_div_eq, wl_m2, wl_m1, wl_0, wl_1, wl_2, wl_3, wl_4, wl_5, wl_6, wl_7, wl_8, wl_9, wl_10, wl_12, wl_13, wl_14, wl_16, wl_20, wl_21, wl_22, wl_23, wl_32, wl_36, wl_40, wl_41, wl_42, wl_43, wl_44, wl_45, wl_46, wl_47, wl_48, wl_57, wl_59, wl_60, wl_61, wl_62, wl_65, wl_90, wl_97, wl_99, wl_100, wl_121, wl_122, wl_140, wl_142, wl_143, wl_145, wl_147, wl_160, wl_161, wl_162, wl_242, wl_380, wl_400, wl_420, wl_820, wl_1340, wl_5480, wl_9999, true_and, and_true, true_or, or_true, if_true, if_false, and_self, or_self, false_and, and_false, false_or, or_false, not_true_eq_false, not_false_eq_true, Int.reduceEq, Int.reduceLT, Int.reduceLE, Int.reduceToNat, Int.reduceAdd, Int.reduceMul, Int.reduceSub, Int.reduceMod, Int.reduceDiv, Int.reduceNeg, Nat.reduceEqDiff, sm_rd_ok, sm_rd_ok2, sm_wt_ok, sm_cp_ok, Option.isSome_some, Option.getD_some, w_cont, Option.toList_some, Option.toList_none, List.cons_append, List.nil_append]
    refine (f5 _).trans ?_
    rw [w_cont]
    simp only [wr_id, wr_b2i, wr_wr, b2i_eq0, b2i_eq1, b2i_01, sm_rem_eq, sm_div_eq, wl_m2, wl_m1, wl_0, wl_1, wl_2, wl_3, wl_4, wl_5, wl_6, wl_7, wl_8, wl_9, wl_10, wl_12, wl_13, wl_14, wl_16, wl_20, wl_21, wl_22, wl_23, wl_32, wl_36, wl_40, wl_41, wl_42, wl_43, wl_44, wl_45, wl_46, wl_47, wl_48, wl_57, wl_59, wl_60, wl_61, wl_62, wl_65, wl_90, wl_97, wl_99, wl_100, wl_121, wl_122, wl_140, wl_142, wl_143, wl_145, wl_147, wl_160, wl_161, wl_162, wl_242, wl_380, wl_400, wl_420, wl_820, wl_1340, wl_5480, wl_9999, true_and, and_true, true_or, or_true, if_true, if_false, and_self, or_self, false_and, and_false, false_or, or_false, not_true_eq_false, not_false_eq_true, Int.reduceEq, Int.reduceLT, Int.reduceLE, Int.reduceToNat, Int.reduceAdd, Int.reduceMul, Int.reduceSub, Int.reduceMod, Int.reduceDiv, Int.reduceNeg, Nat.reduceEqDiff, sm_rd_ok, sm_rd_ok2, sm_wt_ok, sm_cp_ok, Option.isSome_some, Option.getD_some, w_cont, Option.toList_some, Option.toList_none, List.cons_append, List.nil_append]
    rw [b176_73, kk_79 H, rr_79_0 H]
    simp (disch := omega) only [wr_id, wr_b2i, wr_wr, b2i_eq0, b2i_eq1, b2i_01, sm_rem_eq, sm_div_eq, wl_m2, wl_m1, wl_0, wl_1, wl_2, wl_3, wl_4, wl_5, wl_6, wl_7, wl_8, wl_9, wl_10, wl_12, wl_13, wl_14, wl_16, wl_20, wl_21, wl_22, wl_23, wl_32, wl_36, wl_40, wl_41, wl_42, wl_43, wl_44, wl_45, wl_46, wl_47, wl_48, wl_57, wl_59, wl_60, wl_61, wl_62, wl_65, wl_90, wl_97, wl_99, wl_100, wl_121, wl_122, wl_140, wl_142, wl_143, wl_145, wl_147, wl_160, wl_161, wl_162, wl_242, wl_380, wl_400, wl_420, wl_820, wl_1340, wl_5480, wl_9999, true_and, and_true, true_or, or_true, if_true, if_false, and_self, or_self, false_and, and_false, false_or, or_false, not_true_eq_false, not_false_eq_true, Int.reduceEq, Int.reduceLT, Int.reduceLE, Int.reduceToNat, Int.reduceAdd, Int.reduceMul, Int.reduceSub, Int.reduceMod, Int.reduceDiv, Int.reduceNeg, Nat.reduceEqDiff, sm_rd_ok, sm_rd_ok2, sm_wt_ok, sm_cp_ok, Option.isSome_some, Option.getD_some, w_cont, Option.toList_some, Option.toList_none, List.cons_append, List.nil_append, kk_80 H, e3]
end SPRING2
