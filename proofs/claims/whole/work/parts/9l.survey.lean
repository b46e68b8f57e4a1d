/-! Surveys and springs. -/
section SURVEYS
variable {d n z : Nat} {Rf : Nat → Nat → Option Nat} {K : Nat → Nat × Nat} {Z : Nat → Nat → Int}
theorem rAll_sv {Z1 Z2 : Nat → Nat → Int} {M' : Nat → Int} (h : rAll Z Rf K n) (hi : invD M') (c1 : rD Z1 Rf K M' 1) (c2 : stI Z1) (c3 : Z1 0 12 = 0) (c4 : ∀ j, j ≠ 12 → Z1 0 j = Z 0 j) (c5 : ∀ a, a ≠ 0 → a ≠ 1 → a ≠ 2 → a ≠ 7 → a ≠ 8 → (a < 22 ∨ 25 < a) → (a < 51 ∨ 62 < a) → Z1 a = Z a) (m1 : Z2 80 = M') (m2 : Z2 79 4 = 0) (m3 : ∀ j, j ≠ 4 → j ≠ 30 → Z2 79 j = Z1 79 j) (m4 : ∀ a, (a < 79 ∨ a = 81 ∨ a = 82 ∨ a = 83 ∨ a = 84 ∨ a = 85 ∨ a = 86 ∨ 94 < a) → Z2 a = Z1 a) : rAll Z2 Rf K n ∧ Z2 4000000 = Z 4000000 := by
  obtain ⟨a1, a2, a3, a4, a5, a6, a7, a8, a9, a10, a11, a12⟩ := h
  have e79 : Z1 79 = Z 79 := c5 79 (by decide) (by decide) (by decide) (by decide) (by decide) (by decide) (by decide)
  have hz : ∀ a, (26 ≤ a ∧ a < 51) ∨ a = 19 ∨ a = 20 ∨ a = 77 ∨ a = 78 ∨ a = 81 ∨ a = 83 ∨ a = 86 ∨ 96 < a → Z2 a = Z a := fun a ha => by rw [m4 a (by omega), c5 a (by omega) (by omega) (by omega) (by omega) (by omega) (by omega) (by omega)]
  have hj : ∀ j, j ≠ 4 → j ≠ 30 → Z2 79 j = Z 79 j := fun j q1 q2 => by rw [m3 j q1 q2, e79]
  have h0 : ∀ j, j ≠ 12 → Z2 0 j = Z 0 j := fun j q => by rw [m4 0 (by omega), c4 j q]
  refine ⟨⟨a1, zs_fr a2 (fun a ha => hz a (by omega)), stI_fr (fun a ha => by rw [m4 a (by omega)]) c2, by rw [m1]; exact hi, ?_, ?_, ?_, ?_, ?_, by rw [hj 6 (by decide) (by decide)]; exact a10, ⟨a11.1, a11.2.1, by rw [hz 19 (by omega)]; exact a11.2.2⟩, a12⟩, hz _ (by omega)⟩
  · rw [m1]
    exact rD_row (by rw [m4 1 (by omega)]; exact c1.1) (fun a q1 q2 => m4 a (by omega)) (fun a ha => m4 a (by omega)) (fun _ _ => rfl) c1
  · unfold rKp at a6 ⊢
    rw [h0 2 (by decide), hj 5 (by decide) (by decide), hz 81 (by omega)]
    exact ⟨a6.1, a6.2.1, fun g => ⟨(a6.2.2 g).1, rD_row (by rw [hz 26 (by omega)]; exact (a6.2.2 g).2.1) (fun a q1 q2 => hz a (by omega)) (fun a ha => hz a (by omega)) (fun _ _ => rfl) (a6.2.2 g).2⟩⟩
  · unfold rCh
    rw [m4 0 (by omega), c3, m2]
    exact ⟨rfl, by omega, fun j hj => absurd hj (by omega)⟩
  · unfold rTp at a8 ⊢
    rw [h0 8 (by decide), hj 14 (by decide) (by decide), hz 77 (by omega), hz 86 (by omega)]
    exact a8
  · unfold rFt at a9 ⊢
    rw [h0 9 (by decide), h0 10 (by decide), hj 21 (by decide) (by decide), hj 23 (by decide) (by decide)]
    exact a9
theorem k_survey (h : rAll Z Rf K n) : okC (d + 8) 97 175 [] Z Rf K n z := by
  have h0 := h
  obtain ⟨a1, a2, a3, a4, a5, a6, a7, a8, a9, a10, _⟩ := h0
  obtain ⟨Z1, c1, c2, c3, c4, c5, c6⟩ := c_surveyFG (d := d + 2) (n := n) (z := z) a1 a2 a3 a4 a5
  have e : ∀ a, a ≠ 0 → a ≠ 1 → a ≠ 2 → a ≠ 7 → a ≠ 8 → (a < 22 ∨ 25 < a) → (a < 51 ∨ 62 < a) → Z1 a = Z a := fun a q1 q2 q3 q4 q5 q6 q7 => c5 a (by omega) (by omega) (by omega) (by omega) (by omega)
  have e79 : Z1 79 = Z 79 := e 79 (by decide) (by decide) (by decide) (by decide) (by decide) (by decide) (by decide)
  obtain ⟨Z2, m1, m2, m3, m4, m5⟩ := m_survey (d := d + 1) (n := n) (z := z) (Z := Z1) (M := Z 80) a1 (e 80 (by decide) (by decide) (by decide) (by decide) (by decide) (by decide) (by decide)) a4 (by rw [e79]; exact a10)
  have r := rAll_sv h (invD_svS a4) c1 c2 c3 c4 e m1 m2 m3 m4
  refine okC_of (nmS (allS false (Z 80))).2.2 Z1 Z2 (fun Q hQ => ?_) (fun Q hQ => by rw [m5]; exact hQ) r.1 r.2
  rw [ce97, b97_0, kk_0 a1]
  simp only [wr_id, wr_b2i, wr_wr, b2i_eq0, b2i_eq1, b2i_01, sm_rem_eq, sm_div_eq, wl_m2, wl_m1, wl_0, wl_1, wl_2, wl_3, wl_4, wl_5, wl_6, wl_7, wl_8, wl_9, wl_10, wl_12, wl_13, wl_14, wl_16, wl_20, wl_21, wl_22, wl_23, wl_32, wl_36, wl_40, wl_41, wl_42, wl_43, wl_44, wl_45, wl_46, wl_47, wl_48, wl_57, wl_59, wl_60, wl_61, wl_62, wl_65, wl_90, wl_97, wl_99, wl_100, wl_121, wl_122, wl_140, wl_142, wl_143, wl_145, wl_147, wl_160, wl_161, wl_162, wl_242, wl_380, wl_400, wl_420, wl_820, wl_1340, wl_5480, wl_9999, true_and, and_true, true_or, or_true, if_true, if_false, and_self, or_self, false_and, and_false, false_or, or_false, not_true_eq_false, not_false_eq_true, Int.reduceEq, Int.reduceLT, Int.reduceLE, Int.reduceToNat, Int.reduceAdd, Int.reduceMul, Int.reduceSub, Int.reduceMod, Int.reduceDiv, Int.reduceNeg, Nat.reduceEqDiff, sm_rd_ok, sm_rd_ok2, sm_wt_ok, sm_cp_ok, Option.isSome_some, Option.getD_some, w_cont, Option.toList_some, Option.toList_none, List.cons_append, List.nil_append]
  refine (c6 _).mpr ?_
  rw [w_cont]
  simp only [wr_id, wr_b2i, wr_wr, b2i_eq0, b2i_eq1, b2i_01, sm_rem_eq, sm_div_eq, wl_m2, wl_m1, wl_0, wl_1, wl_2, wl_3, wl_4, wl_5, wl_6, wl_7, wl_8, wl_9, wl_10, wl_12, wl_13, wl_14, wl_16, wl_20, wl_21, wl_22, wl_23, wl_32, wl_36, wl_40, wl_41, wl_42, wl_43, wl_44, wl_45, wl_46, wl_47, wl_48, wl_57, wl_59, wl_60, wl_61, wl_62, wl_65, wl_90, wl_97, wl_99, wl_100, wl_121, wl_122, wl_140, wl_142, wl_143, wl_145, wl_147, wl_160, wl_161, wl_162, wl_242, wl_380, wl_400, wl_420, wl_820, wl_1340, wl_5480, wl_9999, true_and, and_true, true_or, or_true, if_true, if_false, and_self, or_self, false_and, and_false, false_or, or_false, not_true_eq_false, not_false_eq_true, Int.reduceEq, Int.reduceLT, Int.reduceLE, Int.reduceToNat, Int.reduceAdd, Int.reduceMul, Int.reduceSub, Int.reduceMod, Int.reduceDiv, Int.reduceNeg, Nat.reduceEqDiff, sm_rd_ok, sm_rd_ok2, sm_wt_ok, sm_cp_ok, Option.isSome_some, Option.getD_some, w_cont, Option.toList_some, Option.toList_none, List.cons_append, List.nil_append]
  rw [b97_4]
  exact hQ
theorem k_spring (h : rAll Z Rf K n) : okC (d + 8) 98 176 [] Z Rf K n z := by
  have h0 := h
  obtain ⟨a1, a2, a3, a4, a5, a6, a7, a8, a9, a10, _⟩ := h0
  by_cases h3 : Z 80 3 = 9999
  · exact okC_of (-1) Z Z (fun Q hQ => by rw [c_spring9 a1 (by rw [a5.1.2.2.2]; exact h3)]; exact hQ) (fun Q hQ => by rw [m_spring9 a1 h3]; exact hQ) h rfl
  · obtain ⟨Z1, c1, c2, c3, c4, e, c6⟩ := c_spring (d := d + 2) (n := n) (z := z) a1 a2 a3 a4 a5 h3
    have e79 : Z1 79 = Z 79 := e 79 (by decide) (by decide) (by decide) (by decide) (by decide) (by decide) (by decide)
    obtain ⟨Z2, m1, m2, m3, m4, m5⟩ := m_spring (d := d) (n := n) (z := z) (Z := Z1) (M := Z 80) a1 (e 80 (by decide) (by decide) (by decide) (by decide) (by decide) (by decide) (by decide)) a4 (by rw [e79]; exact a10) h3
    have hi : invD (spgS (Z 80)) := by
      unfold spgS
      have hb := a4.2.2.1
      exact invD_year (by omega) (invD_svS (drR_inv a4))
    have r := rAll_sv h hi c1 c2 c3 c4 e m1 m2 m3 m4
    exact okC_of _ Z1 Z2 (fun Q hQ => by rw [c6]; exact hQ) (fun Q hQ => by rw [m5]; exact hQ) r.1 r.2
end SURVEYS
