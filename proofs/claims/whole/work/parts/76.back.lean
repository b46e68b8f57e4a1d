def alB (P : Nat → Bool) : Nat → Nat → Bool
  | 0, _ => true
  | k + 1, i => P i && alB P k (i + 1)
/-- does a claim go with the counties -/
def clP (nm M : Nat → Int) (i : Nat) : Bool := decide ((nm (M (1920 + 3 * i)).toNat = nm (M (1921 + 3 * i)).toNat) ↔ M (1922 + 3 * i) = 1)
/-- how many sets go with the claims, what is common to them, the least -/
def bk1 (M : Nat → Int) (s : Nat) (t : Int × Int × Int) : Int × Int × Int := if alB (clP (nmH M (s : Int)) M) (M 8).toNat 0 = true then (t.1 + 1, if t.1 = 0 then (s : Int) else sm_and t.2.1 (s : Int), if t.1 = 0 then (s : Int) else t.2.2) else t
def bkR (M : Nat → Int) : Nat → Nat → Int × Int × Int → Int × Int × Int
  | 0, _, t => t
  | k + 1, s, t => bkR M k (s + 1) (bk1 M s t)
def clI (M : Nat → Int) : Prop := (0 ≤ M 8 ∧ M 8 ≤ 20) ∧ ∀ i : Nat, (i : Int) < M 8 → (0 ≤ M (1920 + 3 * i) ∧ M (1920 + 3 * i) < 100) ∧ (0 ≤ M (1921 + 3 * i) ∧ M (1921 + 3 * i) < 100) ∧ (M (1922 + 3 * i) = 0 ∨ M (1922 + 3 * i) = 1)
theorem clI_of {M : Nat → Int} (hi : invD M) : clI M := ⟨hi.2.2.2.2.2.2.2.2.2.1.1, fun i h => ⟨isC_bd (hi.2.2.2.2.2.2.2.2.2.1.2 i h).1, isC_bd (hi.2.2.2.2.2.2.2.2.2.1.2 i h).2.1, (hi.2.2.2.2.2.2.2.2.2.1.2 i h).2.2⟩⟩
theorem and_m1 {s : Nat} (h : s < 64) : sm_and (-1) (s : Int) = (s : Int) := by
  have : ∀ t : Fin 64, sm_and (-1) ((t : Nat) : Int) = ((t : Nat) : Int) := by decide
  exact this ⟨s, h⟩
theorem bk1_bd {M : Nat → Int} {s : Nat} {t : Int × Int × Int} (h : 0 ≤ t.1 ∧ t.1 ≤ (s : Int)) : 0 ≤ (bk1 M s t).1 ∧ (bk1 M s t).1 ≤ ((s + 1 : Nat) : Int) := by
  unfold bk1
  split
  · show 0 ≤ t.1 + 1 ∧ t.1 + 1 ≤ ((s + 1 : Nat) : Int)
    omega
  · omega
section BACK
variable {d n z : Nat} {Rf : Nat → Nat → Option Nat} {K : Nat → Nat × Nat} {Z : Nat → Nat → Int} {Q : Option sm_V → sm_S → Prop}
theorem c_cl_loop (H : sm_sh Rf K) {M nm : Nat → Int} (hc : clI M) (h16 : Z 16 2 = M 8) (h17 : ∀ i : Nat, (i : Int) < M 8 → ∀ c, c < 3 → Z 17 (5 * i + c) = M (1920 + 3 * i + c)) (hn : ∀ k, k < 100 → Z 56 k = nm k ∧ -1 ≤ nm k ∧ nm k < 100) : ∀ (k i : Nat) (l3 : Option sm_V), ((i + k : Nat) : Int) = M 8 → sm_wp (d + 1) 74 2 [some (.inr (some 1)), some (.inr (some 55)), some (.inl (i : Int)), l3] [] (Z, Rf, K, n, z) Q = Q (some (.inl (b2i (alB (clP nm M) k i)))) (Z, Rf, K, n, z) := by
  have h8 := hc.1
  intro k
  induction k with
  | zero =>
    intro i l3 hik
    have : (i : Int) = M 8 := by omega
    rw [this, b74_2, kk_1 H, rr_1_15 H]
    simp only [wr_id, wr_b2i, wr_wr, b2i_eq0, b2i_eq1, b2i_01, sm_rem_eq, sm_div_eq, wl_m2, wl_m1, wl_0, wl_1, wl_2, wl_3, wl_4, wl_5, wl_6, wl_7, wl_8, wl_9, wl_10, wl_12, wl_13, wl_14, wl_16, wl_20, wl_21, wl_22, wl_23, wl_32, wl_36, wl_40, wl_41, wl_42, wl_43, wl_44, wl_45, wl_46, wl_47, wl_48, wl_57, wl_59, wl_60, wl_61, wl_62, wl_65, wl_90, wl_97, wl_99, wl_100, wl_121, wl_122, wl_140, wl_142, wl_143, wl_145, wl_147, wl_160, wl_161, wl_162, wl_242, wl_380, wl_400, wl_420, wl_820, wl_1340, wl_5480, wl_9999, true_and, and_true, true_or, or_true, if_true, if_false, and_self, or_self, false_and, and_false, false_or, or_false, not_true_eq_false, not_false_eq_true, Int.reduceEq, Int.reduceLT, Int.reduceLE, Int.reduceToNat, Int.reduceAdd, Int.reduceMul, Int.reduceSub, Int.reduceMod, Int.reduceDiv, Int.reduceNeg, Nat.reduceEqDiff, sm_rd_ok, sm_rd_ok2, sm_wt_ok, sm_cp_ok, Option.isSome_some, Option.getD_some, w_cont, Option.toList_some, Option.toList_none, List.cons_append, List.nil_append, kk_16 H, h16]
    rw [if_pos (Int.le_refl _), b74_65]
    simp only [wr_id, wr_b2i, wr_wr, b2i_eq0, b2i_eq1, b2i_01, sm_rem_eq, sm_div_eq, wl_m2, wl_m1, wl_0, wl_1, wl_2, wl_3, wl_4, wl_5, wl_6, wl_7, wl_8, wl_9, wl_10, wl_12, wl_13, wl_14, wl_16, wl_20, wl_21, wl_22, wl_23, wl_32, wl_36, wl_40, wl_41, wl_42, wl_43, wl_44, wl_45, wl_46, wl_47, wl_48, wl_57, wl_59, wl_60, wl_61, wl_62, wl_65, wl_90, wl_97, wl_99, wl_100, wl_121, wl_122, wl_140, wl_142, wl_143, wl_145, wl_147, wl_160, wl_161, wl_162, wl_242, wl_380, wl_400, wl_420, wl_820, wl_1340, wl_5480, wl_9999, true_and, and_true, true_or, or_true, if_true, if_false, and_self, or_self, false_and, and_false, false_or, or_false, not_true_eq_false, not_false_eq_true, Int.reduceEq, Int.reduceLT, Int.reduceLE, Int.reduceToNat, Int.reduceAdd, Int.reduceMul, Int.reduceSub, Int.reduceMod, Int.reduceDiv, Int.reduceNeg, Nat.reduceEqDiff, sm_rd_ok, sm_rd_ok2, sm_wt_ok, sm_cp_ok, Option.isSome_some, Option.getD_some, w_cont, Option.toList_some, Option.toList_none, List.cons_append, List.nil_append]
    rfl
  | succ k ih =>
    intro i l3 hik
    obtain ⟨b1, b2, b3⟩ := hc.2 i (by omega)
    have g : ∀ c : Nat, c < 3 → rGet Z 16 17 (i : Int) (c : Int) = M (1920 + 3 * i + c) := by
      intro c hc3
      unfold rGet
      rw [if_pos (by omega), show ((i : Int) * 5 + (c : Int)).toNat = 5 * i + c by omega, h17 i (by omega) c hc3]
    have g0 : rGet Z 16 17 (i : Int) 0 = M (1920 + 3 * i) := g 0 (by omega)
    have g1 : rGet Z 16 17 (i : Int) 1 = M (1921 + 3 * i) := by have := g 1 (by omega); rw [show 1920 + 3 * i + 1 = 1921 + 3 * i by omega] at this; exact this
    have g2 : rGet Z 16 17 (i : Int) 2 = M (1922 + 3 * i) := by have := g 2 (by omega); rw [show 1920 + 3 * i + 2 = 1922 + 3 * i by omega] at this; exact this
    have gt : ∀ (x : Int) {Q : Option sm_V → sm_S → Prop}, (0 ≤ x ∧ x < 3) → sm_call d 54 [.inr (some 16), .inl (i : Int), .inl x] (Z, Rf, K, n, z) Q = Q (some (.inl (rGet Z 16 17 (i : Int) x))) (Z, Rf, K, n, z) := fun x Q hx => c_get (q := 17) (len := 100) (by rw [kk_16 H]) (rr_16_1 H) (kk_17 H) (by rw [h16]; omega) (by omega) (by omega)
    have body : ∀ l3, sm_wp (d + 1) 74 30 [some (.inr (some 1)), some (.inr (some 55)), some (.inl (i : Int)), l3] [.inl (M (1922 + 3 * i))] (Z, Rf, K, n, z) Q = Q (some (.inl (b2i (alB (clP nm M) (k + 1) i)))) (Z, Rf, K, n, z) := by
      intro l3
      rw [b74_30, kk_1 H, rr_1_15 H]
      simp only [wr_id, wr_b2i, wr_wr, b2i_eq0, b2i_eq1, b2i_01, sm_rem_eq, sm_div_eq, wl_m2, wl_m1, wl_0, wl_1, wl_2, wl_3, wl_4, wl_5, wl_6, wl_7, wl_8, wl_9, wl_10, wl_12, wl_13, wl_14, wl_16, wl_20, wl_21, wl_22, wl_23, wl_32, wl_36, wl_40, wl_41, wl_42, wl_43, wl_44, wl_45, wl_46, wl_47, wl_48, wl_57, wl_59, wl_60, wl_61, wl_62, wl_65, wl_90, wl_97, wl_99, wl_100, wl_121, wl_122, wl_140, wl_142, wl_143, wl_145, wl_147, wl_160, wl_161, wl_162, wl_242, wl_380, wl_400, wl_420, wl_820, wl_1340, wl_5480, wl_9999, true_and, and_true, true_or, or_true, if_true, if_false, and_self, or_self, false_and, and_false, false_or, or_false, not_true_eq_false, not_false_eq_true, Int.reduceEq, Int.reduceLT, Int.reduceLE, Int.reduceToNat, Int.reduceAdd, Int.reduceMul, Int.reduceSub, Int.reduceMod, Int.reduceDiv, Int.reduceNeg, Nat.reduceEqDiff, sm_rd_ok, sm_rd_ok2, sm_wt_ok, sm_cp_ok, Option.isSome_some, Option.getD_some, w_cont, Option.toList_some, Option.toList_none, List.cons_append, List.nil_append, kk_16 H]
      rw [gt 0 (by omega), w_cont, g0]
      simp only [wr_id, wr_b2i, wr_wr, b2i_eq0, b2i_eq1, b2i_01, sm_rem_eq, sm_div_eq, wl_m2, wl_m1, wl_0, wl_1, wl_2, wl_3, wl_4, wl_5, wl_6, wl_7, wl_8, wl_9, wl_10, wl_12, wl_13, wl_14, wl_16, wl_20, wl_21, wl_22, wl_23, wl_32, wl_36, wl_40, wl_41, wl_42, wl_43, wl_44, wl_45, wl_46, wl_47, wl_48, wl_57, wl_59, wl_60, wl_61, wl_62, wl_65, wl_90, wl_97, wl_99, wl_100, wl_121, wl_122, wl_140, wl_142, wl_143, wl_145, wl_147, wl_160, wl_161, wl_162, wl_242, wl_380, wl_400, wl_420, wl_820, wl_1340, wl_5480, wl_9999, true_and, and_true, true_or, or_true, if_true, if_false, and_self, or_self, false_and, and_false, false_or, or_false, not_true_eq_false, not_false_eq_true, Int.reduceEq, Int.reduceLT, Int.reduceLE, Int.reduceToNat, Int.reduceAdd, Int.reduceMul, Int.reduceSub, Int.reduceMod, Int.reduceDiv, Int.reduceNeg, Nat.reduceEqDiff, sm_rd_ok, sm_rd_ok2, sm_wt_ok, sm_cp_ok, Option.isSome_some, Option.getD_some, w_cont, Option.toList_some, Option.toList_none, List.cons_append, List.nil_append]
      rw [b74_41, kk_1 H, rr_1_15 H]
      simp only [wr_id, wr_b2i, wr_wr, b2i_eq0, b2i_eq1, b2i_01, sm_rem_eq, sm_div_eq, wl_m2, wl_m1, wl_0, wl_1, wl_2, wl_3, wl_4, wl_5, wl_6, wl_7, wl_8, wl_9, wl_10, wl_12, wl_13, wl_14, wl_16, wl_20, wl_21, wl_22, wl_23, wl_32, wl_36, wl_40, wl_41, wl_42, wl_43, wl_44, wl_45, wl_46, wl_47, wl_48, wl_57, wl_59, wl_60, wl_61, wl_62, wl_65, wl_90, wl_97, wl_99, wl_100, wl_121, wl_122, wl_140, wl_142, wl_143, wl_145, wl_147, wl_160, wl_161, wl_162, wl_242, wl_380, wl_400, wl_420, wl_820, wl_1340, wl_5480, wl_9999, true_and, and_true, true_or, or_true, if_true, if_false, and_self, or_self, false_and, and_false, false_or, or_false, not_true_eq_false, not_false_eq_true, Int.reduceEq, Int.reduceLT, Int.reduceLE, Int.reduceToNat, Int.reduceAdd, Int.reduceMul, Int.reduceSub, Int.reduceMod, Int.reduceDiv, Int.reduceNeg, Nat.reduceEqDiff, sm_rd_ok, sm_rd_ok2, sm_wt_ok, sm_cp_ok, Option.isSome_some, Option.getD_some, w_cont, Option.toList_some, Option.toList_none, List.cons_append, List.nil_append, kk_16 H]
      rw [gt 1 (by omega), w_cont, g1]
      simp only [wr_id, wr_b2i, wr_wr, b2i_eq0, b2i_eq1, b2i_01, sm_rem_eq, sm_div_eq, wl_m2, wl_m1, wl_0, wl_1, wl_2, wl_3, wl_4, wl_5, wl_6, wl_7, wl_8, wl_9, wl_10, wl_12, wl_13, wl_14, wl_16, wl_20, wl_21, wl_22, wl_23, wl_32, wl_36, wl_40, wl_41, wl_42, wl_43, wl_44, wl_45, wl_46, wl_47, wl_48, wl_57, wl_59, wl_60, wl_61, wl_62, wl_65, wl_90, wl_97, wl_99, wl_100, wl_121, wl_122, wl_140, wl_142, wl_143, wl_145, wl_147, wl_160, wl_161, wl_162, wl_242, wl_380, wl_400, wl_420, wl_820, wl_1340, wl_5480, wl_9999, true_and, and_true, true_or, or_true, if_true, if_false, and_self, or_self, false_and, and_false, false_or, or_false, not_true_eq_false, not_false_eq_true, Int.reduceEq, Int.reduceLT, Int.reduceLE, Int.reduceToNat, Int.reduceAdd, Int.reduceMul, Int.reduceSub, Int.reduceMod, Int.reduceDiv, Int.reduceNeg, Nat.reduceEqDiff, sm_rd_ok, sm_rd_ok2, sm_wt_ok, sm_cp_ok, Option.isSome_some, Option.getD_some, w_cont, Option.toList_some, Option.toList_none, List.cons_append, List.nil_append]
      rw [b74_50, kk_55 H]
      simp only [wr_id, wr_b2i, wr_wr, b2i_eq0, b2i_eq1, b2i_01, sm_rem_eq, sm_div_eq, wl_m2, wl_m1, wl_0, wl_1, wl_2, wl_3, wl_4, wl_5, wl_6, wl_7, wl_8, wl_9, wl_10, wl_12, wl_13, wl_14, wl_16, wl_20, wl_21, wl_22, wl_23, wl_32, wl_36, wl_40, wl_41, wl_42, wl_43, wl_44, wl_45, wl_46, wl_47, wl_48, wl_57, wl_59, wl_60, wl_61, wl_62, wl_65, wl_90, wl_97, wl_99, wl_100, wl_121, wl_122, wl_140, wl_142, wl_143, wl_145, wl_147, wl_160, wl_161, wl_162, wl_242, wl_380, wl_400, wl_420, wl_820, wl_1340, wl_5480, wl_9999, true_and, and_true, true_or, or_true, if_true, if_false, and_self, or_self, false_and, and_false, false_or, or_false, not_true_eq_false, not_false_eq_true, Int.reduceEq, Int.reduceLT, Int.reduceLE, Int.reduceToNat, Int.reduceAdd, Int.reduceMul, Int.reduceSub, Int.reduceMod, Int.reduceDiv, Int.reduceNeg, Nat.reduceEqDiff, sm_rd_ok, sm_rd_ok2, sm_wt_ok, sm_cp_ok, Option.isSome_some, Option.getD_some, w_cont, Option.toList_some, Option.toList_none, List.cons_append, List.nil_append]
      rw [c_areOne (nm := nm) H hn b1 b2, w_cont]
      simp only [wr_id, wr_b2i, wr_wr, b2i_eq0, b2i_eq1, b2i_01, sm_rem_eq, sm_div_eq, wl_m2, wl_m1, wl_0, wl_1, wl_2, wl_3, wl_4, wl_5, wl_6, wl_7, wl_8, wl_9, wl_10, wl_12, wl_13, wl_14, wl_16, wl_20, wl_21, wl_22, wl_23, wl_32, wl_36, wl_40, wl_41, wl_42, wl_43, wl_44, wl_45, wl_46, wl_47, wl_48, wl_57, wl_59, wl_60, wl_61, wl_62, wl_65, wl_90, wl_97, wl_99, wl_100, wl_121, wl_122, wl_140, wl_142, wl_143, wl_145, wl_147, wl_160, wl_161, wl_162, wl_242, wl_380, wl_400, wl_420, wl_820, wl_1340, wl_5480, wl_9999, true_and, and_true, true_or, or_true, if_true, if_false, and_self, or_self, false_and, and_false, false_or, or_false, not_true_eq_false, not_false_eq_true, Int.reduceEq, Int.reduceLT, Int.reduceLE, Int.reduceToNat, Int.reduceAdd, Int.reduceMul, Int.reduceSub, Int.reduceMod, Int.reduceDiv, Int.reduceNeg, Nat.reduceEqDiff, sm_rd_ok, sm_rd_ok2, sm_wt_ok, sm_cp_ok, Option.isSome_some, Option.getD_some, w_cont, Option.toList_some, Option.toList_none, List.cons_append, List.nil_append]
      rw [b74_53]
      simp only [wr_id, wr_b2i, wr_wr, b2i_eq0, b2i_eq1, b2i_01, sm_rem_eq, sm_div_eq, wl_m2, wl_m1, wl_0, wl_1, wl_2, wl_3, wl_4, wl_5, wl_6, wl_7, wl_8, wl_9, wl_10, wl_12, wl_13, wl_14, wl_16, wl_20, wl_21, wl_22, wl_23, wl_32, wl_36, wl_40, wl_41, wl_42, wl_43, wl_44, wl_45, wl_46, wl_47, wl_48, wl_57, wl_59, wl_60, wl_61, wl_62, wl_65, wl_90, wl_97, wl_99, wl_100, wl_121, wl_122, wl_140, wl_142, wl_143, wl_145, wl_147, wl_160, wl_161, wl_162, wl_242, wl_380, wl_400, wl_420, wl_820, wl_1340, wl_5480, wl_9999, true_and, and_true, true_or, or_true, if_true, if_false, and_self, or_self, false_and, and_false, false_or, or_false, not_true_eq_false, not_false_eq_true, Int.reduceEq, Int.reduceLT, Int.reduceLE, Int.reduceToNat, Int.reduceAdd, Int.reduceMul, Int.reduceSub, Int.reduceMod, Int.reduceDiv, Int.reduceNeg, Nat.reduceEqDiff, sm_rd_ok, sm_rd_ok2, sm_wt_ok, sm_cp_ok, Option.isSome_some, Option.getD_some, w_cont, Option.toList_some, Option.toList_none, List.cons_append, List.nil_append]
      rw [wr_id (by omega) (by omega)]
      simp only [alB]
      by_cases hP : clP nm M i = true
      · have hP' := hP
        simp only [clP, decide_eq_true_eq] at hP'
        rw [if_pos, b74_59, show (i : Int) + 1 = ((i + 1 : Nat) : Int) by omega, hP, Bool.true_and]
        · exact ih (i + 1) _ (by omega)
        · unfold b2i
          simp only [decide_eq_true_eq]
          by_cases hq : M (1922 + 3 * i) = 1
          · rw [if_pos (hP'.2 hq), hq]
          · rw [if_neg (fun g => hq (hP'.1 g))]
            omega
      · have hP' := hP
        simp only [clP, decide_eq_true_eq] at hP'
        rw [if_neg, b74_57, Bool.eq_false_iff.2 hP, Bool.false_and]
        · simp only [wr_id, wr_b2i, wr_wr, b2i_eq0, b2i_eq1, b2i_01, sm_rem_eq, sm_div_eq, wl_m2, wl_m1, wl_0, wl_1, wl_2, wl_3, wl_4, wl_5, wl_6, wl_7, wl_8, wl_9, wl_10, wl_12, wl_13, wl_14, wl_16, wl_20, wl_21, wl_22, wl_23, wl_32, wl_36, wl_40, wl_41, wl_42, wl_43, wl_44, wl_45, wl_46, wl_47, wl_48, wl_57, wl_59, wl_60, wl_61, wl_62, wl_65, wl_90, wl_97, wl_99, wl_100, wl_121, wl_122, wl_140, wl_142, wl_143, wl_145, wl_147, wl_160, wl_161, wl_162, wl_242, wl_380, wl_400, wl_420, wl_820, wl_1340, wl_5480, wl_9999, true_and, and_true, true_or, or_true, if_true, if_false, and_self, or_self, false_and, and_false, false_or, or_false, not_true_eq_false, not_false_eq_true, Int.reduceEq, Int.reduceLT, Int.reduceLE, Int.reduceToNat, Int.reduceAdd, Int.reduceMul, Int.reduceSub, Int.reduceMod, Int.reduceDiv, Int.reduceNeg, Nat.reduceEqDiff, sm_rd_ok, sm_rd_ok2, sm_wt_ok, sm_cp_ok, Option.isSome_some, Option.getD_some, w_cont, Option.toList_some, Option.toList_none, List.cons_append, List.nil_append]
          rfl
        · unfold b2i
          simp only [decide_eq_true_eq]
          intro g
          apply hP'
          by_cases hq : nm (M (1920 + 3 * i)).toNat = nm (M (1921 + 3 * i)).toNat
          · rw [if_pos hq] at g
            exact ⟨fun _ => g.symm, fun _ => hq⟩
          · rw [if_neg hq] at g
            exact ⟨fun q => absurd q hq, fun q => by omega⟩
    rw [b74_2, kk_1 H, rr_1_15 H]
    simp only [wr_id, wr_b2i, wr_wr, b2i_eq0, b2i_eq1, b2i_01, sm_rem_eq, sm_div_eq, wl_m2, wl_m1, wl_0, wl_1, wl_2, wl_3, wl_4, wl_5, wl_6, wl_7, wl_8, wl_9, wl_10, wl_12, wl_13, wl_14, wl_16, wl_20, wl_21, wl_22, wl_23, wl_32, wl_36, wl_40, wl_41, wl_42, wl_43, wl_44, wl_45, wl_46, wl_47, wl_48, wl_57, wl_59, wl_60, wl_61, wl_62, wl_65, wl_90, wl_97, wl_99, wl_100, wl_121, wl_122, wl_140, wl_142, wl_143, wl_145, wl_147, wl_160, wl_161, wl_162, wl_242, wl_380, wl_400, wl_420, wl_820, wl_1340, wl_5480, wl_9999, true_and, and_true, true_or, or_true, if_true, if_false, and_self, or_self, false_and, and_false, false_or, or_false, not_true_eq_false, not_false_eq_true, Int.reduceEq, Int.reduceLT, Int.reduceLE, Int.reduceToNat, Int.reduceAdd, Int.reduceMul, Int.reduceSub, Int.reduceMod, Int.reduceDiv, Int.reduceNeg, Nat.reduceEqDiff, sm_rd_ok, sm_rd_ok2, sm_wt_ok, sm_cp_ok, Option.isSome_some, Option.getD_some, w_cont, Option.toList_some, Option.toList_none, List.cons_append, List.nil_append, kk_16 H, h16]
    rw [wr_id (by omega) (by omega), wr_id (by omega) (by omega), if_neg (by omega), b74_13, kk_1 H, rr_1_15 H]
    simp only [wr_id, wr_b2i, wr_wr, b2i_eq0, b2i_eq1, b2i_01, sm_rem_eq, sm_div_eq, wl_m2, wl_m1, wl_0, wl_1, wl_2, wl_3, wl_4, wl_5, wl_6, wl_7, wl_8, wl_9, wl_10, wl_12, wl_13, wl_14, wl_16, wl_20, wl_21, wl_22, wl_23, wl_32, wl_36, wl_40, wl_41, wl_42, wl_43, wl_44, wl_45, wl_46, wl_47, wl_48, wl_57, wl_59, wl_60, wl_61, wl_62, wl_65, wl_90, wl_97, wl_99, wl_100, wl_121, wl_122, wl_140, wl_142, wl_143, wl_145, wl_147, wl_160, wl_161, wl_162, wl_242, wl_380, wl_400, wl_420, wl_820, wl_1340, wl_5480, wl_9999, true_and, and_true, true_or, or_true, if_true, if_false, and_self, or_self, false_and, and_false, false_or, or_false, not_true_eq_false, not_false_eq_true, Int.reduceEq, Int.reduceLT, Int.reduceLE, Int.reduceToNat, Int.reduceAdd, Int.reduceMul, Int.reduceSub, Int.reduceMod, Int.reduceDiv, Int.reduceNeg, Nat.reduceEqDiff, sm_rd_ok, sm_rd_ok2, sm_wt_ok, sm_cp_ok, Option.isSome_some, Option.getD_some, w_cont, Option.toList_some, Option.toList_none, List.cons_append, List.nil_append, kk_16 H]
    rw [gt 2 (by omega), w_cont, g2]
    simp only [wr_id, wr_b2i, wr_wr, b2i_eq0, b2i_eq1, b2i_01, sm_rem_eq, sm_div_eq, wl_m2, wl_m1, wl_0, wl_1, wl_2, wl_3, wl_4, wl_5, wl_6, wl_7, wl_8, wl_9, wl_10, wl_12, wl_13, wl_14, wl_16, wl_20, wl_21, wl_22, wl_23, wl_32, wl_36, wl_40, wl_41, wl_42, wl_43, wl_44, wl_45, wl_46, wl_47, wl_48, wl_57, wl_59, wl_60, wl_61, wl_62, wl_65, wl_90, wl_97, wl_99, wl_100, wl_121, wl_122, wl_140, wl_142, wl_143, wl_145, wl_147, wl_160, wl_161, wl_162, wl_242, wl_380, wl_400, wl_420, wl_820, wl_1340, wl_5480, wl_9999, true_and, and_true, true_or, or_true, if_true, if_false, and_self, or_self, false_and, and_false, false_or, or_false, not_true_eq_false, not_false_eq_true, Int.reduceEq, Int.reduceLT, Int.reduceLE, Int.reduceToNat, Int.reduceAdd, Int.reduceMul, Int.reduceSub, Int.reduceMod, Int.reduceDiv, Int.reduceNeg, Nat.reduceEqDiff, sm_rd_ok, sm_rd_ok2, sm_wt_ok, sm_cp_ok, Option.isSome_some, Option.getD_some, w_cont, Option.toList_some, Option.toList_none, List.cons_append, List.nil_append]
    rw [b74_22, wr_id (by omega) (by omega)]
    rcases b3 with b3 | b3
    · rw [if_pos b3, b74_29, ← b3]
      exact body _
    · rw [if_neg (by omega), b74_25, ← b3]
      exact body _
theorem c_bk_loop (H : sm_sh Rf K) {M : Nat → Int} (hi : invD M) : ∀ (k s : Nat) (Z : Nat → Nat → Int) (t : Int × Int × Int), s + k = 2 ^ (M 7).toNat → sm_zs Z → stI Z → rD Z Rf K M 1 → (0 ≤ t.1 ∧ t.1 ≤ (s : Int)) → Z 63 8 = t.1 → Z 63 9 = (if t.1 = 0 then -1 else t.2.1) → Z 63 10 = t.2.2 → ∃ Z', frT Z Z' ∧ Z' 63 8 = (bkR M k s t).1 ∧ Z' 63 9 = (if (bkR M k s t).1 = 0 then -1 else (bkR M k s t).2.1) ∧ Z' 63 10 = (bkR M k s t).2.2 ∧ ∀ Q, sm_wp (d + 6) 73 17 [some (.inr (some 63)), some (.inr (some 1)), some (.inr (some 51)), some (.inl (s : Int))] [] (Z, Rf, K, n, z) Q = Q none (Z', Rf, K, n, z) := by
  have hc := chI_of hi
  obtain ⟨e1, e2⟩ := shl_one hc.1
  have hcl := clI_of hi
  intro k
  induction k with
  | zero =>
    intro s Z t hs hz hst hr ht t8 t9 t10
    have h14 : Z 14 2 = M 7 := hr.2.2.2.2.2.1.1
    refine ⟨Z, frT_refl Z, t8, t9, t10, fun Q => ?_⟩
    rw [b73_17, kk_1 H, rr_1_14 H]
    simp only [wr_id, wr_b2i, wr_wr, b2i_eq0, b2i_eq1, b2i_01, sm_rem_eq, sm_div_eq, wl_m2, wl_m1, wl_0, wl_1, wl_2, wl_3, wl_4, wl_5, wl_6, wl_7, wl_8, wl_9, wl_10, wl_12, wl_13, wl_14, wl_16, wl_20, wl_21, wl_22, wl_23, wl_32, wl_36, wl_40, wl_41, wl_42, wl_43, wl_44, wl_45, wl_46, wl_47, wl_48, wl_57, wl_59, wl_60, wl_61, wl_62, wl_65, wl_90, wl_97, wl_99, wl_100, wl_121, wl_122, wl_140, wl_142, wl_143, wl_145, wl_147, wl_160, wl_161, wl_162, wl_242, wl_380, wl_400, wl_420, wl_820, wl_1340, wl_5480, wl_9999, true_and, and_true, true_or, or_true, if_true, if_false, and_self, or_self, false_and, and_false, false_or, or_false, not_true_eq_false, not_false_eq_true, Int.reduceEq, Int.reduceLT, Int.reduceLE, Int.reduceToNat, Int.reduceAdd, Int.reduceMul, Int.reduceSub, Int.reduceMod, Int.reduceDiv, Int.reduceNeg, Nat.reduceEqDiff, sm_rd_ok, sm_rd_ok2, sm_wt_ok, sm_cp_ok, Option.isSome_some, Option.getD_some, w_cont, Option.toList_some, Option.toList_none, List.cons_append, List.nil_append, kk_14 H, h14, e1]
    rw [wr_id (by omega) (by omega), wr_id (by omega) (by omega), if_pos (by omega), b73_93]
  | succ k ih =>
    intro s Z t hs hz hst hr ht t8 t9 t10
    have h14 : Z 14 2 = M 7 := hr.2.2.2.2.2.1.1
    obtain ⟨Z1, t1, f1, e63, q1⟩ := c_hatchSet (d := d) (n := n) (z := z) H hz hst hi hr (set := (s : Int)) (by omega)
    have r1 := rD_frT f1 hr
    have hb1 := bk1_bd (M := M) ht
    have head : ∀ Q, sm_wp (d + 6) 73 17 [some (.inr (some 63)), some (.inr (some 1)), some (.inr (some 51)), some (.inl (s : Int))] [] (Z, Rf, K, n, z) Q = if alB (clP (nmH M (s : Int)) M) (M 8).toNat 0 = true then sm_wp (d + 6) 73 48 [some (.inr (some 63)), some (.inr (some 1)), some (.inr (some 51)), some (.inl (s : Int))] [] (Z1, Rf, K, n, z) Q else sm_wp (d + 6) 73 17 [some (.inr (some 63)), some (.inr (some 1)), some (.inr (some 51)), some (.inl ((s + 1 : Nat) : Int))] [] (Z1, Rf, K, n, z) Q := by
      intro Q
      rw [b73_17, kk_1 H, rr_1_14 H]
      simp only [wr_id, wr_b2i, wr_wr, b2i_eq0, b2i_eq1, b2i_01, sm_rem_eq, sm_div_eq, wl_m2, wl_m1, wl_0, wl_1, wl_2, wl_3, wl_4, wl_5, wl_6, wl_7, wl_8, wl_9, wl_10, wl_12, wl_13, wl_14, wl_16, wl_20, wl_21, wl_22, wl_23, wl_32, wl_36, wl_40, wl_41, wl_42, wl_43, wl_44, wl_45, wl_46, wl_47, wl_48, wl_57, wl_59, wl_60, wl_61, wl_62, wl_65, wl_90, wl_97, wl_99, wl_100, wl_121, wl_122, wl_140, wl_142, wl_143, wl_145, wl_147, wl_160, wl_161, wl_162, wl_242, wl_380, wl_400, wl_420, wl_820, wl_1340, wl_5480, wl_9999, true_and, and_true, true_or, or_true, if_true, if_false, and_self, or_self, false_and, and_false, false_or, or_false, not_true_eq_false, not_false_eq_true, Int.reduceEq, Int.reduceLT, Int.reduceLE, Int.reduceToNat, Int.reduceAdd, Int.reduceMul, Int.reduceSub, Int.reduceMod, Int.reduceDiv, Int.reduceNeg, Nat.reduceEqDiff, sm_rd_ok, sm_rd_ok2, sm_wt_ok, sm_cp_ok, Option.isSome_some, Option.getD_some, w_cont, Option.toList_some, Option.toList_none, List.cons_append, List.nil_append, kk_14 H, h14, e1]
      rw [wr_id (by omega) (by omega), wr_id (by omega) (by omega), if_neg (by omega), b73_30, kk_63 H]
      simp only [wr_id, wr_b2i, wr_wr, b2i_eq0, b2i_eq1, b2i_01, sm_rem_eq, sm_div_eq, wl_m2, wl_m1, wl_0, wl_1, wl_2, wl_3, wl_4, wl_5, wl_6, wl_7, wl_8, wl_9, wl_10, wl_12, wl_13, wl_14, wl_16, wl_20, wl_21, wl_22, wl_23, wl_32, wl_36, wl_40, wl_41, wl_42, wl_43, wl_44, wl_45, wl_46, wl_47, wl_48, wl_57, wl_59, wl_60, wl_61, wl_62, wl_65, wl_90, wl_97, wl_99, wl_100, wl_121, wl_122, wl_140, wl_142, wl_143, wl_145, wl_147, wl_160, wl_161, wl_162, wl_242, wl_380, wl_400, wl_420, wl_820, wl_1340, wl_5480, wl_9999, true_and, and_true, true_or, or_true, if_true, if_false, and_self, or_self, false_and, and_false, false_or, or_false, not_true_eq_false, not_false_eq_true, Int.reduceEq, Int.reduceLT, Int.reduceLE, Int.reduceToNat, Int.reduceAdd, Int.reduceMul, Int.reduceSub, Int.reduceMod, Int.reduceDiv, Int.reduceNeg, Nat.reduceEqDiff, sm_rd_ok, sm_rd_ok2, sm_wt_ok, sm_cp_ok, Option.isSome_some, Option.getD_some, w_cont, Option.toList_some, Option.toList_none, List.cons_append, List.nil_append]
      refine (q1 _).trans ?_
      rw [w_cont]
      simp only [wr_id, wr_b2i, wr_wr, b2i_eq0, b2i_eq1, b2i_01, sm_rem_eq, sm_div_eq, wl_m2, wl_m1, wl_0, wl_1, wl_2, wl_3, wl_4, wl_5, wl_6, wl_7, wl_8, wl_9, wl_10, wl_12, wl_13, wl_14, wl_16, wl_20, wl_21, wl_22, wl_23, wl_32, wl_36, wl_40, wl_41, wl_42, wl_43, wl_44, wl_45, wl_46, wl_47, wl_48, wl_57, wl_59, wl_60, wl_61, wl_62, wl_65, wl_90, wl_97, wl_99, wl_100, wl_121, wl_122, wl_140, wl_142, wl_143, wl_145, wl_147, wl_160, wl_161, wl_162, wl_242, wl_380, wl_400, wl_420, wl_820, wl_1340, wl_5480, wl_9999, true_and, and_true, true_or, or_true, if_true, if_false, and_self, or_self, false_and, and_false, false_or, or_false, not_true_eq_false, not_false_eq_true, Int.reduceEq, Int.reduceLT, Int.reduceLE, Int.reduceToNat, Int.reduceAdd, Int.reduceMul, Int.reduceSub, Int.reduceMod, Int.reduceDiv, Int.reduceNeg, Nat.reduceEqDiff, sm_rd_ok, sm_rd_ok2, sm_wt_ok, sm_cp_ok, Option.isSome_some, Option.getD_some, w_cont, Option.toList_some, Option.toList_none, List.cons_append, List.nil_append]
      rw [b73_37, kk_51 H, rr_51_1 H]
      simp only [wr_id, wr_b2i, wr_wr, b2i_eq0, b2i_eq1, b2i_01, sm_rem_eq, sm_div_eq, wl_m2, wl_m1, wl_0, wl_1, wl_2, wl_3, wl_4, wl_5, wl_6, wl_7, wl_8, wl_9, wl_10, wl_12, wl_13, wl_14, wl_16, wl_20, wl_21, wl_22, wl_23, wl_32, wl_36, wl_40, wl_41, wl_42, wl_43, wl_44, wl_45, wl_46, wl_47, wl_48, wl_57, wl_59, wl_60, wl_61, wl_62, wl_65, wl_90, wl_97, wl_99, wl_100, wl_121, wl_122, wl_140, wl_142, wl_143, wl_145, wl_147, wl_160, wl_161, wl_162, wl_242, wl_380, wl_400, wl_420, wl_820, wl_1340, wl_5480, wl_9999, true_and, and_true, true_or, or_true, if_true, if_false, and_self, or_self, false_and, and_false, false_or, or_false, not_true_eq_false, not_false_eq_true, Int.reduceEq, Int.reduceLT, Int.reduceLE, Int.reduceToNat, Int.reduceAdd, Int.reduceMul, Int.reduceSub, Int.reduceMod, Int.reduceDiv, Int.reduceNeg, Nat.reduceEqDiff, sm_rd_ok, sm_rd_ok2, sm_wt_ok, sm_cp_ok, Option.isSome_some, Option.getD_some, w_cont, Option.toList_some, Option.toList_none, List.cons_append, List.nil_append]
      rw [ce74, b74_0]
      refine (c_cl_loop (d := d + 4) (nm := nmH M (s : Int)) H hcl r1.2.2.2.2.2.2.1.1 r1.2.2.2.2.2.2.1.2 t1 (M 8).toNat 0 none (by have := hcl.1; omega)).trans ?_
      rw [w_cont]
      simp only [wr_id, wr_b2i, wr_wr, b2i_eq0, b2i_eq1, b2i_01, sm_rem_eq, sm_div_eq, wl_m2, wl_m1, wl_0, wl_1, wl_2, wl_3, wl_4, wl_5, wl_6, wl_7, wl_8, wl_9, wl_10, wl_12, wl_13, wl_14, wl_16, wl_20, wl_21, wl_22, wl_23, wl_32, wl_36, wl_40, wl_41, wl_42, wl_43, wl_44, wl_45, wl_46, wl_47, wl_48, wl_57, wl_59, wl_60, wl_61, wl_62, wl_65, wl_90, wl_97, wl_99, wl_100, wl_121, wl_122, wl_140, wl_142, wl_143, wl_145, wl_147, wl_160, wl_161, wl_162, wl_242, wl_380, wl_400, wl_420, wl_820, wl_1340, wl_5480, wl_9999, true_and, and_true, true_or, or_true, if_true, if_false, and_self, or_self, false_and, and_false, false_or, or_false, not_true_eq_false, not_false_eq_true, Int.reduceEq, Int.reduceLT, Int.reduceLE, Int.reduceToNat, Int.reduceAdd, Int.reduceMul, Int.reduceSub, Int.reduceMod, Int.reduceDiv, Int.reduceNeg, Nat.reduceEqDiff, sm_rd_ok, sm_rd_ok2, sm_wt_ok, sm_cp_ok, Option.isSome_some, Option.getD_some, w_cont, Option.toList_some, Option.toList_none, List.cons_append, List.nil_append]
      rw [b73_45]
      simp only [wr_id, wr_b2i, wr_wr, b2i_eq0, b2i_eq1, b2i_01, sm_rem_eq, sm_div_eq, wl_m2, wl_m1, wl_0, wl_1, wl_2, wl_3, wl_4, wl_5, wl_6, wl_7, wl_8, wl_9, wl_10, wl_12, wl_13, wl_14, wl_16, wl_20, wl_21, wl_22, wl_23, wl_32, wl_36, wl_40, wl_41, wl_42, wl_43, wl_44, wl_45, wl_46, wl_47, wl_48, wl_57, wl_59, wl_60, wl_61, wl_62, wl_65, wl_90, wl_97, wl_99, wl_100, wl_121, wl_122, wl_140, wl_142, wl_143, wl_145, wl_147, wl_160, wl_161, wl_162, wl_242, wl_380, wl_400, wl_420, wl_820, wl_1340, wl_5480, wl_9999, true_and, and_true, true_or, or_true, if_true, if_false, and_self, or_self, false_and, and_false, false_or, or_false, not_true_eq_false, not_false_eq_true, Int.reduceEq, Int.reduceLT, Int.reduceLE, Int.reduceToNat, Int.reduceAdd, Int.reduceMul, Int.reduceSub, Int.reduceMod, Int.reduceDiv, Int.reduceNeg, Nat.reduceEqDiff, sm_rd_ok, sm_rd_ok2, sm_wt_ok, sm_cp_ok, Option.isSome_some, Option.getD_some, w_cont, Option.toList_some, Option.toList_none, List.cons_append, List.nil_append]
      by_cases h : alB (clP (nmH M (s : Int)) M) (M 8).toNat 0 = true
      · rw [if_neg (by rw [h]; decide), if_pos h]
      · rw [if_pos (Bool.eq_false_iff.2 h), if_neg h, b73_87, show (s : Int) + 1 = ((s + 1 : Nat) : Int) by omega]
    by_cases h : alB (clP (nmH M (s : Int)) M) (M 8).toNat 0 = true
    · have eb : bk1 M s t = (t.1 + 1, if t.1 = 0 then (s : Int) else sm_and t.2.1 (s : Int), if t.1 = 0 then (s : Int) else t.2.2) := by unfold bk1; rw [if_pos h]
      let Z2 := sm_u (sm_u (sm_u Z1 63 10 (if t.1 = 0 then (s : Int) else t.2.2)) 63 9 (sm_and (if t.1 = 0 then -1 else t.2.1) (s : Int))) 63 8 (t.1 + 1)
      have f2 : frT Z Z2 := frT_trans f1 ⟨fun a ha => by show sm_u _ _ _ _ a = _; rw [sm_u_row (by omega), sm_u_row (by omega), sm_u_row (by omega)], by show sm_u _ _ _ _ 59 0 = _; rw [sm_u_ne (by decide), sm_u_ne (by decide), sm_u_ne (by decide)], by show sm_u _ _ _ _ 67 0 = _; rw [sm_u_ne (by decide), sm_u_ne (by decide), sm_u_ne (by decide)]⟩
      obtain ⟨Z3, f3, a1, a2, a3, q3⟩ := ih (s + 1) Z2 (bk1 M s t) (by omega) (zs_frT f2 hz) (stI_frT f2 hst) (rD_frT f2 hr) hb1 (by rw [eb]; show sm_u _ _ _ _ 63 8 = _; rw [sm_u_self]) (by
        rw [eb]
        show sm_u _ _ _ _ 63 9 = (if t.1 + 1 = 0 then -1 else (if t.1 = 0 then (s : Int) else sm_and t.2.1 (s : Int)))
        rw [sm_u_eq, if_neg (show ¬ (9 : Nat) = 8 by decide), sm_u_self, if_neg (show ¬ t.1 + 1 = 0 by omega)]
        by_cases h0 : t.1 = 0
        · rw [if_pos h0, if_pos h0, and_m1 (by omega)]
        · rw [if_neg h0, if_neg h0]) (by rw [eb]; show sm_u _ _ _ _ 63 10 = _; rw [sm_u_eq, if_neg (by decide), sm_u_eq, if_neg (by decide), sm_u_self])
      refine ⟨Z3, frT_trans f2 f3, a1, a2, a3, fun Q => ?_⟩
      have z8 : Z1 63 8 = t.1 := by rw [e63]; exact t8
      have z9 : Z1 63 9 = (if t.1 = 0 then -1 else t.2.1) := by rw [e63]; exact t9
      have z10 : Z1 63 10 = t.2.2 := by rw [e63]; exact t10
      rw [head, if_pos h, b73_48, kk_63 H, z8]
      simp only [wr_id, wr_b2i, wr_wr, b2i_eq0, b2i_eq1, b2i_01, sm_rem_eq, sm_div_eq, wl_m2, wl_m1, wl_0, wl_1, wl_2, wl_3, wl_4, wl_5, wl_6, wl_7, wl_8, wl_9, wl_10, wl_12, wl_13, wl_14, wl_16, wl_20, wl_21, wl_22, wl_23, wl_32, wl_36, wl_40, wl_41, wl_42, wl_43, wl_44, wl_45, wl_46, wl_47, wl_48, wl_57, wl_59, wl_60, wl_61, wl_62, wl_65, wl_90, wl_97, wl_99, wl_100, wl_121, wl_122, wl_140, wl_142, wl_143, wl_145, wl_147, wl_160, wl_161, wl_162, wl_242, wl_380, wl_400, wl_420, wl_820, wl_1340, wl_5480, wl_9999, true_and, and_true, true_or, or_true, if_true, if_false, and_self, or_self, false_and, and_false, false_or, or_false, not_true_eq_false, not_false_eq_true, Int.reduceEq, Int.reduceLT, Int.reduceLE, Int.reduceToNat, Int.reduceAdd, Int.reduceMul, Int.reduceSub, Int.reduceMod, Int.reduceDiv, Int.reduceNeg, Nat.reduceEqDiff, sm_rd_ok, sm_rd_ok2, sm_wt_ok, sm_cp_ok, Option.isSome_some, Option.getD_some, w_cont, Option.toList_some, Option.toList_none, List.cons_append, List.nil_append]
      rw [wr_id (by omega) (by omega)]
      have fin : ∀ v : Int, v = (if t.1 = 0 then (s : Int) else t.2.2) → sm_wp (d + 6) 73 64 [some (.inr (some 63)), some (.inr (some 1)), some (.inr (some 51)), some (.inl (s : Int))] [.inl v, .inr (some 63)] (Z1, Rf, K, n, z) Q = Q none (Z3, Rf, K, n, z) := by
        intro v hv
        rw [b73_64, kk_63 H]
        simp only [wr_id, wr_b2i, wr_wr, b2i_eq0, b2i_eq1, b2i_01, sm_rem_eq, sm_div_eq, wl_m2, wl_m1, wl_0, wl_1, wl_2, wl_3, wl_4, wl_5, wl_6, wl_7, wl_8, wl_9, wl_10, wl_12, wl_13, wl_14, wl_16, wl_20, wl_21, wl_22, wl_23, wl_32, wl_36, wl_40, wl_41, wl_42, wl_43, wl_44, wl_45, wl_46, wl_47, wl_48, wl_57, wl_59, wl_60, wl_61, wl_62, wl_65, wl_90, wl_97, wl_99, wl_100, wl_121, wl_122, wl_140, wl_142, wl_143, wl_145, wl_147, wl_160, wl_161, wl_162, wl_242, wl_380, wl_400, wl_420, wl_820, wl_1340, wl_5480, wl_9999, true_and, and_true, true_or, or_true, if_true, if_false, and_self, or_self, false_and, and_false, false_or, or_false, not_true_eq_false, not_false_eq_true, Int.reduceEq, Int.reduceLT, Int.reduceLE, Int.reduceToNat, Int.reduceAdd, Int.reduceMul, Int.reduceSub, Int.reduceMod, Int.reduceDiv, Int.reduceNeg, Nat.reduceEqDiff, sm_rd_ok, sm_rd_ok2, sm_wt_ok, sm_cp_ok, Option.isSome_some, Option.getD_some, w_cont, Option.toList_some, Option.toList_none, List.cons_append, List.nil_append]
        rw [b73_87, show (s : Int) + 1 = ((s + 1 : Nat) : Int) by omega, sm_u_eq (i := 9), if_neg (by decide), sm_u_eq (i := 10), if_neg (by decide), sm_u_eq (i := 10), if_neg (by decide), z8, z9, hv]
        exact q3 Q
      by_cases h0 : t.1 = 0
      · rw [if_pos h0, b73_56]
        exact fin _ (by rw [if_pos h0])
      · rw [if_neg h0, b73_60, kk_63 H, z10]
        simp only [wr_id, wr_b2i, wr_wr, b2i_eq0, b2i_eq1, b2i_01, sm_rem_eq, sm_div_eq, wl_m2, wl_m1, wl_0, wl_1, wl_2, wl_3, wl_4, wl_5, wl_6, wl_7, wl_8, wl_9, wl_10, wl_12, wl_13, wl_14, wl_16, wl_20, wl_21, wl_22, wl_23, wl_32, wl_36, wl_40, wl_41, wl_42, wl_43, wl_44, wl_45, wl_46, wl_47, wl_48, wl_57, wl_59, wl_60, wl_61, wl_62, wl_65, wl_90, wl_97, wl_99, wl_100, wl_121, wl_122, wl_140, wl_142, wl_143, wl_145, wl_147, wl_160, wl_161, wl_162, wl_242, wl_380, wl_400, wl_420, wl_820, wl_1340, wl_5480, wl_9999, true_and, and_true, true_or, or_true, if_true, if_false, and_self, or_self, false_and, and_false, false_or, or_false, not_true_eq_false, not_false_eq_true, Int.reduceEq, Int.reduceLT, Int.reduceLE, Int.reduceToNat, Int.reduceAdd, Int.reduceMul, Int.reduceSub, Int.reduceMod, Int.reduceDiv, Int.reduceNeg, Nat.reduceEqDiff, sm_rd_ok, sm_rd_ok2, sm_wt_ok, sm_cp_ok, Option.isSome_some, Option.getD_some, w_cont, Option.toList_some, Option.toList_none, List.cons_append, List.nil_append]
        exact fin _ (by rw [if_neg h0])
    · have eb : bk1 M s t = t := by unfold bk1; rw [if_neg h]
      rw [eb] at hb1
      obtain ⟨Z3, f3, a1, a2, a3, q3⟩ := ih (s + 1) Z1 t (by omega) (zs_frT f1 hz) (stI_frT f1 hst) r1 hb1 (by rw [e63]; exact t8) (by rw [e63]; exact t9) (by rw [e63]; exact t10)
      have e : bkR M (k + 1) s t = bkR M k (s + 1) t := by
        simp only [bkR]
        rw [eb]
      rw [e]
      refine ⟨Z3, frT_trans f1 f3, a1, a2, a3, fun Q => ?_⟩
      rw [head, if_neg h]
      exact q3 Q
/-- what is asked of it -/
def bkw (t : Int × Int × Int) (w : Int) : Int := if w = 0 then t.1 else if w = 1 then t.2.1 else t.2.2
theorem bkR_zero {M : Nat → Int} : ∀ (k s : Nat) (t : Int × Int × Int), 0 ≤ t.1 → (t.1 = 0 → t.2.1 = 0) → 0 ≤ (bkR M k s t).1 ∧ ((bkR M k s t).1 = 0 → (bkR M k s t).2.1 = 0) := by
  intro k
  induction k with
  | zero => intro s t h h2; exact ⟨h, h2⟩
  | succ k ih =>
    intro s t h h2
    simp only [bkR]
    refine ih (s + 1) _ ?_ ?_
    · unfold bk1
      split
      · show 0 ≤ t.1 + 1
        omega
      · exact h
    · unfold bk1
      split
      · intro g
        have g' : t.1 + 1 = 0 := g
        omega
      · exact h2
theorem bkR_le {M : Nat → Int} : ∀ (k s : Nat) (t : Int × Int × Int), t.1 ≤ (s : Int) → (bkR M k s t).1 ≤ ((s + k : Nat) : Int) := by
  intro k
  induction k with
  | zero => intro s t h; exact h
  | succ k ih =>
    intro s t h
    simp only [bkR]
    have := ih (s + 1) (bk1 M s t) (by
      unfold bk1
      split
      · show t.1 + 1 ≤ ((s + 1 : Nat) : Int)
        omega
      · omega)
    omega
theorem c_back (H : sm_sh Rf K) (hz : sm_zs Z) (hst : stI Z) {M : Nat → Int} (hi : invD M) (hr : rD Z Rf K M 1) {w : Int} (hw : aI w) : ∃ Z', frT Z Z' ∧ ∀ Q, sm_call (d + 7) 108 [.inr (some 0), .inl w] (Z, Rf, K, n, z) Q = Q (some (.inl (if 0 ≤ w ∧ w ≤ 2 then bkw (bkR M (2 ^ (M 7).toNat) 0 (0, 0, -1)) w else -1))) (Z', Rf, K, n, z) := by
  have hc := chI_of hi
  obtain ⟨e1, e2⟩ := shl_one hc.1
  unfold aI at hw
  have head : ∀ Q, sm_call (d + 7) 108 [.inr (some 0), .inl w] (Z, Rf, K, n, z) Q = if 0 ≤ w ∧ w ≤ 2 then sm_wp (d + 7) 108 11 [some (.inr (some 0)), some (.inl w)] [] (Z, Rf, K, n, z) Q else Q (some (.inl (-1))) (Z, Rf, K, n, z) := by
    intro Q
    rw [ce108, b108_0, c_within hw (by omega) (by omega), w_cont]
    simp only [wr_id, wr_b2i, wr_wr, b2i_eq0, b2i_eq1, b2i_01, sm_rem_eq, sm_div_eq, wl_m2, wl_m1, wl_0, wl_1, wl_2, wl_3, wl_4, wl_5, wl_6, wl_7, wl_8, wl_9, wl_10, wl_12, wl_13, wl_14, wl_16, wl_20, wl_21, wl_22, wl_23, wl_32, wl_36, wl_40, wl_41, wl_42, wl_43, wl_44, wl_45, wl_46, wl_47, wl_48, wl_57, wl_59, wl_60, wl_61, wl_62, wl_65, wl_90, wl_97, wl_99, wl_100, wl_121, wl_122, wl_140, wl_142, wl_143, wl_145, wl_147, wl_160, wl_161, wl_162, wl_242, wl_380, wl_400, wl_420, wl_820, wl_1340, wl_5480, wl_9999, true_and, and_true, true_or, or_true, if_true, if_false, and_self, or_self, false_and, and_false, false_or, or_false, not_true_eq_false, not_false_eq_true, Int.reduceEq, Int.reduceLT, Int.reduceLE, Int.reduceToNat, Int.reduceAdd, Int.reduceMul, Int.reduceSub, Int.reduceMod, Int.reduceDiv, Int.reduceNeg, Nat.reduceEqDiff, sm_rd_ok, sm_rd_ok2, sm_wt_ok, sm_cp_ok, Option.isSome_some, Option.getD_some, w_cont, Option.toList_some, Option.toList_none, List.cons_append, List.nil_append]
    rw [b108_6]
    simp only [wr_id, wr_b2i, wr_wr, b2i_eq0, b2i_eq1, b2i_01, sm_rem_eq, sm_div_eq, wl_m2, wl_m1, wl_0, wl_1, wl_2, wl_3, wl_4, wl_5, wl_6, wl_7, wl_8, wl_9, wl_10, wl_12, wl_13, wl_14, wl_16, wl_20, wl_21, wl_22, wl_23, wl_32, wl_36, wl_40, wl_41, wl_42, wl_43, wl_44, wl_45, wl_46, wl_47, wl_48, wl_57, wl_59, wl_60, wl_61, wl_62, wl_65, wl_90, wl_97, wl_99, wl_100, wl_121, wl_122, wl_140, wl_142, wl_143, wl_145, wl_147, wl_160, wl_161, wl_162, wl_242, wl_380, wl_400, wl_420, wl_820, wl_1340, wl_5480, wl_9999, true_and, and_true, true_or, or_true, if_true, if_false, and_self, or_self, false_and, and_false, false_or, or_false, not_true_eq_false, not_false_eq_true, Int.reduceEq, Int.reduceLT, Int.reduceLE, Int.reduceToNat, Int.reduceAdd, Int.reduceMul, Int.reduceSub, Int.reduceMod, Int.reduceDiv, Int.reduceNeg, Nat.reduceEqDiff, sm_rd_ok, sm_rd_ok2, sm_wt_ok, sm_cp_ok, Option.isSome_some, Option.getD_some, w_cont, Option.toList_some, Option.toList_none, List.cons_append, List.nil_append, isInB, decide_eq_false_iff_not]
    by_cases h1 : 0 ≤ w ∧ w ≤ 2
    · rw [if_neg (fun g => g h1), if_pos h1]
    · rw [if_pos h1, if_neg h1, b108_9]
  by_cases hcw : 0 ≤ w ∧ w ≤ 2
  · let Z0 := sm_u (sm_u (sm_u Z 63 8 0) 63 9 (-1)) 63 10 (-1)
    have f0 : frT Z Z0 := ⟨fun a ha => by show sm_u _ _ _ _ a = _; rw [sm_u_row (by omega), sm_u_row (by omega), sm_u_row (by omega)], by show sm_u _ _ _ _ 59 0 = _; rw [sm_u_ne (by decide), sm_u_ne (by decide), sm_u_ne (by decide)], by show sm_u _ _ _ _ 67 0 = _; rw [sm_u_ne (by decide), sm_u_ne (by decide), sm_u_ne (by decide)]⟩
    obtain ⟨Z1, f1, a1, a2, a3, q1⟩ := c_bk_loop (d := d) (n := n) (z := z) H hi (2 ^ (M 7).toNat) 0 Z0 (0, 0, -1) (by omega) (zs_frT f0 hz) (stI_frT f0 hst) (rD_frT f0 hr) (by show (0 : Int) ≤ 0 ∧ (0 : Int) ≤ ((0 : Nat) : Int); omega) (by show sm_u _ _ _ _ 63 8 = (0 : Int); rw [sm_u_eq, if_neg (by decide), sm_u_eq, if_neg (by decide), sm_u_self]) (by show sm_u _ _ _ _ 63 9 = (-1 : Int); rw [sm_u_eq, if_neg (by decide), sm_u_self]) (by show sm_u _ _ _ _ 63 10 = (-1 : Int); rw [sm_u_self])
    have b0 := bkR_zero (M := M) (2 ^ (M 7).toNat) 0 (0, 0, -1) (Int.le_refl 0) (fun _ => rfl)
    have b1 := bkR_le (M := M) (2 ^ (M 7).toNat) 0 (0, 0, -1) (Int.le_refl 0)
    refine ⟨Z1, frT_trans f0 f1, fun Q => ?_⟩
    rw [head, if_pos hcw, if_pos hcw, b108_11, kk_0 H, rr_0_0 H, rr_0_3 H, rr_0_4 H]
    simp only [wr_id, wr_b2i, wr_wr, b2i_eq0, b2i_eq1, b2i_01, sm_rem_eq, sm_div_eq, wl_m2, wl_m1, wl_0, wl_1, wl_2, wl_3, wl_4, wl_5, wl_6, wl_7, wl_8, wl_9, wl_10, wl_12, wl_13, wl_14, wl_16, wl_20, wl_21, wl_22, wl_23, wl_32, wl_36, wl_40, wl_41, wl_42, wl_43, wl_44, wl_45, wl_46, wl_47, wl_48, wl_57, wl_59, wl_60, wl_61, wl_62, wl_65, wl_90, wl_97, wl_99, wl_100, wl_121, wl_122, wl_140, wl_142, wl_143, wl_145, wl_147, wl_160, wl_161, wl_162, wl_242, wl_380, wl_400, wl_420, wl_820, wl_1340, wl_5480, wl_9999, true_and, and_true, true_or, or_true, if_true, if_false, and_self, or_self, false_and, and_false, false_or, or_false, not_true_eq_false, not_false_eq_true, Int.reduceEq, Int.reduceLT, Int.reduceLE, Int.reduceToNat, Int.reduceAdd, Int.reduceMul, Int.reduceSub, Int.reduceMod, Int.reduceDiv, Int.reduceNeg, Nat.reduceEqDiff, sm_rd_ok, sm_rd_ok2, sm_wt_ok, sm_cp_ok, Option.isSome_some, Option.getD_some, w_cont, Option.toList_some, Option.toList_none, List.cons_append, List.nil_append, kk_63 H]
    rw [ce73, b73_0, kk_63 H]
    simp only [wr_id, wr_b2i, wr_wr, b2i_eq0, b2i_eq1, b2i_01, sm_rem_eq, sm_div_eq, wl_m2, wl_m1, wl_0, wl_1, wl_2, wl_3, wl_4, wl_5, wl_6, wl_7, wl_8, wl_9, wl_10, wl_12, wl_13, wl_14, wl_16, wl_20, wl_21, wl_22, wl_23, wl_32, wl_36, wl_40, wl_41, wl_42, wl_43, wl_44, wl_45, wl_46, wl_47, wl_48, wl_57, wl_59, wl_60, wl_61, wl_62, wl_65, wl_90, wl_97, wl_99, wl_100, wl_121, wl_122, wl_140, wl_142, wl_143, wl_145, wl_147, wl_160, wl_161, wl_162, wl_242, wl_380, wl_400, wl_420, wl_820, wl_1340, wl_5480, wl_9999, true_and, and_true, true_or, or_true, if_true, if_false, and_self, or_self, false_and, and_false, false_or, or_false, not_true_eq_false, not_false_eq_true, Int.reduceEq, Int.reduceLT, Int.reduceLE, Int.reduceToNat, Int.reduceAdd, Int.reduceMul, Int.reduceSub, Int.reduceMod, Int.reduceDiv, Int.reduceNeg, Nat.reduceEqDiff, sm_rd_ok, sm_rd_ok2, sm_wt_ok, sm_cp_ok, Option.isSome_some, Option.getD_some, w_cont, Option.toList_some, Option.toList_none, List.cons_append, List.nil_append]
    refine (q1 _).trans ?_
    rw [w_cont]
    simp only [wr_id, wr_b2i, wr_wr, b2i_eq0, b2i_eq1, b2i_01, sm_rem_eq, sm_div_eq, wl_m2, wl_m1, wl_0, wl_1, wl_2, wl_3, wl_4, wl_5, wl_6, wl_7, wl_8, wl_9, wl_10, wl_12, wl_13, wl_14, wl_16, wl_20, wl_21, wl_22, wl_23, wl_32, wl_36, wl_40, wl_41, wl_42, wl_43, wl_44, wl_45, wl_46, wl_47, wl_48, wl_57, wl_59, wl_60, wl_61, wl_62, wl_65, wl_90, wl_97, wl_99, wl_100, wl_121, wl_122, wl_140, wl_142, wl_143, wl_145, wl_147, wl_160, wl_161, wl_162, wl_242, wl_380, wl_400, wl_420, wl_820, wl_1340, wl_5480, wl_9999, true_and, and_true, true_or, or_true, if_true, if_false, and_self, or_self, false_and, and_false, false_or, or_false, not_true_eq_false, not_false_eq_true, Int.reduceEq, Int.reduceLT, Int.reduceLE, Int.reduceToNat, Int.reduceAdd, Int.reduceMul, Int.reduceSub, Int.reduceMod, Int.reduceDiv, Int.reduceNeg, Nat.reduceEqDiff, sm_rd_ok, sm_rd_ok2, sm_wt_ok, sm_cp_ok, Option.isSome_some, Option.getD_some, w_cont, Option.toList_some, Option.toList_none, List.cons_append, List.nil_append]
    rw [b108_26, wr_id hw.1 hw.2]
    unfold bkw
    by_cases w0 : w = 0
    · rw [if_pos w0, show sm_sel w 82 [(0, 52), (1, 60)] = 52 by rw [w0]; rfl, b108_52, kk_0 H, rr_0_4 H]
      simp only [wr_id, wr_b2i, wr_wr, b2i_eq0, b2i_eq1, b2i_01, sm_rem_eq, sm_div_eq, wl_m2, wl_m1, wl_0, wl_1, wl_2, wl_3, wl_4, wl_5, wl_6, wl_7, wl_8, wl_9, wl_10, wl_12, wl_13, wl_14, wl_16, wl_20, wl_21, wl_22, wl_23, wl_32, wl_36, wl_40, wl_41, wl_42, wl_43, wl_44, wl_45, wl_46, wl_47, wl_48, wl_57, wl_59, wl_60, wl_61, wl_62, wl_65, wl_90, wl_97, wl_99, wl_100, wl_121, wl_122, wl_140, wl_142, wl_143, wl_145, wl_147, wl_160, wl_161, wl_162, wl_242, wl_380, wl_400, wl_420, wl_820, wl_1340, wl_5480, wl_9999, true_and, and_true, true_or, or_true, if_true, if_false, and_self, or_self, false_and, and_false, false_or, or_false, not_true_eq_false, not_false_eq_true, Int.reduceEq, Int.reduceLT, Int.reduceLE, Int.reduceToNat, Int.reduceAdd, Int.reduceMul, Int.reduceSub, Int.reduceMod, Int.reduceDiv, Int.reduceNeg, Nat.reduceEqDiff, sm_rd_ok, sm_rd_ok2, sm_wt_ok, sm_cp_ok, Option.isSome_some, Option.getD_some, w_cont, Option.toList_some, Option.toList_none, List.cons_append, List.nil_append, kk_63 H, a1]
    · rw [if_neg w0]
      by_cases w1 : w = 1
      · rw [if_pos w1, show sm_sel w 82 [(0, 52), (1, 60)] = 60 by rw [w1]; rfl, b108_60, kk_0 H, rr_0_4 H]
        simp only [wr_id, wr_b2i, wr_wr, b2i_eq0, b2i_eq1, b2i_01, sm_rem_eq, sm_div_eq, wl_m2, wl_m1, wl_0, wl_1, wl_2, wl_3, wl_4, wl_5, wl_6, wl_7, wl_8, wl_9, wl_10, wl_12, wl_13, wl_14, wl_16, wl_20, wl_21, wl_22, wl_23, wl_32, wl_36, wl_40, wl_41, wl_42, wl_43, wl_44, wl_45, wl_46, wl_47, wl_48, wl_57, wl_59, wl_60, wl_61, wl_62, wl_65, wl_90, wl_97, wl_99, wl_100, wl_121, wl_122, wl_140, wl_142, wl_143, wl_145, wl_147, wl_160, wl_161, wl_162, wl_242, wl_380, wl_400, wl_420, wl_820, wl_1340, wl_5480, wl_9999, true_and, and_true, true_or, or_true, if_true, if_false, and_self, or_self, false_and, and_false, false_or, or_false, not_true_eq_false, not_false_eq_true, Int.reduceEq, Int.reduceLT, Int.reduceLE, Int.reduceToNat, Int.reduceAdd, Int.reduceMul, Int.reduceSub, Int.reduceMod, Int.reduceDiv, Int.reduceNeg, Nat.reduceEqDiff, sm_rd_ok, sm_rd_ok2, sm_wt_ok, sm_cp_ok, Option.isSome_some, Option.getD_some, w_cont, Option.toList_some, Option.toList_none, List.cons_append, List.nil_append, kk_63 H, a1]
        rw [wr_id (by omega) (by omega)]
        by_cases h0 : (bkR M (2 ^ (M 7).toNat) 0 (0, 0, -1)).1 = 0
        · rw [if_pos h0, b108_70, b108_81, b0.2 h0]
        · rw [if_neg h0, b108_74, kk_0 H, rr_0_4 H]
          simp only [wr_id, wr_b2i, wr_wr, b2i_eq0, b2i_eq1, b2i_01, sm_rem_eq, sm_div_eq, wl_m2, wl_m1, wl_0, wl_1, wl_2, wl_3, wl_4, wl_5, wl_6, wl_7, wl_8, wl_9, wl_10, wl_12, wl_13, wl_14, wl_16, wl_20, wl_21, wl_22, wl_23, wl_32, wl_36, wl_40, wl_41, wl_42, wl_43, wl_44, wl_45, wl_46, wl_47, wl_48, wl_57, wl_59, wl_60, wl_61, wl_62, wl_65, wl_90, wl_97, wl_99, wl_100, wl_121, wl_122, wl_140, wl_142, wl_143, wl_145, wl_147, wl_160, wl_161, wl_162, wl_242, wl_380, wl_400, wl_420, wl_820, wl_1340, wl_5480, wl_9999, true_and, and_true, true_or, or_true, if_true, if_false, and_self, or_self, false_and, and_false, false_or, or_false, not_true_eq_false, not_false_eq_true, Int.reduceEq, Int.reduceLT, Int.reduceLE, Int.reduceToNat, Int.reduceAdd, Int.reduceMul, Int.reduceSub, Int.reduceMod, Int.reduceDiv, Int.reduceNeg, Nat.reduceEqDiff, sm_rd_ok, sm_rd_ok2, sm_wt_ok, sm_cp_ok, Option.isSome_some, Option.getD_some, w_cont, Option.toList_some, Option.toList_none, List.cons_append, List.nil_append, kk_63 H, a2]
          rw [if_neg h0, b108_81]
      · rw [if_neg w1, show sm_sel w 82 [(0, 52), (1, 60)] = 82 by simp only [sm_sel]; rw [if_neg w0, if_neg w1], b108_82, kk_0 H, rr_0_4 H]
        simp only [wr_id, wr_b2i, wr_wr, b2i_eq0, b2i_eq1, b2i_01, sm_rem_eq, sm_div_eq, wl_m2, wl_m1, wl_0, wl_1, wl_2, wl_3, wl_4, wl_5, wl_6, wl_7, wl_8, wl_9, wl_10, wl_12, wl_13, wl_14, wl_16, wl_20, wl_21, wl_22, wl_23, wl_32, wl_36, wl_40, wl_41, wl_42, wl_43, wl_44, wl_45, wl_46, wl_47, wl_48, wl_57, wl_59, wl_60, wl_61, wl_62, wl_65, wl_90, wl_97, wl_99, wl_100, wl_121, wl_122, wl_140, wl_142, wl_143, wl_145, wl_147, wl_160, wl_161, wl_162, wl_242, wl_380, wl_400, wl_420, wl_820, wl_1340, wl_5480, wl_9999, true_and, and_true, true_or, or_true, if_true, if_false, and_self, or_self, false_and, and_false, false_or, or_false, not_true_eq_false, not_false_eq_true, Int.reduceEq, Int.reduceLT, Int.reduceLE, Int.reduceToNat, Int.reduceAdd, Int.reduceMul, Int.reduceSub, Int.reduceMod, Int.reduceDiv, Int.reduceNeg, Nat.reduceEqDiff, sm_rd_ok, sm_rd_ok2, sm_wt_ok, sm_cp_ok, Option.isSome_some, Option.getD_some, w_cont, Option.toList_some, Option.toList_none, List.cons_append, List.nil_append, kk_63 H, a3]
  · refine ⟨Z, frT_refl Z, fun Q => ?_⟩
    rw [head, if_neg hcw, if_neg hcw]
theorem m_cl_loop (H : sm_sh Rf K) {M nm : Nat → Int} (hM : Z 80 = M) (hc : clI M) (hn : ∀ k, k < 100 → Z 93 k = nm k ∧ -1 ≤ nm k ∧ nm k < 100) {l1 l2 l3 l4 l5 : Option sm_V} : ∀ (k i : Nat) (so : Bool) (l8 : Option sm_V), ((i + k : Nat) : Int) = M 8 → ∃ l8', ∀ Q, sm_wp d 192 47 [some (.inr (some 79)), l1, l2, l3, l4, l5, some (.inl (b2i so)), some (.inl (i : Int)), l8] [] (Z, Rf, K, n, z) Q = sm_wp d 192 142 [some (.inr (some 79)), l1, l2, l3, l4, l5, some (.inl (b2i (so && alB (clP nm M) k i))), some (.inl (M 8)), l8'] [] (Z, Rf, K, n, z) Q := by
  have h8 := hc.1
  intro k
  induction k with
  | zero =>
    intro i so l8 hik
    have : (i : Int) = M 8 := by omega
    refine ⟨l8, fun Q => ?_⟩
    rw [this, b192_47, kk_79 H, rr_79_0 H]
    simp (disch := omega) only [wr_id, wr_b2i, wr_wr, b2i_eq0, b2i_eq1, b2i_01, sm_rem_eq, sm_div_eq, wl_m2, wl_m1, wl_0, wl_1, wl_2, wl_3, wl_4, wl_5, wl_6, wl_7, wl_8, wl_9, wl_10, wl_12, wl_13, wl_14, wl_16, wl_20, wl_21, wl_22, wl_23, wl_32, wl_36, wl_40, wl_41, wl_42, wl_43, wl_44, wl_45, wl_46, wl_47, wl_48, wl_57, wl_59, wl_60, wl_61, wl_62, wl_65, wl_90, wl_97, wl_99, wl_100, wl_121, wl_122, wl_140, wl_142, wl_143, wl_145, wl_147, wl_160, wl_161, wl_162, wl_242, wl_380, wl_400, wl_420, wl_820, wl_1340, wl_5480, wl_9999, true_and, and_true, true_or, or_true, if_true, if_false, and_self, or_self, false_and, and_false, false_or, or_false, not_true_eq_false, not_false_eq_true, Int.reduceEq, Int.reduceLT, Int.reduceLE, Int.reduceToNat, Int.reduceAdd, Int.reduceMul, Int.reduceSub, Int.reduceMod, Int.reduceDiv, Int.reduceNeg, Nat.reduceEqDiff, sm_rd_ok, sm_rd_ok2, sm_wt_ok, sm_cp_ok, Option.isSome_some, Option.getD_some, w_cont, Option.toList_some, Option.toList_none, List.cons_append, List.nil_append, kk_80 H, hM]
    rw [if_pos (Int.le_refl _)]
    simp only [alB, Bool.and_true]
  | succ k ih =>
    intro i so l8 hik
    obtain ⟨b1, b2, b3⟩ := hc.2 i (by omega)
    obtain ⟨l8', q⟩ := ih (i + 1) (so && clP nm M i) (some (.inl (1920 + 3 * (i : Int)))) (by omega)
    refine ⟨l8', fun Q => ?_⟩
    have n0 : (1920 + 3 * (i : Int)).toNat = 1920 + 3 * i := by omega
    have n1 : (1920 + 3 * (i : Int) + 1).toNat = 1921 + 3 * i := by omega
    have n2 : (1920 + 3 * (i : Int) + 2).toNat = 1922 + 3 * i := by omega
    have fin : ∀ v : Int, v = b2i (so && clP nm M i) → sm_wp d 192 134 [some (.inr (some 79)), l1, l2, l3, l4, l5, some (.inl (b2i so)), some (.inl (i : Int)), some (.inl (1920 + 3 * (i : Int)))] [.inl v] (Z, Rf, K, n, z) Q = sm_wp d 192 142 [some (.inr (some 79)), l1, l2, l3, l4, l5, some (.inl (b2i (so && alB (clP nm M) (k + 1) i))), some (.inl (M 8)), l8'] [] (Z, Rf, K, n, z) Q := by
      intro v hv
      rw [b192_134, hv, show (i : Int) + 1 = ((i + 1 : Nat) : Int) by omega, q]
      simp only [alB, Bool.and_assoc]
    rw [b192_47, kk_79 H, rr_79_0 H]
    simp (disch := omega) only [wr_id, wr_b2i, wr_wr, b2i_eq0, b2i_eq1, b2i_01, sm_rem_eq, sm_div_eq, wl_m2, wl_m1, wl_0, wl_1, wl_2, wl_3, wl_4, wl_5, wl_6, wl_7, wl_8, wl_9, wl_10, wl_12, wl_13, wl_14, wl_16, wl_20, wl_21, wl_22, wl_23, wl_32, wl_36, wl_40, wl_41, wl_42, wl_43, wl_44, wl_45, wl_46, wl_47, wl_48, wl_57, wl_59, wl_60, wl_61, wl_62, wl_65, wl_90, wl_97, wl_99, wl_100, wl_121, wl_122, wl_140, wl_142, wl_143, wl_145, wl_147, wl_160, wl_161, wl_162, wl_242, wl_380, wl_400, wl_420, wl_820, wl_1340, wl_5480, wl_9999, true_and, and_true, true_or, or_true, if_true, if_false, and_self, or_self, false_and, and_false, false_or, or_false, not_true_eq_false, not_false_eq_true, Int.reduceEq, Int.reduceLT, Int.reduceLE, Int.reduceToNat, Int.reduceAdd, Int.reduceMul, Int.reduceSub, Int.reduceMod, Int.reduceDiv, Int.reduceNeg, Nat.reduceEqDiff, sm_rd_ok, sm_rd_ok2, sm_wt_ok, sm_cp_ok, Option.isSome_some, Option.getD_some, w_cont, Option.toList_some, Option.toList_none, List.cons_append, List.nil_append, kk_80 H, hM]
    rw [if_neg (by omega), b192_59]
    simp only [wr_id, wr_b2i, wr_wr, b2i_eq0, b2i_eq1, b2i_01, sm_rem_eq, sm_div_eq, wl_m2, wl_m1, wl_0, wl_1, wl_2, wl_3, wl_4, wl_5, wl_6, wl_7, wl_8, wl_9, wl_10, wl_12, wl_13, wl_14, wl_16, wl_20, wl_21, wl_22, wl_23, wl_32, wl_36, wl_40, wl_41, wl_42, wl_43, wl_44, wl_45, wl_46, wl_47, wl_48, wl_57, wl_59, wl_60, wl_61, wl_62, wl_65, wl_90, wl_97, wl_99, wl_100, wl_121, wl_122, wl_140, wl_142, wl_143, wl_145, wl_147, wl_160, wl_161, wl_162, wl_242, wl_380, wl_400, wl_420, wl_820, wl_1340, wl_5480, wl_9999, true_and, and_true, true_or, or_true, if_true, if_false, and_self, or_self, false_and, and_false, false_or, or_false, not_true_eq_false, not_false_eq_true, Int.reduceEq, Int.reduceLT, Int.reduceLE, Int.reduceToNat, Int.reduceAdd, Int.reduceMul, Int.reduceSub, Int.reduceMod, Int.reduceDiv, Int.reduceNeg, Nat.reduceEqDiff, sm_rd_ok, sm_rd_ok2, sm_wt_ok, sm_cp_ok, Option.isSome_some, Option.getD_some, w_cont, Option.toList_some, Option.toList_none, List.cons_append, List.nil_append]
    cases so with
    | false =>
      rw [if_pos rfl, b192_133]
      exact fin _ rfl
    | true =>
      have ea := hn (M (1920 + 3 * i)).toNat (by omega)
      have eb := hn (M (1921 + 3 * i)).toNat (by omega)
      rw [if_neg (by decide), b192_74, kk_79 H, rr_79_0 H, rr_79_28 H]
      simp (disch := omega) only [wr_id, wr_b2i, wr_wr, b2i_eq0, b2i_eq1, b2i_01, sm_rem_eq, sm_div_eq, wl_m2, wl_m1, wl_0, wl_1, wl_2, wl_3, wl_4, wl_5, wl_6, wl_7, wl_8, wl_9, wl_10, wl_12, wl_13, wl_14, wl_16, wl_20, wl_21, wl_22, wl_23, wl_32, wl_36, wl_40, wl_41, wl_42, wl_43, wl_44, wl_45, wl_46, wl_47, wl_48, wl_57, wl_59, wl_60, wl_61, wl_62, wl_65, wl_90, wl_97, wl_99, wl_100, wl_121, wl_122, wl_140, wl_142, wl_143, wl_145, wl_147, wl_160, wl_161, wl_162, wl_242, wl_380, wl_400, wl_420, wl_820, wl_1340, wl_5480, wl_9999, true_and, and_true, true_or, or_true, if_true, if_false, and_self, or_self, false_and, and_false, false_or, or_false, not_true_eq_false, not_false_eq_true, Int.reduceEq, Int.reduceLT, Int.reduceLE, Int.reduceToNat, Int.reduceAdd, Int.reduceMul, Int.reduceSub, Int.reduceMod, Int.reduceDiv, Int.reduceNeg, Nat.reduceEqDiff, sm_rd_ok, sm_rd_ok2, sm_wt_ok, sm_cp_ok, Option.isSome_some, Option.getD_some, w_cont, Option.toList_some, Option.toList_none, List.cons_append, List.nil_append, kk_80 H, kk_93 H, hM, n0, n1]
      simp (disch := omega) only [wr_id, wr_b2i, wr_wr, b2i_eq0, b2i_eq1, b2i_01, sm_rem_eq, sm_div_eq, wl_m2, wl_m1, wl_0, wl_1, wl_2, wl_3, wl_4, wl_5, wl_6, wl_7, wl_8, wl_9, wl_10, wl_12, wl_13, wl_14, wl_16, wl_20, wl_21, wl_22, wl_23, wl_32, wl_36, wl_40, wl_41, wl_42, wl_43, wl_44, wl_45, wl_46, wl_47, wl_48, wl_57, wl_59, wl_60, wl_61, wl_62, wl_65, wl_90, wl_97, wl_99, wl_100, wl_121, wl_122, wl_140, wl_142, wl_143, wl_145, wl_147, wl_160, wl_161, wl_162, wl_242, wl_380, wl_400, wl_420, wl_820, wl_1340, wl_5480, wl_9999, true_and, and_true, true_or, or_true, if_true, if_false, and_self, or_self, false_and, and_false, false_or, or_false, not_true_eq_false, not_false_eq_true, Int.reduceEq, Int.reduceLT, Int.reduceLE, Int.reduceToNat, Int.reduceAdd, Int.reduceMul, Int.reduceSub, Int.reduceMod, Int.reduceDiv, Int.reduceNeg, Nat.reduceEqDiff, sm_rd_ok, sm_rd_ok2, sm_wt_ok, sm_cp_ok, Option.isSome_some, Option.getD_some, w_cont, Option.toList_some, Option.toList_none, List.cons_append, List.nil_append, kk_93 H, ea.1, eb.1]
      have two : ∀ v : Bool, sm_wp d 192 108 [some (.inr (some 79)), l1, l2, l3, l4, l5, some (.inl (b2i true)), some (.inl (i : Int)), some (.inl (1920 + 3 * (i : Int)))] [.inl (b2i v)] (Z, Rf, K, n, z) Q = sm_wp d 192 134 [some (.inr (some 79)), l1, l2, l3, l4, l5, some (.inl (b2i true)), some (.inl (i : Int)), some (.inl (1920 + 3 * (i : Int)))] [.inl (b2i (decide ((v = true) ↔ M (1922 + 3 * i) = 1)))] (Z, Rf, K, n, z) Q := by
        intro v
        rw [b192_108, kk_79 H, rr_79_0 H]
        simp (disch := omega) only [wr_id, wr_b2i, wr_wr, b2i_eq0, b2i_eq1, b2i_01, sm_rem_eq, sm_div_eq, wl_m2, wl_m1, wl_0, wl_1, wl_2, wl_3, wl_4, wl_5, wl_6, wl_7, wl_8, wl_9, wl_10, wl_12, wl_13, wl_14, wl_16, wl_20, wl_21, wl_22, wl_23, wl_32, wl_36, wl_40, wl_41, wl_42, wl_43, wl_44, wl_45, wl_46, wl_47, wl_48, wl_57, wl_59, wl_60, wl_61, wl_62, wl_65, wl_90, wl_97, wl_99, wl_100, wl_121, wl_122, wl_140, wl_142, wl_143, wl_145, wl_147, wl_160, wl_161, wl_162, wl_242, wl_380, wl_400, wl_420, wl_820, wl_1340, wl_5480, wl_9999, true_and, and_true, true_or, or_true, if_true, if_false, and_self, or_self, false_and, and_false, false_or, or_false, not_true_eq_false, not_false_eq_true, Int.reduceEq, Int.reduceLT, Int.reduceLE, Int.reduceToNat, Int.reduceAdd, Int.reduceMul, Int.reduceSub, Int.reduceMod, Int.reduceDiv, Int.reduceNeg, Nat.reduceEqDiff, sm_rd_ok, sm_rd_ok2, sm_wt_ok, sm_cp_ok, Option.isSome_some, Option.getD_some, w_cont, Option.toList_some, Option.toList_none, List.cons_append, List.nil_append, kk_80 H, hM, n2]
        by_cases h1 : M (1922 + 3 * i) = 1
        · rw [if_pos h1, b192_121, b192_126]
          simp only [wr_id, wr_b2i, wr_wr, b2i_eq0, b2i_eq1, b2i_01, sm_rem_eq, sm_div_eq, wl_m2, wl_m1, wl_0, wl_1, wl_2, wl_3, wl_4, wl_5, wl_6, wl_7, wl_8, wl_9, wl_10, wl_12, wl_13, wl_14, wl_16, wl_20, wl_21, wl_22, wl_23, wl_32, wl_36, wl_40, wl_41, wl_42, wl_43, wl_44, wl_45, wl_46, wl_47, wl_48, wl_57, wl_59, wl_60, wl_61, wl_62, wl_65, wl_90, wl_97, wl_99, wl_100, wl_121, wl_122, wl_140, wl_142, wl_143, wl_145, wl_147, wl_160, wl_161, wl_162, wl_242, wl_380, wl_400, wl_420, wl_820, wl_1340, wl_5480, wl_9999, true_and, and_true, true_or, or_true, if_true, if_false, and_self, or_self, false_and, and_false, false_or, or_false, not_true_eq_false, not_false_eq_true, Int.reduceEq, Int.reduceLT, Int.reduceLE, Int.reduceToNat, Int.reduceAdd, Int.reduceMul, Int.reduceSub, Int.reduceMod, Int.reduceDiv, Int.reduceNeg, Nat.reduceEqDiff, sm_rd_ok, sm_rd_ok2, sm_wt_ok, sm_cp_ok, Option.isSome_some, Option.getD_some, w_cont, Option.toList_some, Option.toList_none, List.cons_append, List.nil_append]
          cases v with
          | false =>
            rw [if_neg (by decide), b192_133]
            simp [h1, b2i]
          | true =>
            rw [if_pos (by decide), b192_129]
            simp [h1, b2i]
        · rw [if_neg h1, b192_125, b192_126]
          simp only [wr_id, wr_b2i, wr_wr, b2i_eq0, b2i_eq1, b2i_01, sm_rem_eq, sm_div_eq, wl_m2, wl_m1, wl_0, wl_1, wl_2, wl_3, wl_4, wl_5, wl_6, wl_7, wl_8, wl_9, wl_10, wl_12, wl_13, wl_14, wl_16, wl_20, wl_21, wl_22, wl_23, wl_32, wl_36, wl_40, wl_41, wl_42, wl_43, wl_44, wl_45, wl_46, wl_47, wl_48, wl_57, wl_59, wl_60, wl_61, wl_62, wl_65, wl_90, wl_97, wl_99, wl_100, wl_121, wl_122, wl_140, wl_142, wl_143, wl_145, wl_147, wl_160, wl_161, wl_162, wl_242, wl_380, wl_400, wl_420, wl_820, wl_1340, wl_5480, wl_9999, true_and, and_true, true_or, or_true, if_true, if_false, and_self, or_self, false_and, and_false, false_or, or_false, not_true_eq_false, not_false_eq_true, Int.reduceEq, Int.reduceLT, Int.reduceLE, Int.reduceToNat, Int.reduceAdd, Int.reduceMul, Int.reduceSub, Int.reduceMod, Int.reduceDiv, Int.reduceNeg, Nat.reduceEqDiff, sm_rd_ok, sm_rd_ok2, sm_wt_ok, sm_cp_ok, Option.isSome_some, Option.getD_some, w_cont, Option.toList_some, Option.toList_none, List.cons_append, List.nil_append]
          cases v with
          | false =>
            rw [if_pos (by decide), b192_129]
            simp [h1, b2i]
          | true =>
            rw [if_neg (by decide), b192_133]
            simp [h1, b2i]
      have hcl : clP nm M i = decide ((decide (nm (M (1920 + 3 * i)).toNat = nm (M (1921 + 3 * i)).toNat) = true) ↔ M (1922 + 3 * i) = 1) := by
        unfold clP
        simp only [decide_eq_true_eq]
      by_cases hq : nm (M (1920 + 3 * i)).toNat = nm (M (1921 + 3 * i)).toNat
      · rw [if_pos hq, b192_103]
        refine (two true).trans ?_
        refine fin _ ?_
        rw [hcl, Bool.true_and, decide_eq_true hq]
      · rw [if_neg hq, b192_107]
        refine (two false).trans ?_
        refine fin _ ?_
        rw [hcl, Bool.true_and, decide_eq_false hq]
theorem m_bk_loop (H : sm_sh Rf K) {M : Nat → Int} (hi : invD M) {l1 : Option sm_V} : ∀ (k s : Nat) (Z : Nat → Nat → Int) (t : Int × Int × Int) (l6 l7 l8 : Option sm_V), s + k = 2 ^ (M 7).toNat → Z 80 = M → Z 79 6 = 0 → (0 ≤ t.1 ∧ t.1 ≤ (s : Int)) → ∃ Z' l6' l7' l8', frU Z Z' ∧ ∀ Q, sm_wp (d + 8) 192 21 [some (.inr (some 79)), l1, some (.inl t.1), some (.inl t.2.1), some (.inl t.2.2), some (.inl (s : Int)), l6, l7, l8] [] (Z, Rf, K, n, z) Q = sm_wp (d + 8) 192 186 [some (.inr (some 79)), l1, some (.inl (bkR M k s t).1), some (.inl (bkR M k s t).2.1), some (.inl (bkR M k s t).2.2), some (.inl ((2 ^ (M 7).toNat : Nat) : Int)), l6', l7', l8'] [] (Z', Rf, K, n, z) Q := by
  have hc := chI_of hi
  obtain ⟨e1, e2⟩ := shl_one hc.1
  have hcl := clI_of hi
  intro k
  induction k with
  | zero =>
    intro s Z t l6 l7 l8 hs hM h6 ht
    refine ⟨Z, l6, l7, l8, frU_refl Z, fun Q => ?_⟩
    have : s = 2 ^ (M 7).toNat := by omega
    rw [b192_21, kk_79 H, rr_79_0 H]
    simp (disch := omega) only [wr_id, wr_b2i, wr_wr, b2i_eq0, b2i_eq1, b2i_01, sm_rem_eq, sm_div_eq, wl_m2, wl_m1, wl_0, wl_1, wl_2, wl_3, wl_4, wl_5, wl_6, wl_7, wl_8, wl_9, wl_10, wl_12, wl_13, wl_14, wl_16, wl_20, wl_21, wl_22, wl_23, wl_32, wl_36, wl_40, wl_41, wl_42, wl_43, wl_44, wl_45, wl_46, wl_47, wl_48, wl_57, wl_59, wl_60, wl_61, wl_62, wl_65, wl_90, wl_97, wl_99, wl_100, wl_121, wl_122, wl_140, wl_142, wl_143, wl_145, wl_147, wl_160, wl_161, wl_162, wl_242, wl_380, wl_400, wl_420, wl_820, wl_1340, wl_5480, wl_9999, true_and, and_true, true_or, or_true, if_true, if_false, and_self, or_self, false_and, and_false, false_or, or_false, not_true_eq_false, not_false_eq_true, Int.reduceEq, Int.reduceLT, Int.reduceLE, Int.reduceToNat, Int.reduceAdd, Int.reduceMul, Int.reduceSub, Int.reduceMod, Int.reduceDiv, Int.reduceNeg, Nat.reduceEqDiff, sm_rd_ok, sm_rd_ok2, sm_wt_ok, sm_cp_ok, Option.isSome_some, Option.getD_some, w_cont, Option.toList_some, Option.toList_none, List.cons_append, List.nil_append, kk_80 H, hM, e1]
    rw [if_pos (by omega), this]
    rfl
  | succ k ih =>
    intro s Z t l6 l7 l8 hs hM h6 ht
    obtain ⟨Z1, t1, f1, q1⟩ := m_hatches (d := d) (n := n) (z := z) H hM hi h6 (set := (s : Int)) (by omega)
    have hM1 : Z1 80 = M := by rw [f1.1 80 (by omega)]; exact hM
    have hb1 := bk1_bd (M := M) ht
    obtain ⟨l8a, qc⟩ := m_cl_loop (d := d + 8) (n := n) (z := z) (Z := Z1) (nm := nmH M (s : Int)) (l1 := l1) (l2 := some (.inl t.1)) (l3 := some (.inl t.2.1)) (l4 := some (.inl t.2.2)) (l5 := some (.inl (s : Int))) H hM1 hcl t1 (M 8).toNat 0 true l8 (by have := hcl.1; omega)
    obtain ⟨Z2, l6', l7', l8', f2, q2⟩ := ih (s + 1) Z1 (bk1 M s t) (some (.inl (b2i (true && alB (clP (nmH M (s : Int)) M) (M 8).toNat 0)))) (some (.inl (M 8))) l8a (by omega) hM1 (by rw [f1.2 6 (by omega)]; exact h6) hb1
    refine ⟨Z2, l6', l7', l8', frU_trans f1 f2, fun Q => ?_⟩
    rw [b192_21, kk_79 H, rr_79_0 H]
    simp (disch := omega) only [wr_id, wr_b2i, wr_wr, b2i_eq0, b2i_eq1, b2i_01, sm_rem_eq, sm_div_eq, wl_m2, wl_m1, wl_0, wl_1, wl_2, wl_3, wl_4, wl_5, wl_6, wl_7, wl_8, wl_9, wl_10, wl_12, wl_13, wl_14, wl_16, wl_20, wl_21, wl_22, wl_23, wl_32, wl_36, wl_40, wl_41, wl_42, wl_43, wl_44, wl_45, wl_46, wl_47, wl_48, wl_57, wl_59, wl_60, wl_61, wl_62, wl_65, wl_90, wl_97, wl_99, wl_100, wl_121, wl_122, wl_140, wl_142, wl_143, wl_145, wl_147, wl_160, wl_161, wl_162, wl_242, wl_380, wl_400, wl_420, wl_820, wl_1340, wl_5480, wl_9999, true_and, and_true, true_or, or_true, if_true, if_false, and_self, or_self, false_and, and_false, false_or, or_false, not_true_eq_false, not_false_eq_true, Int.reduceEq, Int.reduceLT, Int.reduceLE, Int.reduceToNat, Int.reduceAdd, Int.reduceMul, Int.reduceSub, Int.reduceMod, Int.reduceDiv, Int.reduceNeg, Nat.reduceEqDiff, sm_rd_ok, sm_rd_ok2, sm_wt_ok, sm_cp_ok, Option.isSome_some, Option.getD_some, w_cont, Option.toList_some, Option.toList_none, List.cons_append, List.nil_append, kk_80 H, hM, e1]
    rw [if_neg (by omega), b192_35, kk_79 H]
    simp only [wr_id, wr_b2i, wr_wr, b2i_eq0, b2i_eq1, b2i_01, sm_rem_eq, sm_div_eq, wl_m2, wl_m1, wl_0, wl_1, wl_2, wl_3, wl_4, wl_5, wl_6, wl_7, wl_8, wl_9, wl_10, wl_12, wl_13, wl_14, wl_16, wl_20, wl_21, wl_22, wl_23, wl_32, wl_36, wl_40, wl_41, wl_42, wl_43, wl_44, wl_45, wl_46, wl_47, wl_48, wl_57, wl_59, wl_60, wl_61, wl_62, wl_65, wl_90, wl_97, wl_99, wl_100, wl_121, wl_122, wl_140, wl_142, wl_143, wl_145, wl_147, wl_160, wl_161, wl_162, wl_242, wl_380, wl_400, wl_420, wl_820, wl_1340, wl_5480, wl_9999, true_and, and_true, true_or, or_true, if_true, if_false, and_self, or_self, false_and, and_false, false_or, or_false, not_true_eq_false, not_false_eq_true, Int.reduceEq, Int.reduceLT, Int.reduceLE, Int.reduceToNat, Int.reduceAdd, Int.reduceMul, Int.reduceSub, Int.reduceMod, Int.reduceDiv, Int.reduceNeg, Nat.reduceEqDiff, sm_rd_ok, sm_rd_ok2, sm_wt_ok, sm_cp_ok, Option.isSome_some, Option.getD_some, w_cont, Option.toList_some, Option.toList_none, List.cons_append, List.nil_append]
    refine (q1 _).trans ?_
    rw [w_cont]
    simp only [wr_id, wr_b2i, wr_wr, b2i_eq0, b2i_eq1, b2i_01, sm_rem_eq, sm_div_eq, wl_m2, wl_m1, wl_0, wl_1, wl_2, wl_3, wl_4, wl_5, wl_6, wl_7, wl_8, wl_9, wl_10, wl_12, wl_13, wl_14, wl_16, wl_20, wl_21, wl_22, wl_23, wl_32, wl_36, wl_40, wl_41, wl_42, wl_43, wl_44, wl_45, wl_46, wl_47, wl_48, wl_57, wl_59, wl_60, wl_61, wl_62, wl_65, wl_90, wl_97, wl_99, wl_100, wl_121, wl_122, wl_140, wl_142, wl_143, wl_145, wl_147, wl_160, wl_161, wl_162, wl_242, wl_380, wl_400, wl_420, wl_820, wl_1340, wl_5480, wl_9999, true_and, and_true, true_or, or_true, if_true, if_false, and_self, or_self, false_and, and_false, false_or, or_false, not_true_eq_false, not_false_eq_true, Int.reduceEq, Int.reduceLT, Int.reduceLE, Int.reduceToNat, Int.reduceAdd, Int.reduceMul, Int.reduceSub, Int.reduceMod, Int.reduceDiv, Int.reduceNeg, Nat.reduceEqDiff, sm_rd_ok, sm_rd_ok2, sm_wt_ok, sm_cp_ok, Option.isSome_some, Option.getD_some, w_cont, Option.toList_some, Option.toList_none, List.cons_append, List.nil_append]
    rw [b192_41]
    refine (qc Q).trans ?_
    rw [b192_142]
    simp only [wr_id, wr_b2i, wr_wr, b2i_eq0, b2i_eq1, b2i_01, sm_rem_eq, sm_div_eq, wl_m2, wl_m1, wl_0, wl_1, wl_2, wl_3, wl_4, wl_5, wl_6, wl_7, wl_8, wl_9, wl_10, wl_12, wl_13, wl_14, wl_16, wl_20, wl_21, wl_22, wl_23, wl_32, wl_36, wl_40, wl_41, wl_42, wl_43, wl_44, wl_45, wl_46, wl_47, wl_48, wl_57, wl_59, wl_60, wl_61, wl_62, wl_65, wl_90, wl_97, wl_99, wl_100, wl_121, wl_122, wl_140, wl_142, wl_143, wl_145, wl_147, wl_160, wl_161, wl_162, wl_242, wl_380, wl_400, wl_420, wl_820, wl_1340, wl_5480, wl_9999, true_and, and_true, true_or, or_true, if_true, if_false, and_self, or_self, false_and, and_false, false_or, or_false, not_true_eq_false, not_false_eq_true, Int.reduceEq, Int.reduceLT, Int.reduceLE, Int.reduceToNat, Int.reduceAdd, Int.reduceMul, Int.reduceSub, Int.reduceMod, Int.reduceDiv, Int.reduceNeg, Nat.reduceEqDiff, sm_rd_ok, sm_rd_ok2, sm_wt_ok, sm_cp_ok, Option.isSome_some, Option.getD_some, w_cont, Option.toList_some, Option.toList_none, List.cons_append, List.nil_append, Bool.true_and]
    rw [Bool.true_and] at q2
    simp only [bkR]
    rw [← q2 Q]
    by_cases h : alB (clP (nmH M (s : Int)) M) (M 8).toNat 0 = true
    · have eb : bk1 M s t = (t.1 + 1, if t.1 = 0 then (s : Int) else sm_and t.2.1 (s : Int), if t.1 = 0 then (s : Int) else t.2.2) := by unfold bk1; rw [if_pos h]
      rw [if_neg (by rw [h]; decide), b192_150, wr_id (by omega) (by omega), eb]
      by_cases h0 : t.1 = 0
      · rw [if_pos h0, b192_154, b192_163, wr_id (by omega) (by omega), if_pos h0, b192_168, b192_175, b192_180, if_pos h0, if_pos h0, show (s : Int) + 1 = ((s + 1 : Nat) : Int) by omega]
      · rw [if_neg h0, b192_159, b192_163, wr_id (by omega) (by omega), if_neg h0, b192_173, b192_175, b192_180, if_neg h0, if_neg h0, show (s : Int) + 1 = ((s + 1 : Nat) : Int) by omega]
    · have eb : bk1 M s t = t := by unfold bk1; rw [if_neg h]
      rw [if_pos (Bool.eq_false_iff.2 h), b192_147, b192_180, eb, show (s : Int) + 1 = ((s + 1 : Nat) : Int) by omega]
theorem m_backW (H : sm_sh Rf K) {M : Nat → Int} (hM : Z 80 = M) (hi : invD M) (h6 : Z 79 6 = 0) {w : Int} (hw : aI w) : ∃ Z', frU Z Z' ∧ ∀ Q, sm_call (d + 8) 192 [.inr (some 79), .inl w] (Z, Rf, K, n, z) Q = Q (some (.inl (if 0 ≤ w ∧ w ≤ 2 then bkw (bkR M (2 ^ (M 7).toNat) 0 (0, 0, -1)) w else -1))) (Z', Rf, K, n, z) := by
  unfold aI at hw
  have head : ∀ Q, sm_call (d + 8) 192 [.inr (some 79), .inl w] (Z, Rf, K, n, z) Q = if 0 ≤ w ∧ w ≤ 2 then sm_wp (d + 8) 192 11 [some (.inr (some 79)), some (.inl w), none, none, none, none, none, none, none] [] (Z, Rf, K, n, z) Q else Q (some (.inl (-1))) (Z, Rf, K, n, z) := by
    intro Q
    rw [ce192, b192_0, m_isIn hw (by omega) (by omega), w_cont]
    simp only [wr_id, wr_b2i, wr_wr, b2i_eq0, b2i_eq1, b2i_01, sm_rem_eq, sm_div_eq, wl_m2, wl_m1, wl_0, wl_1, wl_2, wl_3, wl_4, wl_5, wl_6, wl_7, wl_8, wl_9, wl_10, wl_12, wl_13, wl_14, wl_16, wl_20, wl_21, wl_22, wl_23, wl_32, wl_36, wl_40, wl_41, wl_42, wl_43, wl_44, wl_45, wl_46, wl_47, wl_48, wl_57, wl_59, wl_60, wl_61, wl_62, wl_65, wl_90, wl_97, wl_99, wl_100, wl_121, wl_122, wl_140, wl_142, wl_143, wl_145, wl_147, wl_160, wl_161, wl_162, wl_242, wl_380, wl_400, wl_420, wl_820, wl_1340, wl_5480, wl_9999, true_and, and_true, true_or, or_true, if_true, if_false, and_self, or_self, false_and, and_false, false_or, or_false, not_true_eq_false, not_false_eq_true, Int.reduceEq, Int.reduceLT, Int.reduceLE, Int.reduceToNat, Int.reduceAdd, Int.reduceMul, Int.reduceSub, Int.reduceMod, Int.reduceDiv, Int.reduceNeg, Nat.reduceEqDiff, sm_rd_ok, sm_rd_ok2, sm_wt_ok, sm_cp_ok, Option.isSome_some, Option.getD_some, w_cont, Option.toList_some, Option.toList_none, List.cons_append, List.nil_append]
    rw [b192_6]
    simp only [wr_id, wr_b2i, wr_wr, b2i_eq0, b2i_eq1, b2i_01, sm_rem_eq, sm_div_eq, wl_m2, wl_m1, wl_0, wl_1, wl_2, wl_3, wl_4, wl_5, wl_6, wl_7, wl_8, wl_9, wl_10, wl_12, wl_13, wl_14, wl_16, wl_20, wl_21, wl_22, wl_23, wl_32, wl_36, wl_40, wl_41, wl_42, wl_43, wl_44, wl_45, wl_46, wl_47, wl_48, wl_57, wl_59, wl_60, wl_61, wl_62, wl_65, wl_90, wl_97, wl_99, wl_100, wl_121, wl_122, wl_140, wl_142, wl_143, wl_145, wl_147, wl_160, wl_161, wl_162, wl_242, wl_380, wl_400, wl_420, wl_820, wl_1340, wl_5480, wl_9999, true_and, and_true, true_or, or_true, if_true, if_false, and_self, or_self, false_and, and_false, false_or, or_false, not_true_eq_false, not_false_eq_true, Int.reduceEq, Int.reduceLT, Int.reduceLE, Int.reduceToNat, Int.reduceAdd, Int.reduceMul, Int.reduceSub, Int.reduceMod, Int.reduceDiv, Int.reduceNeg, Nat.reduceEqDiff, sm_rd_ok, sm_rd_ok2, sm_wt_ok, sm_cp_ok, Option.isSome_some, Option.getD_some, w_cont, Option.toList_some, Option.toList_none, List.cons_append, List.nil_append, isInB, decide_eq_false_iff_not]
    by_cases h1 : 0 ≤ w ∧ w ≤ 2
    · rw [if_neg (fun g => g h1), if_pos h1]
    · rw [if_pos h1, if_neg h1, b192_9]
  by_cases hcw : 0 ≤ w ∧ w ≤ 2
  · obtain ⟨Z1, l6, l7, l8, f1, q1⟩ := m_bk_loop (d := d) (n := n) (z := z) (l1 := some (.inl w)) H hi (2 ^ (M 7).toNat) 0 Z (0, 0, -1) none none none (by omega) hM h6 (by show (0 : Int) ≤ 0 ∧ (0 : Int) ≤ ((0 : Nat) : Int); omega)
    refine ⟨Z1, f1, fun Q => ?_⟩
    rw [head, if_pos hcw, if_pos hcw, b192_11]
    refine (q1 Q).trans ?_
    unfold bkw
    rw [b192_186, wr_id hw.1 hw.2]
    by_cases w0 : w = 0
    · rw [if_pos w0, if_pos w0, b192_190, b192_205]
    · rw [if_neg w0, if_neg w0, b192_194, wr_id hw.1 hw.2]
      by_cases w1 : w = 1
      · rw [if_pos w1, if_pos w1, b192_199, b192_205]
      · rw [if_neg w1, if_neg w1, b192_203, b192_205]
  · refine ⟨Z, frU_refl Z, fun Q => ?_⟩
    rw [head, if_neg hcw, if_neg hcw]
end BACK
