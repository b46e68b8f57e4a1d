/-- a cell's flies drawn -/
def dr1 (M : Nat → Int) (c : Nat) : Nat → Int := if isC (M 0) (M 1) (c : Int) = true then mU (mU M 2 (1664525 * M 2 + 1013904223)) (20 + c) (sm_rem (sm_ushr (1664525 * M 2 + 1013904223) 8) (if M (120 + c) = 1 then 40 else 10)) else M
def drR : Nat → Nat → (Nat → Int) → (Nat → Int)
  | 0, _, M => M
  | k + 1, c, M => drR k (c + 1) (dr1 M c)
theorem dr1_o {M : Nat → Int} {c j : Nat} (hc : c < 100) (h : j ≠ 2 ∧ (j < 20 ∨ 120 ≤ j)) : dr1 M c j = M j := by
  unfold dr1
  split
  · unfold mU
    rw [if_neg (by omega), if_neg (by omega)]
  · rfl
theorem drR_o : ∀ (k c : Nat) (M : Nat → Int), c + k ≤ 100 → ∀ j, j ≠ 2 ∧ (j < 20 ∨ 120 ≤ j) → drR k c M j = M j := by
  intro k
  induction k with
  | zero => intro c M _ j _; rfl
  | succ k ih =>
    intro c M hc j hj
    simp only [drR]
    rw [ih (c + 1) _ (by omega) j hj, dr1_o (by omega) hj]
theorem drR_add : ∀ (k l c : Nat) (M : Nat → Int), drR (k + l) c M = drR l (c + k) (drR k c M) := by
  intro k
  induction k with
  | zero => intro l c M; rw [Nat.zero_add]; rfl
  | succ k ih =>
    intro l c M
    rw [show k + 1 + l = (k + l) + 1 by omega]
    simp only [drR]
    rw [ih l (c + 1), show c + 1 + k = c + (k + 1) by omega]
theorem drR_skip : ∀ (k c : Nat) (M : Nat → Int), (∀ j, c ≤ j → j < c + k → ¬ isC (M 0) (M 1) (j : Int) = true) → drR k c M = M := by
  intro k
  induction k with
  | zero => intro c M _; rfl
  | succ k ih =>
    intro c M hj
    simp only [drR]
    have e : dr1 M c = M := by
      unfold dr1
      rw [if_neg (hj c (by omega) (by omega))]
    rw [e]
    exact ih (c + 1) M (fun j h1 h2 => hj j (by omega) (by omega))
theorem invD_cg1 {M M' : Nat → Int} (h : ∀ k, (k < 2 ∨ (3 ≤ k ∧ k < 20) ∨ (120 ≤ k ∧ k < 620) ∨ 720 ≤ k) → M' k = M k) (hi : invD M) : invD M' := by
  obtain ⟨i1, i2, i3, i4, i5, i6, i7, i8, i9, i10, i11⟩ := hi
  refine ⟨invF_cg (fun k hk => h k (by omega)) i1, swS_cg (fun k hk => h k (by omega)) i2, ?_, fun c hc => ?_, fun c hc => ?_, fun c hc => ?_, fun c hc => ?_, ?_, ?_, ?_, ?_⟩
  · rw [h 3 (by omega)]; exact i3
  · rw [h _ (by omega)]; exact i4 c hc
  · rw [h _ (by omega)]; exact i5 c hc
  · rw [h _ (by omega)]; exact i6 c hc
  · rw [h _ (by omega)]; exact i7 c hc
  · rw [h 5 (by omega)]
    refine ⟨i8.1, fun i hi => ?_⟩
    rw [h _ (by omega), h _ (by omega)]
    exact i8.2 i hi
  · rw [h 7 (by omega), h 0 (by omega), h 1 (by omega)]
    refine ⟨i9.1, fun i hi => ?_⟩
    rw [h _ (by omega), h _ (by omega), h _ (by omega)]
    exact i9.2 i hi
  · rw [h 8 (by omega), h 0 (by omega), h 1 (by omega)]
    refine ⟨i10.1, fun i hi => ?_⟩
    rw [h _ (by omega), h _ (by omega), h _ (by omega)]
    exact i10.2 i hi
  · rw [h 6 (by omega)]
    intro i hi
    rw [h _ (by omega), h _ (by omega)]
    exact i11 i hi
/-- a spring -/
def spgS (M : Nat → Int) : Nat → Int := mU (svS (drR 100 0 M)) 3 (M 3 + 1)
section SPRING
variable {d n z : Nat} {Rf : Nat → Nat → Option Nat} {K : Nat → Nat × Nat} {Z : Nat → Nat → Int} {Q : Option sm_V → sm_S → Prop} {m : Int}
theorem c_draw (H : sm_sh Rf K) (hm : m = 40 ∨ m = 10) : sm_call d 19 [.inr (some 1), .inl m] (Z, Rf, K, n, z) Q = Q (some (.inl (sm_rem (sm_ushr (1664525 * Z 1 2 + 1013904223) 8) m))) (sm_u Z 1 2 (1664525 * Z 1 2 + 1013904223), Rf, K, n, z) := by
  rw [ce19, b19_0, kk_1 H, wr_id (by omega) (by omega), if_neg (by omega)]
  simp only [wr_id, wr_b2i, wr_wr, b2i_eq0, b2i_eq1, b2i_01, sm_rem_eq, sm_div_eq, wl_m2, wl_m1, wl_0, wl_1, wl_2, wl_3, wl_4, wl_5, wl_6, wl_7, wl_8, wl_9, wl_10, wl_12, wl_13, wl_14, wl_16, wl_20, wl_21, wl_22, wl_23, wl_32, wl_36, wl_40, wl_41, wl_42, wl_43, wl_44, wl_45, wl_46, wl_47, wl_48, wl_57, wl_59, wl_60, wl_61, wl_62, wl_65, wl_90, wl_97, wl_99, wl_100, wl_121, wl_122, wl_140, wl_142, wl_143, wl_145, wl_147, wl_160, wl_161, wl_162, wl_242, wl_380, wl_400, wl_420, wl_820, wl_1340, wl_5480, wl_9999, true_and, and_true, true_or, or_true, if_true, if_false, and_self, or_self, false_and, and_false, false_or, or_false, not_true_eq_false, not_false_eq_true, Int.reduceEq, Int.reduceLT, Int.reduceLE, Int.reduceToNat, Int.reduceAdd, Int.reduceMul, Int.reduceSub, Int.reduceMod, Int.reduceDiv, Int.reduceNeg, Nat.reduceEqDiff, sm_rd_ok, sm_rd_ok2, sm_wt_ok, sm_cp_ok, Option.isSome_some, Option.getD_some, w_cont, Option.toList_some, Option.toList_none, List.cons_append, List.nil_append]
  rw [b19_18, kk_1 H, wr_id (by omega) (by omega), eq_true (show ¬ m = 0 by omega), sm_u_self, Int.mul_comm (Z 1 2)]
  simp only [wr_id, wr_b2i, wr_wr, b2i_eq0, b2i_eq1, b2i_01, sm_rem_eq, sm_div_eq, wl_m2, wl_m1, wl_0, wl_1, wl_2, wl_3, wl_4, wl_5, wl_6, wl_7, wl_8, wl_9, wl_10, wl_12, wl_13, wl_14, wl_16, wl_20, wl_21, wl_22, wl_23, wl_32, wl_36, wl_40, wl_41, wl_42, wl_43, wl_44, wl_45, wl_46, wl_47, wl_48, wl_57, wl_59, wl_60, wl_61, wl_62, wl_65, wl_90, wl_97, wl_99, wl_100, wl_121, wl_122, wl_140, wl_142, wl_143, wl_145, wl_147, wl_160, wl_161, wl_162, wl_242, wl_380, wl_400, wl_420, wl_820, wl_1340, wl_5480, wl_9999, true_and, and_true, true_or, or_true, if_true, if_false, and_self, or_self, false_and, and_false, false_or, or_false, not_true_eq_false, not_false_eq_true, Int.reduceEq, Int.reduceLT, Int.reduceLE, Int.reduceToNat, Int.reduceAdd, Int.reduceMul, Int.reduceSub, Int.reduceMod, Int.reduceDiv, Int.reduceNeg, Nat.reduceEqDiff, sm_rd_ok, sm_rd_ok2, sm_wt_ok, sm_cp_ok, Option.isSome_some, Option.getD_some, w_cont, Option.toList_some, Option.toList_none, List.cons_append, List.nil_append]
  rw [b19_31]
theorem m_draw (H : sm_sh Rf K) (hm : m = 40 ∨ m = 10) : sm_call d 125 [.inr (some 79), .inl m] (Z, Rf, K, n, z) Q = Q (some (.inl (sm_rem (sm_ushr (1664525 * Z 80 2 + 1013904223) 8) m))) (sm_u Z 80 2 (1664525 * Z 80 2 + 1013904223), Rf, K, n, z) := by
  rw [ce125, b125_0, kk_79 H, rr_79_0 H]
  simp (disch := omega) only [wr_id, wr_b2i, wr_wr, b2i_eq0, b2i_eq1, b2i_01, sm_rem_eq, sm_div_eq, wl_m2, wl_m1, wl_0, wl_1, wl_2, wl_3, wl_4, wl_5, wl_6, wl_7, wl_8, wl_9, wl_10, wl_12, wl_13, wl_14, wl_16, wl_20, wl_21, wl_22, wl_23, wl_32, wl_36, wl_40, wl_41, wl_42, wl_43, wl_44, wl_45, wl_46, wl_47, wl_48, wl_57, wl_59, wl_60, wl_61, wl_62, wl_65, wl_90, wl_97, wl_99, wl_100, wl_121, wl_122, wl_140, wl_142, wl_143, wl_145, wl_147, wl_160, wl_161, wl_162, wl_242, wl_380, wl_400, wl_420, wl_820, wl_1340, wl_5480, wl_9999, true_and, and_true, true_or, or_true, if_true, if_false, and_self, or_self, false_and, and_false, false_or, or_false, not_true_eq_false, not_false_eq_true, Int.reduceEq, Int.reduceLT, Int.reduceLE, Int.reduceToNat, Int.reduceAdd, Int.reduceMul, Int.reduceSub, Int.reduceMod, Int.reduceDiv, Int.reduceNeg, Nat.reduceEqDiff, sm_rd_ok, sm_rd_ok2, sm_wt_ok, sm_cp_ok, Option.isSome_some, Option.getD_some, w_cont, Option.toList_some, Option.toList_none, List.cons_append, List.nil_append, kk_80 H, sm_u_self]
  rw [eq_true (show ¬ m = 0 by omega)]
  simp only [wr_id, wr_b2i, wr_wr, b2i_eq0, b2i_eq1, b2i_01, sm_rem_eq, sm_div_eq, wl_m2, wl_m1, wl_0, wl_1, wl_2, wl_3, wl_4, wl_5, wl_6, wl_7, wl_8, wl_9, wl_10, wl_12, wl_13, wl_14, wl_16, wl_20, wl_21, wl_22, wl_23, wl_32, wl_36, wl_40, wl_41, wl_42, wl_43, wl_44, wl_45, wl_46, wl_47, wl_48, wl_57, wl_59, wl_60, wl_61, wl_62, wl_65, wl_90, wl_97, wl_99, wl_100, wl_121, wl_122, wl_140, wl_142, wl_143, wl_145, wl_147, wl_160, wl_161, wl_162, wl_242, wl_380, wl_400, wl_420, wl_820, wl_1340, wl_5480, wl_9999, true_and, and_true, true_or, or_true, if_true, if_false, and_self, or_self, false_and, and_false, false_or, or_false, not_true_eq_false, not_false_eq_true, Int.reduceEq, Int.reduceLT, Int.reduceLE, Int.reduceToNat, Int.reduceAdd, Int.reduceMul, Int.reduceSub, Int.reduceMod, Int.reduceDiv, Int.reduceNeg, Nat.reduceEqDiff, sm_rd_ok, sm_rd_ok2, sm_wt_ok, sm_cp_ok, Option.isSome_some, Option.getD_some, w_cont, Option.toList_some, Option.toList_none, List.cons_append, List.nil_append]
/-- what drawing changes of the class -/
def rDr (Z : Nat → Nat → Int) (M : Nat → Int) : Prop := (Z 1 0 = M 0 ∧ Z 1 1 = M 1 ∧ Z 1 2 = M 2) ∧ ∀ c, c < 100 → Z 2 c = M (20 + c) ∧ Z 5 c = M (120 + c)
def frW (Z Z' : Nat → Nat → Int) : Prop := (∀ a, a ≠ 1 → a ≠ 2 → Z' a = Z a) ∧ ∀ j, j ≠ 2 → Z' 1 j = Z 1 j
theorem frW_trans {Z Z' Z'' : Nat → Nat → Int} (h1 : frW Z Z') (h2 : frW Z' Z'') : frW Z Z'' := ⟨fun a b1 b2 => by rw [h2.1 a b1 b2, h1.1 a b1 b2], fun j hj => by rw [h2.2 j hj, h1.2 j hj]⟩
theorem c_dr1 (H : sm_sh Rf K) {M : Nat → Int} (hs : szN M) (hp : ∀ c, c < 100 → M (120 + c) = 0 ∨ M (120 + c) = 1) (x y : Nat) (hx : (x : Int) < M 0) (hy : (y : Int) < M 1) (hr : rDr Z M) (l3 : Option sm_V) : ∃ Z' l3', rDr Z' (dr1 M (10 * y + x)) ∧ frW Z Z' ∧ ∀ Q, sm_wp (d + 1) 18 12 [some (.inr (some 1)), some (.inl (y : Int)), some (.inl (x : Int)), l3] [] (Z, Rf, K, n, z) Q = sm_wp (d + 1) 18 12 [some (.inr (some 1)), some (.inl (y : Int)), some (.inl ((x + 1 : Nat) : Int)), l3'] [] (Z', Rf, K, n, z) Q := by
  unfold szN at hs
  have hi : isC (M 0) (M 1) ((10 * y + x : Nat) : Int) = true := by simp only [isC, decide_eq_true_eq]; omega
  have hpc := hp (10 * y + x) (by omega)
  have ec : (y : Int) * 10 + (x : Int) = ((10 * y + x : Nat) : Int) := by omega
  have h5 := (hr.2 (10 * y + x) (by omega)).2
  refine ⟨sm_u (sm_u Z 1 2 (1664525 * M 2 + 1013904223)) 2 (10 * y + x) (sm_rem (sm_ushr (1664525 * M 2 + 1013904223) 8) (if M (120 + (10 * y + x)) = 1 then 40 else 10)), some (.inl ((10 * y + x : Nat) : Int)), ?_, ⟨fun a h1 h2 => by rw [sm_u_row h2, sm_u_row h1], fun j hj => by rw [sm_u_ne (by decide), sm_u_eq, if_neg hj]⟩, fun Q => ?_⟩
  · unfold dr1
    rw [if_pos hi]
    generalize sm_rem (sm_ushr (1664525 * M 2 + 1013904223) 8) (if M (120 + (10 * y + x)) = 1 then 40 else 10) = V
    refine ⟨?_, fun c hc => ⟨?_, ?_⟩⟩
    · rw [sm_u_row (show (1 : Nat) ≠ 2 by decide), sm_u_eq, if_neg (by decide), sm_u_eq, if_neg (by decide), sm_u_self]
      unfold mU
      rw [if_neg (show ¬ (0 : Nat) = 20 + (10 * y + x) by omega), if_neg (show ¬ (0 : Nat) = 2 by omega), if_neg (show ¬ (1 : Nat) = 20 + (10 * y + x) by omega), if_neg (show ¬ (1 : Nat) = 2 by omega), if_neg (show ¬ (2 : Nat) = 20 + (10 * y + x) by omega), if_pos rfl]
      exact ⟨hr.1.1, hr.1.2.1, rfl⟩
    · rw [sm_u_eq, sm_u_ne (show (2 : Nat) ≠ 1 by decide)]
      unfold mU
      by_cases h : c = 10 * y + x
      · rw [if_pos h, if_pos (by omega)]
      · rw [if_neg h, if_neg (by omega), if_neg (by omega)]
        exact (hr.2 c hc).1
    · rw [sm_u_ne (show (5 : Nat) ≠ 2 by decide), sm_u_ne (show (5 : Nat) ≠ 1 by decide)]
      unfold mU
      rw [if_neg (show ¬ 120 + c = 20 + (10 * y + x) by omega), if_neg (show ¬ 120 + c = 2 by omega)]
      exact (hr.2 c hc).2
  · rw [b18_12, kk_1 H, hr.1.1, wr_id (by omega) (by omega), wr_id (by omega) (by omega), if_neg (by omega)]
    simp only [true_and]
    rw [b18_20, kk_1 H, rr_1_4 H, rr_1_7 H, ec]
    simp (disch := omega) only [wr_id, wr_b2i, wr_wr, b2i_eq0, b2i_eq1, b2i_01, sm_rem_eq, sm_div_eq, wl_m2, wl_m1, wl_0, wl_1, wl_2, wl_3, wl_4, wl_5, wl_6, wl_7, wl_8, wl_9, wl_10, wl_12, wl_13, wl_14, wl_16, wl_20, wl_21, wl_22, wl_23, wl_32, wl_36, wl_40, wl_41, wl_42, wl_43, wl_44, wl_45, wl_46, wl_47, wl_48, wl_57, wl_59, wl_60, wl_61, wl_62, wl_65, wl_90, wl_97, wl_99, wl_100, wl_121, wl_122, wl_140, wl_142, wl_143, wl_145, wl_147, wl_160, wl_161, wl_162, wl_242, wl_380, wl_400, wl_420, wl_820, wl_1340, wl_5480, wl_9999, true_and, and_true, true_or, or_true, if_true, if_false, and_self, or_self, false_and, and_false, false_or, or_false, not_true_eq_false, not_false_eq_true, Int.reduceEq, Int.reduceLT, Int.reduceLE, Int.reduceToNat, Int.reduceAdd, Int.reduceMul, Int.reduceSub, Int.reduceMod, Int.reduceDiv, Int.reduceNeg, Nat.reduceEqDiff, sm_rd_ok, sm_rd_ok2, sm_wt_ok, sm_cp_ok, Option.isSome_some, Option.getD_some, w_cont, Option.toList_some, Option.toList_none, List.cons_append, List.nil_append, kk_5 H, Int.toNat_natCast, h5]
    by_cases hq : M (120 + (10 * y + x)) = 1
    · rw [if_neg (by omega), b18_42, b18_49, kk_1 H, c_draw H (Or.inl rfl), w_cont, hr.1.2.2, if_pos hq]
      simp only [wr_id, wr_b2i, wr_wr, b2i_eq0, b2i_eq1, b2i_01, sm_rem_eq, sm_div_eq, wl_m2, wl_m1, wl_0, wl_1, wl_2, wl_3, wl_4, wl_5, wl_6, wl_7, wl_8, wl_9, wl_10, wl_12, wl_13, wl_14, wl_16, wl_20, wl_21, wl_22, wl_23, wl_32, wl_36, wl_40, wl_41, wl_42, wl_43, wl_44, wl_45, wl_46, wl_47, wl_48, wl_57, wl_59, wl_60, wl_61, wl_62, wl_65, wl_90, wl_97, wl_99, wl_100, wl_121, wl_122, wl_140, wl_142, wl_143, wl_145, wl_147, wl_160, wl_161, wl_162, wl_242, wl_380, wl_400, wl_420, wl_820, wl_1340, wl_5480, wl_9999, true_and, and_true, true_or, or_true, if_true, if_false, and_self, or_self, false_and, and_false, false_or, or_false, not_true_eq_false, not_false_eq_true, Int.reduceEq, Int.reduceLT, Int.reduceLE, Int.reduceToNat, Int.reduceAdd, Int.reduceMul, Int.reduceSub, Int.reduceMod, Int.reduceDiv, Int.reduceNeg, Nat.reduceEqDiff, sm_rd_ok, sm_rd_ok2, sm_wt_ok, sm_cp_ok, Option.isSome_some, Option.getD_some, w_cont, Option.toList_some, Option.toList_none, List.cons_append, List.nil_append]
      rw [b18_52]
      simp (disch := omega) only [wr_id, wr_b2i, wr_wr, b2i_eq0, b2i_eq1, b2i_01, sm_rem_eq, sm_div_eq, wl_m2, wl_m1, wl_0, wl_1, wl_2, wl_3, wl_4, wl_5, wl_6, wl_7, wl_8, wl_9, wl_10, wl_12, wl_13, wl_14, wl_16, wl_20, wl_21, wl_22, wl_23, wl_32, wl_36, wl_40, wl_41, wl_42, wl_43, wl_44, wl_45, wl_46, wl_47, wl_48, wl_57, wl_59, wl_60, wl_61, wl_62, wl_65, wl_90, wl_97, wl_99, wl_100, wl_121, wl_122, wl_140, wl_142, wl_143, wl_145, wl_147, wl_160, wl_161, wl_162, wl_242, wl_380, wl_400, wl_420, wl_820, wl_1340, wl_5480, wl_9999, true_and, and_true, true_or, or_true, if_true, if_false, and_self, or_self, false_and, and_false, false_or, or_false, not_true_eq_false, not_false_eq_true, Int.reduceEq, Int.reduceLT, Int.reduceLE, Int.reduceToNat, Int.reduceAdd, Int.reduceMul, Int.reduceSub, Int.reduceMod, Int.reduceDiv, Int.reduceNeg, Nat.reduceEqDiff, sm_rd_ok, sm_rd_ok2, sm_wt_ok, sm_cp_ok, Option.isSome_some, Option.getD_some, w_cont, Option.toList_some, Option.toList_none, List.cons_append, List.nil_append, kk_2 H, Int.toNat_natCast]
      rfl
    · rw [if_pos (by omega), b18_47, b18_49, kk_1 H, c_draw H (Or.inr rfl), w_cont, hr.1.2.2, if_neg hq]
      simp only [wr_id, wr_b2i, wr_wr, b2i_eq0, b2i_eq1, b2i_01, sm_rem_eq, sm_div_eq, wl_m2, wl_m1, wl_0, wl_1, wl_2, wl_3, wl_4, wl_5, wl_6, wl_7, wl_8, wl_9, wl_10, wl_12, wl_13, wl_14, wl_16, wl_20, wl_21, wl_22, wl_23, wl_32, wl_36, wl_40, wl_41, wl_42, wl_43, wl_44, wl_45, wl_46, wl_47, wl_48, wl_57, wl_59, wl_60, wl_61, wl_62, wl_65, wl_90, wl_97, wl_99, wl_100, wl_121, wl_122, wl_140, wl_142, wl_143, wl_145, wl_147, wl_160, wl_161, wl_162, wl_242, wl_380, wl_400, wl_420, wl_820, wl_1340, wl_5480, wl_9999, true_and, and_true, true_or, or_true, if_true, if_false, and_self, or_self, false_and, and_false, false_or, or_false, not_true_eq_false, not_false_eq_true, Int.reduceEq, Int.reduceLT, Int.reduceLE, Int.reduceToNat, Int.reduceAdd, Int.reduceMul, Int.reduceSub, Int.reduceMod, Int.reduceDiv, Int.reduceNeg, Nat.reduceEqDiff, sm_rd_ok, sm_rd_ok2, sm_wt_ok, sm_cp_ok, Option.isSome_some, Option.getD_some, w_cont, Option.toList_some, Option.toList_none, List.cons_append, List.nil_append]
      rw [b18_52]
      simp (disch := omega) only [wr_id, wr_b2i, wr_wr, b2i_eq0, b2i_eq1, b2i_01, sm_rem_eq, sm_div_eq, wl_m2, wl_m1, wl_0, wl_1, wl_2, wl_3, wl_4, wl_5, wl_6, wl_7, wl_8, wl_9, wl_10, wl_12, wl_13, wl_14, wl_16, wl_20, wl_21, wl_22, wl_23, wl_32, wl_36, wl_40, wl_41, wl_42, wl_43, wl_44, wl_45, wl_46, wl_47, wl_48, wl_57, wl_59, wl_60, wl_61, wl_62, wl_65, wl_90, wl_97, wl_99, wl_100, wl_121, wl_122, wl_140, wl_142, wl_143, wl_145, wl_147, wl_160, wl_161, wl_162, wl_242, wl_380, wl_400, wl_420, wl_820, wl_1340, wl_5480, wl_9999, true_and, and_true, true_or, or_true, if_true, if_false, and_self, or_self, false_and, and_false, false_or, or_false, not_true_eq_false, not_false_eq_true, Int.reduceEq, Int.reduceLT, Int.reduceLE, Int.reduceToNat, Int.reduceAdd, Int.reduceMul, Int.reduceSub, Int.reduceMod, Int.reduceDiv, Int.reduceNeg, Nat.reduceEqDiff, sm_rd_ok, sm_rd_ok2, sm_wt_ok, sm_cp_ok, Option.isSome_some, Option.getD_some, w_cont, Option.toList_some, Option.toList_none, List.cons_append, List.nil_append, kk_2 H, Int.toNat_natCast]
      rfl
theorem dr1_sz {M : Nat → Int} {c : Nat} (hc : c < 100) : dr1 M c 0 = M 0 ∧ dr1 M c 1 = M 1 := ⟨dr1_o hc (by omega), dr1_o hc (by omega)⟩
theorem c_dr_row (H : sm_sh Rf K) (y : Nat) : ∀ (k x : Nat) (M : Nat → Int) (Z : Nat → Nat → Int) (l3 : Option sm_V), szN M → (∀ c, c < 100 → M (120 + c) = 0 ∨ M (120 + c) = 1) → (y : Int) < M 1 → ((x + k : Nat) : Int) = M 0 → rDr Z M → ∃ Z' l3', rDr Z' (drR k (10 * y + x) M) ∧ frW Z Z' ∧ ∀ Q, sm_wp (d + 1) 18 12 [some (.inr (some 1)), some (.inl (y : Int)), some (.inl (x : Int)), l3] [] (Z, Rf, K, n, z) Q = sm_wp (d + 1) 18 59 [some (.inr (some 1)), some (.inl (y : Int)), some (.inl (M 0)), l3'] [] (Z', Rf, K, n, z) Q := by
  intro k
  induction k with
  | zero =>
    intro x M Z l3 hs hp hy hxk hr
    refine ⟨Z, l3, hr, ⟨fun _ _ _ => rfl, fun _ _ => rfl⟩, fun Q => ?_⟩
    have hx : (x : Int) = M 0 := by omega
    rw [b18_12, kk_1 H, hr.1.1, hx, if_pos (Int.le_refl _)]
    simp only [true_and]
  | succ k ih =>
    intro x M Z l3 hs hp hy hxk hr
    have hs' := hs
    unfold szN at hs'
    obtain ⟨Z1, l3a, g1, g2, g3⟩ := c_dr1 (d := d) (n := n) (z := z) H hs hp x y (by omega) hy hr l3
    obtain ⟨e0, e1⟩ := dr1_sz (M := M) (c := 10 * y + x) (by omega)
    obtain ⟨Z2, l3b, f1, f2, f3⟩ := ih (x + 1) (dr1 M (10 * y + x)) Z1 l3a (by unfold szN; rw [e0, e1]; exact hs') (fun c hc => by rw [dr1_o (by omega) (by omega)]; exact hp c hc) (by rw [e1]; exact hy) (by rw [e0]; omega) g1
    rw [e0] at f3
    refine ⟨Z2, l3b, f1, frW_trans g2 f2, fun Q => ?_⟩
    rw [g3, f3]
theorem c_dr_rows (H : sm_sh Rf K) : ∀ (k y : Nat) (M : Nat → Int) (Z : Nat → Nat → Int) (l2 l3 : Option sm_V), szN M → (∀ c, c < 100 → M (120 + c) = 0 ∨ M (120 + c) = 1) → ((y + k : Nat) : Int) = M 1 → rDr Z M → ∃ Z', rDr Z' (drR (10 * k) (10 * y) M) ∧ frW Z Z' ∧ ∀ Q, sm_wp (d + 1) 18 2 [some (.inr (some 1)), some (.inl (y : Int)), l2, l3] [] (Z, Rf, K, n, z) Q = Q none (Z', Rf, K, n, z) := by
  intro k
  induction k with
  | zero =>
    intro y M Z l2 l3 hs hp hyk hr
    refine ⟨Z, hr, ⟨fun _ _ _ => rfl, fun _ _ => rfl⟩, fun Q => ?_⟩
    have hy : (y : Int) = M 1 := by omega
    rw [b18_2, kk_1 H, hr.1.2.1, hy, if_pos (Int.le_refl _), b18_65]
    simp only [true_and]
  | succ k ih =>
    intro y M Z l2 l3 hs hp hyk hr
    have hs' := hs
    unfold szN at hs'
    obtain ⟨Z1, l3a, g1, g2, g3⟩ := c_dr_row (d := d) (n := n) (z := z) H y (M 0).toNat 0 M Z l3 hs hp (by omega) (by omega) hr
    have o := drR_o (M 0).toNat (10 * y + 0) M (by omega)
    have e10 : drR 10 (10 * y) M = drR (M 0).toNat (10 * y + 0) M := by
      have := drR_add (M 0).toNat (10 - (M 0).toNat) (10 * y) M
      rw [show (M 0).toNat + (10 - (M 0).toNat) = 10 by omega] at this
      rw [this]
      refine drR_skip _ _ _ (fun j h1 h2 => ?_)
      have o0 := o 0 (by omega)
      have o1 := o 1 (by omega)
      rw [Nat.add_zero] at o0 o1
      rw [o0, o1]
      simp only [isC, decide_eq_true_eq]
      omega
    obtain ⟨Z2, f1, f2, f3⟩ := ih (y + 1) _ Z1 (some (.inl (M 0))) l3a (by unfold szN; rw [o 0 (by omega), o 1 (by omega)]; exact hs') (fun c hc => by rw [o _ (by omega)]; exact hp c hc) (by rw [o 1 (by omega)]; omega) g1
    refine ⟨Z2, ?_, frW_trans g2 f2, fun Q => ?_⟩
    · rw [show 10 * (k + 1) = 10 + 10 * k by omega, drR_add, e10]
      exact f1
    · rw [b18_2, kk_1 H, hr.1.2.1, wr_id (by omega) (by omega), wr_id (by omega) (by omega), if_neg (by omega), b18_10]
      simp only [true_and]
      refine (g3 Q).trans ?_
      rw [b18_59]
      exact f3 Q
theorem c_drawFlies (H : sm_sh Rf K) {M : Nat → Int} (hs : szN M) (hp : ∀ c, c < 100 → M (120 + c) = 0 ∨ M (120 + c) = 1) (hr : rDr Z M) : ∃ Z', rDr Z' (drR 100 0 M) ∧ frW Z Z' ∧ ∀ Q, sm_call (d + 1) 18 [.inr (some 1)] (Z, Rf, K, n, z) Q = Q none (Z', Rf, K, n, z) := by
  have hs' := hs
  unfold szN at hs'
  obtain ⟨Z1, g1, g2, g3⟩ := c_dr_rows (d := d) (n := n) (z := z) H (M 1).toNat 0 M Z none none hs hp (by omega) hr
  have o := drR_o (10 * (M 1).toNat) 0 M (by omega)
  have e : drR 100 0 M = drR (10 * (M 1).toNat) (10 * 0) M := by
    have := drR_add (10 * (M 1).toNat) (100 - 10 * (M 1).toNat) 0 M
    rw [show 10 * (M 1).toNat + (100 - 10 * (M 1).toNat) = 100 by omega] at this
    rw [this]
    refine drR_skip _ _ _ (fun j h1 h2 => ?_)
    rw [o 0 (by omega), o 1 (by omega)]
    simp only [isC, decide_eq_true_eq]
    omega
  refine ⟨Z1, by rw [e]; exact g1, g2, fun Q => ?_⟩
  rw [ce18, b18_0]
  exact g3 Q
theorem m_dr_loop (H : sm_sh Rf K) : ∀ (k c : Nat) (M : Nat → Int) (Z : Nat → Nat → Int), c + k = 100 → Z 80 = M → szN M → (∀ c, c < 100 → M (120 + c) = 0 ∨ M (120 + c) = 1) → ∀ Q, sm_wp (d + 3) 176 16 [some (.inr (some 79)), some (.inl (c : Int))] [] (Z, Rf, K, n, z) Q = sm_wp (d + 3) 176 69 [some (.inr (some 79)), some (.inl 100)] [] (sm_r Z 80 (drR k c M), Rf, K, n, z) Q := by
  intro k
  induction k with
  | zero =>
    intro c M Z hck hM hs hp Q
    have : c = 100 := by omega
    subst this
    have e : sm_r Z 80 M = Z := by
      funext a j
      unfold sm_r
      split
      · rename_i ha; rw [ha, hM]
      · rfl
    rw [b176_16, wr_id (by omega) (by omega), if_pos (by omega)]
    show _ = sm_wp (d + 3) 176 69 _ _ (sm_r Z 80 M, Rf, K, n, z) Q
    rw [e]
    rfl
  | succ k ih =>
    intro c M Z hck hM hs hp Q
    have hs' := hs
    unfold szN at hs'
    have hszM : szM Z := by subst hM; exact hs
    have hpc := hp c (by omega)
    have n1 : (120 + (c : Int)).toNat = 120 + c := by omega
    have n2 : (20 + (c : Int)).toNat = 20 + c := by omega
    rw [b176_16, wr_id (by omega) (by omega), if_neg (by omega), b176_22, kk_79 H, m_isCell H hszM ⟨by omega, by omega⟩, w_cont, hM]
    simp only [wr_id, wr_b2i, wr_wr, b2i_eq0, b2i_eq1, b2i_01, sm_rem_eq, sm_div_eq, wl_m2, wl_m1, wl_0, wl_1, wl_2, wl_3, wl_4, wl_5, wl_6, wl_7, wl_8, wl_9, wl_10, wl_12, wl_13, wl_14, wl_16, wl_20, wl_21, wl_22, wl_23, wl_32, wl_36, wl_40, wl_41, wl_42, wl_43, wl_44, wl_45, wl_46, wl_47, wl_48, wl_57, wl_59, wl_60, wl_61, wl_62, wl_65, wl_90, wl_97, wl_99, wl_100, wl_121, wl_122, wl_140, wl_142, wl_143, wl_145, wl_147, wl_160, wl_161, wl_162, wl_242, wl_380, wl_400, wl_420, wl_820, wl_1340, wl_5480, wl_9999, true_and, and_true, true_or, or_true, if_true, if_false, and_self, or_self, false_and, and_false, false_or, or_false, not_true_eq_false, not_false_eq_true, Int.reduceEq, Int.reduceLT, Int.reduceLE, Int.reduceToNat, Int.reduceAdd, Int.reduceMul, Int.reduceSub, Int.reduceMod, Int.reduceDiv, Int.reduceNeg, Nat.reduceEqDiff, sm_rd_ok, sm_rd_ok2, sm_wt_ok, sm_cp_ok, Option.isSome_some, Option.getD_some, w_cont, Option.toList_some, Option.toList_none, List.cons_append, List.nil_append]
    rw [b176_27]
    simp only [wr_id, wr_b2i, wr_wr, b2i_eq0, b2i_eq1, b2i_01, sm_rem_eq, sm_div_eq, wl_m2, wl_m1, wl_0, wl_1, wl_2, wl_3, wl_4, wl_5, wl_6, wl_7, wl_8, wl_9, wl_10, wl_12, wl_13, wl_14, wl_16, wl_20, wl_21, wl_22, wl_23, wl_32, wl_36, wl_40, wl_41, wl_42, wl_43, wl_44, wl_45, wl_46, wl_47, wl_48, wl_57, wl_59, wl_60, wl_61, wl_62, wl_65, wl_90, wl_97, wl_99, wl_100, wl_121, wl_122, wl_140, wl_142, wl_143, wl_145, wl_147, wl_160, wl_161, wl_162, wl_242, wl_380, wl_400, wl_420, wl_820, wl_1340, wl_5480, wl_9999, true_and, and_true, true_or, or_true, if_true, if_false, and_self, or_self, false_and, and_false, false_or, or_false, not_true_eq_false, not_false_eq_true, Int.reduceEq, Int.reduceLT, Int.reduceLE, Int.reduceToNat, Int.reduceAdd, Int.reduceMul, Int.reduceSub, Int.reduceMod, Int.reduceDiv, Int.reduceNeg, Nat.reduceEqDiff, sm_rd_ok, sm_rd_ok2, sm_wt_ok, sm_cp_ok, Option.isSome_some, Option.getD_some, w_cont, Option.toList_some, Option.toList_none, List.cons_append, List.nil_append]
    by_cases hi : isC (M 0) (M 1) (c : Int) = true
    · rw [if_neg (by rw [hi]; decide), b176_30, kk_79 H, rr_79_0 H]
      simp (disch := omega) only [wr_id, wr_b2i, wr_wr, b2i_eq0, b2i_eq1, b2i_01, sm_rem_eq, sm_div_eq, wl_m2, wl_m1, wl_0, wl_1, wl_2, wl_3, wl_4, wl_5, wl_6, wl_7, wl_8, wl_9, wl_10, wl_12, wl_13, wl_14, wl_16, wl_20, wl_21, wl_22, wl_23, wl_32, wl_36, wl_40, wl_41, wl_42, wl_43, wl_44, wl_45, wl_46, wl_47, wl_48, wl_57, wl_59, wl_60, wl_61, wl_62, wl_65, wl_90, wl_97, wl_99, wl_100, wl_121, wl_122, wl_140, wl_142, wl_143, wl_145, wl_147, wl_160, wl_161, wl_162, wl_242, wl_380, wl_400, wl_420, wl_820, wl_1340, wl_5480, wl_9999, true_and, and_true, true_or, or_true, if_true, if_false, and_self, or_self, false_and, and_false, false_or, or_false, not_true_eq_false, not_false_eq_true, Int.reduceEq, Int.reduceLT, Int.reduceLE, Int.reduceToNat, Int.reduceAdd, Int.reduceMul, Int.reduceSub, Int.reduceMod, Int.reduceDiv, Int.reduceNeg, Nat.reduceEqDiff, sm_rd_ok, sm_rd_ok2, sm_wt_ok, sm_cp_ok, Option.isSome_some, Option.getD_some, w_cont, Option.toList_some, Option.toList_none, List.cons_append, List.nil_append, kk_80 H, n1, hM]
      have fin : ∀ m : Int, m = (if M (120 + c) = 1 then 40 else 10) → sm_wp (d + 3) 176 59 [some (.inr (some 79)), some (.inl (c : Int))] [.inl m, .inr (some 79), .inl (20 + (c : Int)), .inr (some 80)] (Z, Rf, K, n, z) Q = sm_wp (d + 3) 176 69 [some (.inr (some 79)), some (.inl 100)] [] (sm_r Z 80 (drR (k + 1) c M), Rf, K, n, z) Q := by
        intro m hm
        have hm2 : m = 40 ∨ m = 10 := by rw [hm]; split <;> omega
        rw [b176_59, kk_79 H, m_draw H hm2, w_cont, hM]
        simp only [wr_id, wr_b2i, wr_wr, b2i_eq0, b2i_eq1, b2i_01, sm_rem_eq, sm_div_eq, wl_m2, wl_m1, wl_0, wl_1, wl_2, wl_3, wl_4, wl_5, wl_6, wl_7, wl_8, wl_9, wl_10, wl_12, wl_13, wl_14, wl_16, wl_20, wl_21, wl_22, wl_23, wl_32, wl_36, wl_40, wl_41, wl_42, wl_43, wl_44, wl_45, wl_46, wl_47, wl_48, wl_57, wl_59, wl_60, wl_61, wl_62, wl_65, wl_90, wl_97, wl_99, wl_100, wl_121, wl_122, wl_140, wl_142, wl_143, wl_145, wl_147, wl_160, wl_161, wl_162, wl_242, wl_380, wl_400, wl_420, wl_820, wl_1340, wl_5480, wl_9999, true_and, and_true, true_or, or_true, if_true, if_false, and_self, or_self, false_and, and_false, false_or, or_false, not_true_eq_false, not_false_eq_true, Int.reduceEq, Int.reduceLT, Int.reduceLE, Int.reduceToNat, Int.reduceAdd, Int.reduceMul, Int.reduceSub, Int.reduceMod, Int.reduceDiv, Int.reduceNeg, Nat.reduceEqDiff, sm_rd_ok, sm_rd_ok2, sm_wt_ok, sm_cp_ok, Option.isSome_some, Option.getD_some, w_cont, Option.toList_some, Option.toList_none, List.cons_append, List.nil_append]
        rw [b176_62]
        simp (disch := omega) only [wr_id, wr_b2i, wr_wr, b2i_eq0, b2i_eq1, b2i_01, sm_rem_eq, sm_div_eq, wl_m2, wl_m1, wl_0, wl_1, wl_2, wl_3, wl_4, wl_5, wl_6, wl_7, wl_8, wl_9, wl_10, wl_12, wl_13, wl_14, wl_16, wl_20, wl_21, wl_22, wl_23, wl_32, wl_36, wl_40, wl_41, wl_42, wl_43, wl_44, wl_45, wl_46, wl_47, wl_48, wl_57, wl_59, wl_60, wl_61, wl_62, wl_65, wl_90, wl_97, wl_99, wl_100, wl_121, wl_122, wl_140, wl_142, wl_143, wl_145, wl_147, wl_160, wl_161, wl_162, wl_242, wl_380, wl_400, wl_420, wl_820, wl_1340, wl_5480, wl_9999, true_and, and_true, true_or, or_true, if_true, if_false, and_self, or_self, false_and, and_false, false_or, or_false, not_true_eq_false, not_false_eq_true, Int.reduceEq, Int.reduceLT, Int.reduceLE, Int.reduceToNat, Int.reduceAdd, Int.reduceMul, Int.reduceSub, Int.reduceMod, Int.reduceDiv, Int.reduceNeg, Nat.reduceEqDiff, sm_rd_ok, sm_rd_ok2, sm_wt_ok, sm_cp_ok, Option.isSome_some, Option.getD_some, w_cont, Option.toList_some, Option.toList_none, List.cons_append, List.nil_append, kk_80 H, n2]
        rw [b176_63, show (c : Int) + 1 = ((c + 1 : Nat) : Int) by omega]
        have eM : sm_u (sm_u Z 80 2 (1664525 * M 2 + 1013904223)) 80 (20 + c) (sm_rem (sm_ushr (1664525 * M 2 + 1013904223) 8) m) 80 = dr1 M c := by
          rw [sm_u_mU, sm_u_mU, hM]
          unfold dr1
          rw [if_pos hi, ← hm]
        obtain ⟨e0, e1⟩ := dr1_sz (M := M) (c := c) (by omega)
        rw [ih (c + 1) _ _ (by omega) eM (by unfold szN; rw [e0, e1]; exact hs') (fun j hj => by rw [dr1_o (by omega) (by omega)]; exact hp j hj)]
        congr 2
        funext a j
        unfold sm_u sm_r
        by_cases ha : a = 80
        · simp only [ha, if_true]
          rfl
        · simp [ha]
      by_cases hq : M (120 + c) = 1
      · rw [if_pos hq, b176_52]
        exact fin 40 (by rw [if_pos hq])
      · rw [if_neg hq, b176_57]
        exact fin 10 (by rw [if_neg hq])
    · rw [if_pos (Bool.eq_false_iff.2 hi), b176_63, show (c : Int) + 1 = ((c + 1 : Nat) : Int) by omega, ih (c + 1) M Z (by omega) hM hs hp]
      have e : dr1 M c = M := by
        unfold dr1
        rw [if_neg hi]
      simp only [drR]
      rw [e]
end SPRING
