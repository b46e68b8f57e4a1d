/-! A text in the model. -/
def nxt (k L N : Nat) (j : Nat) : Prop := ¬ (1990 + 16 * k ≤ j ∧ j < 1990 + 16 * k + L) ∧ ¬ (2060 + 16 * k ≤ j ∧ j < 2060 + 16 * k + L) ∧ ¬ (2130 + 16 * k ≤ j ∧ j < 2130 + 16 * k + L) ∧ ¬ (2200 + 820 * k ≤ j ∧ j < 2200 + 820 * k + N)
section MTEXT
variable {d n z : Nat} {Rf : Nat → Nat → Option Nat} {K : Nat → Nat × Nat} {T : Nat → Int} {len : Nat}
theorem m_copyL (H : sm_sh Rf K) {k L : Nat} (hk : k < 4) (hL : L ≤ 16) (l2 : Option sm_V) : ∀ (f i : Nat) (Z : Nat → Nat → Int), i + f = L → Z 79 12 = (L : Int) → ∃ Z', (∀ a, a ≠ 80 → Z' a = Z a) ∧ (∀ j, nxt k L 0 j → Z' 80 j = Z 80 j) ∧ (∀ j, j < i → Z' 80 (1990 + 16 * k + j) = Z 80 (1990 + 16 * k + j) ∧ Z' 80 (2060 + 16 * k + j) = Z 80 (2060 + 16 * k + j) ∧ Z' 80 (2130 + 16 * k + j) = Z 80 (2130 + 16 * k + j)) ∧ (∀ j, i ≤ j → j < L → Z' 80 (1990 + 16 * k + j) = Z 84 (3 * j) ∧ Z' 80 (2060 + 16 * k + j) = Z 84 (3 * j + 1) ∧ Z' 80 (2130 + 16 * k + j) = Z 84 (3 * j + 2)) ∧ ∃ l3, ∀ Q, sm_wp (d + 1) 156 140 [some (.inr (some 79)), some (.inl (k : Int)), l2, some (.inl (i : Int))] [] (Z, Rf, K, n, z) Q = sm_wp (d + 1) 156 227 [some (.inr (some 79)), some (.inl (k : Int)), l2, l3] [] (Z', Rf, K, n, z) Q := by
  intro f
  induction f with
  | zero =>
    intro i Z hi h12
    refine ⟨Z, fun _ _ => rfl, fun _ _ => rfl, fun _ _ => ⟨rfl, rfl, rfl⟩, fun j h1 h2 => by omega, some (.inl (i : Int)), fun Q => ?_⟩
    rw [b156_140, kk_79 H, h12]
    simp (disch := omega) only [wr_id, wr_b2i, wr_wr, b2i_eq0, b2i_eq1, b2i_01, sm_rem_eq, sm_div_eq, wl_m2, wl_m1, wl_0, wl_1, wl_2, wl_3, wl_4, wl_5, wl_6, wl_7, wl_8, wl_9, wl_10, wl_12, wl_13, wl_14, wl_16, wl_20, wl_21, wl_22, wl_23, wl_32, wl_36, wl_40, wl_41, wl_42, wl_43, wl_44, wl_45, wl_46, wl_47, wl_48, wl_57, wl_59, wl_60, wl_61, wl_62, wl_65, wl_90, wl_97, wl_99, wl_100, wl_121, wl_122, wl_140, wl_142, wl_143, wl_145, wl_147, wl_160, wl_161, wl_162, wl_242, wl_380, wl_400, wl_420, wl_820, wl_1340, wl_5480, wl_9999, true_and, and_true, true_or, or_true, if_true, if_false, and_self, or_self, false_and, and_false, false_or, or_false, not_true_eq_false, not_false_eq_true, Int.reduceEq, Int.reduceLT, Int.reduceLE, Int.reduceToNat, Int.reduceAdd, Int.reduceMul, Int.reduceSub, Int.reduceMod, Int.reduceDiv, Int.reduceNeg, Nat.reduceEqDiff, sm_rd_ok, sm_rd_ok2, sm_wt_ok, sm_cp_ok, Option.isSome_some, Option.getD_some, w_cont, Option.toList_some, Option.toList_none, List.cons_append, List.nil_append]
    rw [if_pos (by omega)]
  | succ f ih =>
    intro i Z hi h12
    have n1 : (1990 + 16 * (k : Int) + (i : Int)).toNat = 1990 + 16 * k + i := by omega
    have n2 : (2060 + 16 * (k : Int) + (i : Int)).toNat = 2060 + 16 * k + i := by omega
    have n3 : (2130 + 16 * (k : Int) + (i : Int)).toNat = 2130 + 16 * k + i := by omega
    have n4 : (3 * (i : Int)).toNat = 3 * i := by omega
    have n5 : (3 * (i : Int) + 1).toNat = 3 * i + 1 := by omega
    have n6 : (3 * (i : Int) + 2).toNat = 3 * i + 2 := by omega
    obtain ⟨Z1, hZ1⟩ : ∃ Z1, Z1 = sm_u (sm_u (sm_u Z 80 (1990 + 16 * k + i) (Z 84 (3 * i))) 80 (2060 + 16 * k + i) (Z 84 (3 * i + 1))) 80 (2130 + 16 * k + i) (Z 84 (3 * i + 2)) := ⟨_, rfl⟩
    have e80 : ∀ j, Z1 80 j = if j = 2130 + 16 * k + i then Z 84 (3 * i + 2) else if j = 2060 + 16 * k + i then Z 84 (3 * i + 1) else if j = 1990 + 16 * k + i then Z 84 (3 * i) else Z 80 j := by
      intro j
      rw [hZ1, sm_u_eq, sm_u_eq, sm_u_eq]
    have eR : ∀ a, a ≠ 80 → Z1 a = Z a := by
      intro a ha
      rw [hZ1, sm_u_row ha, sm_u_row ha, sm_u_row ha]
    obtain ⟨Z2, a1, a2, a3, a4, l3, a5⟩ := ih (i + 1) Z1 (by omega) (by rw [eR 79 (by decide)]; exact h12)
    refine ⟨Z2, fun a ha => by rw [a1 a ha, eR a ha], fun j hj => ?_, fun j hj => ?_, fun j h1 h2 => ?_, l3, fun Q => ?_⟩
    · rw [a2 j hj, e80, if_neg (by have := hj.2.2.1; omega), if_neg (by have := hj.2.1; omega), if_neg (by have := hj.1; omega)]
    · obtain ⟨b1, b2, b3⟩ := a3 j (by omega)
      rw [b1, b2, b3, e80, e80, e80]
      refine ⟨?_, ?_, ?_⟩
      · rw [if_neg (by omega), if_neg (by omega), if_neg (by omega)]
      · rw [if_neg (by omega), if_neg (by omega), if_neg (by omega)]
      · rw [if_neg (by omega), if_neg (by omega), if_neg (by omega)]
    · by_cases hji : j = i
      · obtain ⟨b1, b2, b3⟩ := a3 j (by omega)
        rw [b1, b2, b3, e80, e80, e80, hji]
        refine ⟨?_, ?_, ?_⟩
        · rw [if_neg (by omega), if_neg (by omega), if_pos rfl]
        · rw [if_neg (by omega), if_pos rfl]
        · rw [if_pos rfl]
      · have := a4 j (by omega) h2
        rw [eR 84 (by decide)] at this
        exact this
    · rw [b156_140, kk_79 H, h12]
      simp (disch := omega) only [wr_id, wr_b2i, wr_wr, b2i_eq0, b2i_eq1, b2i_01, sm_rem_eq, sm_div_eq, wl_m2, wl_m1, wl_0, wl_1, wl_2, wl_3, wl_4, wl_5, wl_6, wl_7, wl_8, wl_9, wl_10, wl_12, wl_13, wl_14, wl_16, wl_20, wl_21, wl_22, wl_23, wl_32, wl_36, wl_40, wl_41, wl_42, wl_43, wl_44, wl_45, wl_46, wl_47, wl_48, wl_57, wl_59, wl_60, wl_61, wl_62, wl_65, wl_90, wl_97, wl_99, wl_100, wl_121, wl_122, wl_140, wl_142, wl_143, wl_145, wl_147, wl_160, wl_161, wl_162, wl_242, wl_380, wl_400, wl_420, wl_820, wl_1340, wl_5480, wl_9999, true_and, and_true, true_or, or_true, if_true, if_false, and_self, or_self, false_and, and_false, false_or, or_false, not_true_eq_false, not_false_eq_true, Int.reduceEq, Int.reduceLT, Int.reduceLE, Int.reduceToNat, Int.reduceAdd, Int.reduceMul, Int.reduceSub, Int.reduceMod, Int.reduceDiv, Int.reduceNeg, Nat.reduceEqDiff, sm_rd_ok, sm_rd_ok2, sm_wt_ok, sm_cp_ok, Option.isSome_some, Option.getD_some, w_cont, Option.toList_some, Option.toList_none, List.cons_append, List.nil_append]
      rw [if_neg (by omega), b156_148, kk_79 H, rr_79_0 H, rr_79_7 H]
      simp (disch := omega) only [wr_id, wr_b2i, wr_wr, b2i_eq0, b2i_eq1, b2i_01, sm_rem_eq, sm_div_eq, wl_m2, wl_m1, wl_0, wl_1, wl_2, wl_3, wl_4, wl_5, wl_6, wl_7, wl_8, wl_9, wl_10, wl_12, wl_13, wl_14, wl_16, wl_20, wl_21, wl_22, wl_23, wl_32, wl_36, wl_40, wl_41, wl_42, wl_43, wl_44, wl_45, wl_46, wl_47, wl_48, wl_57, wl_59, wl_60, wl_61, wl_62, wl_65, wl_90, wl_97, wl_99, wl_100, wl_121, wl_122, wl_140, wl_142, wl_143, wl_145, wl_147, wl_160, wl_161, wl_162, wl_242, wl_380, wl_400, wl_420, wl_820, wl_1340, wl_5480, wl_9999, true_and, and_true, true_or, or_true, if_true, if_false, and_self, or_self, false_and, and_false, false_or, or_false, not_true_eq_false, not_false_eq_true, Int.reduceEq, Int.reduceLT, Int.reduceLE, Int.reduceToNat, Int.reduceAdd, Int.reduceMul, Int.reduceSub, Int.reduceMod, Int.reduceDiv, Int.reduceNeg, Nat.reduceEqDiff, sm_rd_ok, sm_rd_ok2, sm_wt_ok, sm_cp_ok, Option.isSome_some, Option.getD_some, w_cont, Option.toList_some, Option.toList_none, List.cons_append, List.nil_append, kk_80 H, kk_84 H, n1, n2, n3, n4, n5, n6]
      rw [sm_u_row (show (84 : Nat) ≠ 80 by decide), sm_u_row (show (84 : Nat) ≠ 80 by decide), sm_u_row (show (84 : Nat) ≠ 80 by decide), ← hZ1]
      exact a5 Q
theorem m_copyS (H : sm_sh Rf K) {k N : Nat} (hk : k < 4) (hN : N ≤ 400) (l2 : Option sm_V) : ∀ (f i : Nat) (Z : Nat → Nat → Int), i + f = 2 * N → Z 79 13 = (N : Int) → ∃ Z', (∀ a, a ≠ 80 → Z' a = Z a) ∧ (∀ j, ¬ (2200 + 820 * k + i ≤ j ∧ j < 2200 + 820 * k + 2 * N) → Z' 80 j = Z 80 j) ∧ (∀ j, i ≤ j → j < 2 * N → Z' 80 (2200 + 820 * k + j) = Z 85 j) ∧ ∃ l3, ∀ Q, sm_wp (d + 1) 156 229 [some (.inr (some 79)), some (.inl (k : Int)), l2, some (.inl (i : Int))] [] (Z, Rf, K, n, z) Q = sm_wp (d + 1) 156 267 [some (.inr (some 79)), some (.inl (k : Int)), l2, l3] [] (Z', Rf, K, n, z) Q := by
  intro f
  induction f with
  | zero =>
    intro i Z hi h13
    refine ⟨Z, fun _ _ => rfl, fun _ _ => rfl, fun j h1 h2 => by omega, some (.inl (i : Int)), fun Q => ?_⟩
    rw [b156_229, kk_79 H, h13]
    simp (disch := omega) only [wr_id, wr_b2i, wr_wr, b2i_eq0, b2i_eq1, b2i_01, sm_rem_eq, sm_div_eq, wl_m2, wl_m1, wl_0, wl_1, wl_2, wl_3, wl_4, wl_5, wl_6, wl_7, wl_8, wl_9, wl_10, wl_12, wl_13, wl_14, wl_16, wl_20, wl_21, wl_22, wl_23, wl_32, wl_36, wl_40, wl_41, wl_42, wl_43, wl_44, wl_45, wl_46, wl_47, wl_48, wl_57, wl_59, wl_60, wl_61, wl_62, wl_65, wl_90, wl_97, wl_99, wl_100, wl_121, wl_122, wl_140, wl_142, wl_143, wl_145, wl_147, wl_160, wl_161, wl_162, wl_242, wl_380, wl_400, wl_420, wl_820, wl_1340, wl_5480, wl_9999, true_and, and_true, true_or, or_true, if_true, if_false, and_self, or_self, false_and, and_false, false_or, or_false, not_true_eq_false, not_false_eq_true, Int.reduceEq, Int.reduceLT, Int.reduceLE, Int.reduceToNat, Int.reduceAdd, Int.reduceMul, Int.reduceSub, Int.reduceMod, Int.reduceDiv, Int.reduceNeg, Nat.reduceEqDiff, sm_rd_ok, sm_rd_ok2, sm_wt_ok, sm_cp_ok, Option.isSome_some, Option.getD_some, w_cont, Option.toList_some, Option.toList_none, List.cons_append, List.nil_append]
    rw [if_pos (by omega)]
  | succ f ih =>
    intro i Z hi h13
    have n1 : (2200 + 820 * (k : Int) + (i : Int)).toNat = 2200 + 820 * k + i := by omega
    obtain ⟨Z1, hZ1⟩ : ∃ Z1, Z1 = sm_u Z 80 (2200 + 820 * k + i) (Z 85 i) := ⟨_, rfl⟩
    have eR : ∀ a, a ≠ 80 → Z1 a = Z a := by
      intro a ha
      rw [hZ1, sm_u_row ha]
    obtain ⟨Z2, a1, a2, a4, l3, a5⟩ := ih (i + 1) Z1 (by omega) (by rw [eR 79 (by decide)]; exact h13)
    refine ⟨Z2, fun a ha => by rw [a1 a ha, eR a ha], fun j hj => ?_, fun j h1 h2 => ?_, l3, fun Q => ?_⟩
    · rw [a2 j (by omega), hZ1, sm_u_eq, if_neg (by omega)]
    · by_cases hji : j = i
      · rw [a2 _ (by omega), hji, hZ1, sm_u_self]
      · have := a4 j (by omega) h2
        rw [eR 85 (by decide)] at this
        exact this
    · rw [b156_229, kk_79 H, h13]
      simp (disch := omega) only [wr_id, wr_b2i, wr_wr, b2i_eq0, b2i_eq1, b2i_01, sm_rem_eq, sm_div_eq, wl_m2, wl_m1, wl_0, wl_1, wl_2, wl_3, wl_4, wl_5, wl_6, wl_7, wl_8, wl_9, wl_10, wl_12, wl_13, wl_14, wl_16, wl_20, wl_21, wl_22, wl_23, wl_32, wl_36, wl_40, wl_41, wl_42, wl_43, wl_44, wl_45, wl_46, wl_47, wl_48, wl_57, wl_59, wl_60, wl_61, wl_62, wl_65, wl_90, wl_97, wl_99, wl_100, wl_121, wl_122, wl_140, wl_142, wl_143, wl_145, wl_147, wl_160, wl_161, wl_162, wl_242, wl_380, wl_400, wl_420, wl_820, wl_1340, wl_5480, wl_9999, true_and, and_true, true_or, or_true, if_true, if_false, and_self, or_self, false_and, and_false, false_or, or_false, not_true_eq_false, not_false_eq_true, Int.reduceEq, Int.reduceLT, Int.reduceLE, Int.reduceToNat, Int.reduceAdd, Int.reduceMul, Int.reduceSub, Int.reduceMod, Int.reduceDiv, Int.reduceNeg, Nat.reduceEqDiff, sm_rd_ok, sm_rd_ok2, sm_wt_ok, sm_cp_ok, Option.isSome_some, Option.getD_some, w_cont, Option.toList_some, Option.toList_none, List.cons_append, List.nil_append]
      rw [if_neg (by omega), b156_239, kk_79 H, rr_79_0 H, rr_79_8 H]
      simp (disch := omega) only [wr_id, wr_b2i, wr_wr, b2i_eq0, b2i_eq1, b2i_01, sm_rem_eq, sm_div_eq, wl_m2, wl_m1, wl_0, wl_1, wl_2, wl_3, wl_4, wl_5, wl_6, wl_7, wl_8, wl_9, wl_10, wl_12, wl_13, wl_14, wl_16, wl_20, wl_21, wl_22, wl_23, wl_32, wl_36, wl_40, wl_41, wl_42, wl_43, wl_44, wl_45, wl_46, wl_47, wl_48, wl_57, wl_59, wl_60, wl_61, wl_62, wl_65, wl_90, wl_97, wl_99, wl_100, wl_121, wl_122, wl_140, wl_142, wl_143, wl_145, wl_147, wl_160, wl_161, wl_162, wl_242, wl_380, wl_400, wl_420, wl_820, wl_1340, wl_5480, wl_9999, true_and, and_true, true_or, or_true, if_true, if_false, and_self, or_self, false_and, and_false, false_or, or_false, not_true_eq_false, not_false_eq_true, Int.reduceEq, Int.reduceLT, Int.reduceLE, Int.reduceToNat, Int.reduceAdd, Int.reduceMul, Int.reduceSub, Int.reduceMod, Int.reduceDiv, Int.reduceNeg, Nat.reduceEqDiff, sm_rd_ok, sm_rd_ok2, sm_wt_ok, sm_cp_ok, Option.isSome_some, Option.getD_some, w_cont, Option.toList_some, Option.toList_none, List.cons_append, List.nil_append, kk_80 H, kk_85 H, n1, Int.toNat_natCast]
      rw [← hZ1]
      exact a5 Q
/-- a text told to the model, beside what the reader does -/
theorem m_text (H : sm_sh Rf K) {Z : Nat → Nat → Int} (hz : sm_zs Z) (ht : tpM Z T len) {k : Nat} (hk : k < 4) (tn rt : Int) : ∃ Z', (∀ a, a ≠ 79 → a ≠ 80 → a ≠ 84 → a ≠ 85 → Z' a = Z a) ∧ (∀ j, (j < 12 ∨ 23 < j) → Z' 79 j = Z 79 j) ∧ Z' 79 14 = 0 ∧ ((∃ f s, (0 < f ∧ f < 9) ∧ ((rdE T len (len + 1) (spE isBl T len 0) ([], [], 0, 0, tn, 0, 0, rt)).1 = f ∧ (rdE T len (len + 1) (spE isBl T len 0) ([], [], 0, 0, tn, 0, 0, rt)).2.1 = s) ∧ Z' 79 21 = f ∧ Z' 79 23 = (s : Int) ∧ Z' 80 = Z 80 ∧ ∀ Q, sm_call (d + 40) 156 [.inr (some 79), .inl (k : Int)] (Z, Rf, K, n, z) Q = Q (some (.inl (-1))) (Z', Rf, K, n, z)) ∨ ∃ (s L N : Nat) (rc : List Int) (tn' rt' : Int), rdE T len (len + 1) (spE isBl T len 0) ([], [], 0, 0, tn, 0, 0, rt) = (-1, s, rc, [], 0, (L : Int), tn', 0, 0, rt') ∧ Z' 79 21 = 0 ∧ Z' 79 23 = -1 ∧ (∀ j, ¬ j = 1985 + k → nxt k L (2 * N) j → Z' 80 j = Z 80 j) ∧ (L ≤ 16 ∧ N ≤ 400 ∧ rc.length < 400) ∧ (∀ C, stk C rc → ∃ P, wfL (Z' 80) k L P ∧ cdH C (Z' 80) k L P ∧ P L + L = rc.length) ∧ ∀ Q, sm_call (d + 40) 156 [.inr (some 79), .inl (k : Int)] (Z, Rf, K, n, z) Q = Q (some (.inl (L : Int))) (Z', Rf, K, n, z)) := by
  have h4 := ht.2.2.2
  let Z1 := sm_u (sm_u (sm_u (sm_u Z 79 19 0) 79 15 0) 79 12 0) 79 13 0
  have e79 : ∀ j, ¬ j = 19 → ¬ j = 15 → ¬ j = 12 → ¬ j = 13 → Z1 79 j = Z 79 j := by
    intro j q1 q2 q3 q4
    show sm_u (sm_u (sm_u (sm_u Z 79 19 0) 79 15 0) 79 12 0) 79 13 0 79 j = _
    rw [sm_u_eq, if_neg q4, sm_u_eq, if_neg q3, sm_u_eq, if_neg q2, sm_u_eq, if_neg q1]
  have eR : ∀ a, a ≠ 79 → Z1 a = Z a := by
    intro a ha
    show sm_u (sm_u (sm_u (sm_u Z 79 19 0) 79 15 0) 79 12 0) 79 13 0 a = _
    rw [sm_u_row ha, sm_u_row ha, sm_u_row ha, sm_u_row ha]
  have z12 : Z1 79 12 = 0 := by
    show sm_u (sm_u (sm_u (sm_u Z 79 19 0) 79 15 0) 79 12 0) 79 13 0 79 12 = _
    rw [sm_u_eq, if_neg (by decide), sm_u_self]
  have z13 : Z1 79 13 = 0 := sm_u_self
  have z15 : Z1 79 15 = ((0 : Nat) : Int) := by
    show sm_u (sm_u (sm_u (sm_u Z 79 19 0) 79 15 0) 79 12 0) 79 13 0 79 15 = _
    rw [sm_u_eq, if_neg (by decide), sm_u_eq, if_neg (by decide), sm_u_self]
    rfl
  have z19 : Z1 79 19 = 0 := by
    show sm_u (sm_u (sm_u (sm_u Z 79 19 0) 79 15 0) 79 12 0) 79 13 0 79 19 = _
    rw [sm_u_eq, if_neg (by decide), sm_u_eq, if_neg (by decide), sm_u_eq, if_neg (by decide), sm_u_self]
  have hz1 : sm_zs Z1 := zs_fr hz (fun a ha => eR a (by omega))
  have ht1 : tpM Z1 T len := tpM_fr (eR 86 (by decide)) (e79 14 (by decide) (by decide) (by decide) (by decide)) ht
  obtain ⟨Z2, a1, a2, a3, a4⟩ := m_next0 (d := d + 32) (n := n) (z := z) H hz1 ht1 (Nat.zero_le len) z15
  obtain ⟨s0, hs0⟩ : ∃ s0, s0 = spE isBl T len 0 := ⟨_, rfl⟩
  rw [← hs0] at a1 ⊢
  have hs0l : s0 ≤ len := a1.2.2.2.2.2
  have hp2 : pM Z2 T len s0 [] (Z2 79 22) := ⟨zs_fr hz1 (fun a ha => a2 a (by omega)), tpM_fr (a2 86 (by decide)) (a3 14 (by omega)) ht1, a1, ⟨by rw [a3 13 (by omega), z13]; rfl, trivial, by rw [a3 19 (by omega), z19]⟩, rfl⟩
  obtain ⟨Z3, b, b1, b2, b3, b4⟩ := m_lines (d := d + 1) (n := n) (z := z) H (some (.inl (k : Int))) none (len + 1) s0 [] [] [] Z2 (Z2 79 22) tn rt (by omega) hs0l hp2 (by simp) (by simp) (by rw [a3 12 (by omega), z12]; rfl) (by simp) ⟨rfl, rfl⟩
  have run : ∀ Q, sm_call (d + 40) 156 [.inr (some 79), .inl (k : Int)] (Z, Rf, K, n, z) Q = sm_wp (d + 40) 156 89 [some (.inr (some 79)), some (.inl (k : Int)), some (.inl (b2i b)), none] [] (Z3, Rf, K, n, z) Q := by
    intro Q
    rw [ce156, b156_0, kk_79 H]
    simp only [wr_id, wr_b2i, wr_wr, b2i_eq0, b2i_eq1, b2i_01, sm_rem_eq, sm_div_eq, wl_m2, wl_m1, wl_0, wl_1, wl_2, wl_3, wl_4, wl_5, wl_6, wl_7, wl_8, wl_9, wl_10, wl_12, wl_13, wl_14, wl_16, wl_20, wl_21, wl_22, wl_23, wl_32, wl_36, wl_40, wl_41, wl_42, wl_43, wl_44, wl_45, wl_46, wl_47, wl_48, wl_57, wl_59, wl_60, wl_61, wl_62, wl_65, wl_90, wl_97, wl_99, wl_100, wl_121, wl_122, wl_140, wl_142, wl_143, wl_145, wl_147, wl_160, wl_161, wl_162, wl_242, wl_380, wl_400, wl_420, wl_820, wl_1340, wl_5480, wl_9999, true_and, and_true, true_or, or_true, if_true, if_false, and_self, or_self, false_and, and_false, false_or, or_false, not_true_eq_false, not_false_eq_true, Int.reduceEq, Int.reduceLT, Int.reduceLE, Int.reduceToNat, Int.reduceAdd, Int.reduceMul, Int.reduceSub, Int.reduceMod, Int.reduceDiv, Int.reduceNeg, Nat.reduceEqDiff, sm_rd_ok, sm_rd_ok2, sm_wt_ok, sm_cp_ok, Option.isSome_some, Option.getD_some, w_cont, Option.toList_some, Option.toList_none, List.cons_append, List.nil_append]
    rw [m_isIn (by omega) (by omega) (by omega), w_cont]
    simp only [wr_id, wr_b2i, wr_wr, b2i_eq0, b2i_eq1, b2i_01, sm_rem_eq, sm_div_eq, wl_m2, wl_m1, wl_0, wl_1, wl_2, wl_3, wl_4, wl_5, wl_6, wl_7, wl_8, wl_9, wl_10, wl_12, wl_13, wl_14, wl_16, wl_20, wl_21, wl_22, wl_23, wl_32, wl_36, wl_40, wl_41, wl_42, wl_43, wl_44, wl_45, wl_46, wl_47, wl_48, wl_57, wl_59, wl_60, wl_61, wl_62, wl_65, wl_90, wl_97, wl_99, wl_100, wl_121, wl_122, wl_140, wl_142, wl_143, wl_145, wl_147, wl_160, wl_161, wl_162, wl_242, wl_380, wl_400, wl_420, wl_820, wl_1340, wl_5480, wl_9999, true_and, and_true, true_or, or_true, if_true, if_false, and_self, or_self, false_and, and_false, false_or, or_false, not_true_eq_false, not_false_eq_true, Int.reduceEq, Int.reduceLT, Int.reduceLE, Int.reduceToNat, Int.reduceAdd, Int.reduceMul, Int.reduceSub, Int.reduceMod, Int.reduceDiv, Int.reduceNeg, Nat.reduceEqDiff, sm_rd_ok, sm_rd_ok2, sm_wt_ok, sm_cp_ok, Option.isSome_some, Option.getD_some, w_cont, Option.toList_some, Option.toList_none, List.cons_append, List.nil_append]
    rw [b156_11, isInB, decide_eq_true (show (0 : Int) ≤ (k : Int) ∧ (k : Int) ≤ 3 by omega), if_neg (by decide), b156_31, kk_79 H]
    simp only [wr_id, wr_b2i, wr_wr, b2i_eq0, b2i_eq1, b2i_01, sm_rem_eq, sm_div_eq, wl_m2, wl_m1, wl_0, wl_1, wl_2, wl_3, wl_4, wl_5, wl_6, wl_7, wl_8, wl_9, wl_10, wl_12, wl_13, wl_14, wl_16, wl_20, wl_21, wl_22, wl_23, wl_32, wl_36, wl_40, wl_41, wl_42, wl_43, wl_44, wl_45, wl_46, wl_47, wl_48, wl_57, wl_59, wl_60, wl_61, wl_62, wl_65, wl_90, wl_97, wl_99, wl_100, wl_121, wl_122, wl_140, wl_142, wl_143, wl_145, wl_147, wl_160, wl_161, wl_162, wl_242, wl_380, wl_400, wl_420, wl_820, wl_1340, wl_5480, wl_9999, true_and, and_true, true_or, or_true, if_true, if_false, and_self, or_self, false_and, and_false, false_or, or_false, not_true_eq_false, not_false_eq_true, Int.reduceEq, Int.reduceLT, Int.reduceLE, Int.reduceToNat, Int.reduceAdd, Int.reduceMul, Int.reduceSub, Int.reduceMod, Int.reduceDiv, Int.reduceNeg, Nat.reduceEqDiff, sm_rd_ok, sm_rd_ok2, sm_wt_ok, sm_cp_ok, Option.isSome_some, Option.getD_some, w_cont, Option.toList_some, Option.toList_none, List.cons_append, List.nil_append]
    refine (a4 _).trans ?_
    rw [w_cont]
    simp only [wr_id, wr_b2i, wr_wr, b2i_eq0, b2i_eq1, b2i_01, sm_rem_eq, sm_div_eq, wl_m2, wl_m1, wl_0, wl_1, wl_2, wl_3, wl_4, wl_5, wl_6, wl_7, wl_8, wl_9, wl_10, wl_12, wl_13, wl_14, wl_16, wl_20, wl_21, wl_22, wl_23, wl_32, wl_36, wl_40, wl_41, wl_42, wl_43, wl_44, wl_45, wl_46, wl_47, wl_48, wl_57, wl_59, wl_60, wl_61, wl_62, wl_65, wl_90, wl_97, wl_99, wl_100, wl_121, wl_122, wl_140, wl_142, wl_143, wl_145, wl_147, wl_160, wl_161, wl_162, wl_242, wl_380, wl_400, wl_420, wl_820, wl_1340, wl_5480, wl_9999, true_and, and_true, true_or, or_true, if_true, if_false, and_self, or_self, false_and, and_false, false_or, or_false, not_true_eq_false, not_false_eq_true, Int.reduceEq, Int.reduceLT, Int.reduceLE, Int.reduceToNat, Int.reduceAdd, Int.reduceMul, Int.reduceSub, Int.reduceMod, Int.reduceDiv, Int.reduceNeg, Nat.reduceEqDiff, sm_rd_ok, sm_rd_ok2, sm_wt_ok, sm_cp_ok, Option.isSome_some, Option.getD_some, w_cont, Option.toList_some, Option.toList_none, List.cons_append, List.nil_append]
    rw [b156_50]
    exact b4 Q
  have f3 : ∀ a, a ≠ 79 → a ≠ 84 → a ≠ 85 → Z3 a = Z a := fun a q1 q2 q3 => by rw [b1.1 a q1 q2 q3, a2 a q1, eR a q1]
  have f79 : ∀ j, (j < 12 ∨ 23 < j) → Z3 79 j = Z 79 j := fun j hj => by rw [b1.2 j (by omega), a3 j (by omega), e79 j (by omega) (by omega) (by omega) (by omega)]
  cases b with
  | false =>
    obtain ⟨f, s, x1, x2, x3, x4⟩ := b3 rfl
    obtain ⟨Z4, hZ4⟩ : ∃ Z4, Z4 = sm_u (sm_u (sm_u Z3 79 14 0) 79 21 f) 79 23 (s : Int) := ⟨_, rfl⟩
    refine ⟨Z4, fun a q1 _ q3 q4 => by rw [hZ4, sm_u_row q1, sm_u_row q1, sm_u_row q1, f3 a q1 q3 q4], fun j hj => by rw [hZ4, sm_u_eq, if_neg (by omega), sm_u_eq, if_neg (by omega), sm_u_eq, if_neg (by omega), f79 j hj], by rw [hZ4, sm_u_eq, if_neg (by decide), sm_u_eq, if_neg (by decide), sm_u_self], Or.inl ⟨f, s, x1, flt_end ht.2.1 hs0l x2, by rw [hZ4, sm_u_eq, if_neg (by decide), sm_u_self], by rw [hZ4, sm_u_self], by rw [hZ4, sm_u_row (by decide), sm_u_row (by decide), sm_u_row (by decide), f3 80 (by decide) (by decide) (by decide)], fun Q => ?_⟩⟩
    rw [run, b156_89, kk_79 H, if_pos (by decide), sm_u_eq (i := 14), if_neg (by decide), x3]
    simp only [wr_id, wr_b2i, wr_wr, b2i_eq0, b2i_eq1, b2i_01, sm_rem_eq, sm_div_eq, wl_m2, wl_m1, wl_0, wl_1, wl_2, wl_3, wl_4, wl_5, wl_6, wl_7, wl_8, wl_9, wl_10, wl_12, wl_13, wl_14, wl_16, wl_20, wl_21, wl_22, wl_23, wl_32, wl_36, wl_40, wl_41, wl_42, wl_43, wl_44, wl_45, wl_46, wl_47, wl_48, wl_57, wl_59, wl_60, wl_61, wl_62, wl_65, wl_90, wl_97, wl_99, wl_100, wl_121, wl_122, wl_140, wl_142, wl_143, wl_145, wl_147, wl_160, wl_161, wl_162, wl_242, wl_380, wl_400, wl_420, wl_820, wl_1340, wl_5480, wl_9999, true_and, and_true, true_or, or_true, if_true, if_false, and_self, or_self, false_and, and_false, false_or, or_false, not_true_eq_false, not_false_eq_true, Int.reduceEq, Int.reduceLT, Int.reduceLE, Int.reduceToNat, Int.reduceAdd, Int.reduceMul, Int.reduceSub, Int.reduceMod, Int.reduceDiv, Int.reduceNeg, Nat.reduceEqDiff, sm_rd_ok, sm_rd_ok2, sm_wt_ok, sm_cp_ok, Option.isSome_some, Option.getD_some, w_cont, Option.toList_some, Option.toList_none, List.cons_append, List.nil_append]
    rw [b156_111, kk_79 H, sm_u_eq (i := 21), if_neg (by decide), sm_u_eq (i := 14), if_neg (by decide), x4]
    simp only [wr_id, wr_b2i, wr_wr, b2i_eq0, b2i_eq1, b2i_01, sm_rem_eq, sm_div_eq, wl_m2, wl_m1, wl_0, wl_1, wl_2, wl_3, wl_4, wl_5, wl_6, wl_7, wl_8, wl_9, wl_10, wl_12, wl_13, wl_14, wl_16, wl_20, wl_21, wl_22, wl_23, wl_32, wl_36, wl_40, wl_41, wl_42, wl_43, wl_44, wl_45, wl_46, wl_47, wl_48, wl_57, wl_59, wl_60, wl_61, wl_62, wl_65, wl_90, wl_97, wl_99, wl_100, wl_121, wl_122, wl_140, wl_142, wl_143, wl_145, wl_147, wl_160, wl_161, wl_162, wl_242, wl_380, wl_400, wl_420, wl_820, wl_1340, wl_5480, wl_9999, true_and, and_true, true_or, or_true, if_true, if_false, and_self, or_self, false_and, and_false, false_or, or_false, not_true_eq_false, not_false_eq_true, Int.reduceEq, Int.reduceLT, Int.reduceLE, Int.reduceToNat, Int.reduceAdd, Int.reduceMul, Int.reduceSub, Int.reduceMod, Int.reduceDiv, Int.reduceNeg, Nat.reduceEqDiff, sm_rd_ok, sm_rd_ok2, sm_wt_ok, sm_cp_ok, Option.isSome_some, Option.getD_some, w_cont, Option.toList_some, Option.toList_none, List.cons_append, List.nil_append]
    rw [b156_115, kk_79 H, if_pos (by decide), ← hZ4]
    simp only [wr_id, wr_b2i, wr_wr, b2i_eq0, b2i_eq1, b2i_01, sm_rem_eq, sm_div_eq, wl_m2, wl_m1, wl_0, wl_1, wl_2, wl_3, wl_4, wl_5, wl_6, wl_7, wl_8, wl_9, wl_10, wl_12, wl_13, wl_14, wl_16, wl_20, wl_21, wl_22, wl_23, wl_32, wl_36, wl_40, wl_41, wl_42, wl_43, wl_44, wl_45, wl_46, wl_47, wl_48, wl_57, wl_59, wl_60, wl_61, wl_62, wl_65, wl_90, wl_97, wl_99, wl_100, wl_121, wl_122, wl_140, wl_142, wl_143, wl_145, wl_147, wl_160, wl_161, wl_162, wl_242, wl_380, wl_400, wl_420, wl_820, wl_1340, wl_5480, wl_9999, true_and, and_true, true_or, or_true, if_true, if_false, and_self, or_self, false_and, and_false, false_or, or_false, not_true_eq_false, not_false_eq_true, Int.reduceEq, Int.reduceLT, Int.reduceLE, Int.reduceToNat, Int.reduceAdd, Int.reduceMul, Int.reduceSub, Int.reduceMod, Int.reduceDiv, Int.reduceNeg, Nat.reduceEqDiff, sm_rd_ok, sm_rd_ok2, sm_wt_ok, sm_cp_ok, Option.isSome_some, Option.getD_some, w_cont, Option.toList_some, Option.toList_none, List.cons_append, List.nil_append]
    rw [b156_122]
  | true =>
    obtain ⟨s, ms, rc, ls, D, tn', rt', x1, x2, x3, x4, x5, x6, x7, x8⟩ := b2 rfl
    have hrd := rch_end x1 x3 x2 rfl
    obtain ⟨L, hL⟩ : ∃ L, ls.length = L := ⟨_, rfl⟩
    obtain ⟨N, hN⟩ : ∃ N, ms.length = N := ⟨_, rfl⟩
    have hlen := lnS_len ls ms rc x8
    have x4' := x4.2.2.2.1
    rw [hL] at x5 x6 x7 hrd hlen
    rw [hN] at x4' hlen
    have hr0 : rc.length < 400 := by
      rcases Nat.eq_zero_or_pos L with g | g
      · have hn : ls = [] := List.eq_nil_of_length_eq_zero (by omega)
        have y8 := x8
        rw [hn] at y8
        rw [y8.2]
        decide
      · omega
    have n0 : (1985 + (k : Int)).toNat = 1985 + k := by omega
    obtain ⟨Z4, hZ4⟩ : ∃ Z4, Z4 = sm_u (sm_u (sm_u (sm_u Z3 79 14 0) 79 21 0) 79 23 (-1)) 80 (1985 + k) (L : Int) := ⟨_, rfl⟩
    have g79 : ∀ j, ¬ j = 14 → ¬ j = 21 → ¬ j = 23 → Z4 79 j = Z3 79 j := fun j q1 q2 q3 => by rw [hZ4, sm_u_row (by decide), sm_u_eq, if_neg q3, sm_u_eq, if_neg q2, sm_u_eq, if_neg q1]
    have gR : ∀ a, a ≠ 79 → a ≠ 80 → Z4 a = Z3 a := fun a q1 q2 => by rw [hZ4, sm_u_row q2, sm_u_row q1, sm_u_row q1, sm_u_row q1]
    have g80 : ∀ j, Z4 80 j = if j = 1985 + k then (L : Int) else Z 80 j := by
      intro j
      rw [hZ4, sm_u_eq, sm_u_row (by decide), sm_u_row (by decide), sm_u_row (by decide), f3 80 (by decide) (by decide) (by decide)]
    obtain ⟨Z5, c1, c2, _, c4, l3, c5⟩ := m_copyL (d := d + 39) (n := n) (z := z) H hk x7 (some (.inl 1)) L 0 Z4 (by omega) (by rw [g79 12 (by decide) (by decide) (by decide)]; exact x6)
    obtain ⟨Z6, e1, e2, e3, l4, e4⟩ := m_copyS (d := d + 39) (n := n) (z := z) H hk (N := N) (by omega) (some (.inl 1)) (2 * N) 0 Z5 (by omega) (by rw [c1 79 (by decide), g79 13 (by decide) (by decide) (by decide)]; exact x4'.1)
    have h6 : ∀ j, Z6 79 j = Z4 79 j := fun j => by rw [e1 79 (by decide), c1 79 (by decide)]
    refine ⟨Z6, fun a q1 q2 q3 q4 => by rw [e1 a q2, c1 a q2, gR a q1 q2, f3 a q1 q3 q4], fun j hj => by rw [h6, g79 j (by omega) (by omega) (by omega), f79 j hj], ?_, Or.inr ⟨s, L, N, rc, tn', rt', hrd, ?_, ?_, fun j q1 q2 => ?_, ⟨x7, by omega, hr0⟩, fun C hC => ?_, fun Q => ?_⟩⟩
    · rw [h6, hZ4, sm_u_row (by decide), sm_u_eq, if_neg (by decide), sm_u_eq, if_neg (by decide), sm_u_self]
    · rw [h6, hZ4, sm_u_row (by decide), sm_u_eq, if_neg (by decide), sm_u_self]
    · rw [h6, hZ4, sm_u_row (by decide), sm_u_self]
    · rw [e2 j (by have := q2.2.2.2; omega), c2 j ⟨q2.1, q2.2.1, q2.2.2.1, by omega⟩, g80, if_neg q1]
    · have := lnS_wf (M := Z6 80) (k := k) x8 x4'.2.1 hC (by omega) (by omega) (by rw [e2 _ (by omega), c2 _ ⟨by omega, by omega, by omega, by omega⟩, g80, if_pos rfl, hL]) (fun i hi => by
        have := c4 i (by omega) (by omega)
        rw [gR 84 (by decide) (by decide)] at this
        rw [e2 _ (by omega), e2 _ (by omega), e2 _ (by omega)]
        exact this) (fun j hj => by
        have := e3 j (by omega) (by omega)
        rw [c1 85 (by decide), gR 85 (by decide) (by decide)] at this
        exact this)
      rw [hL] at this
      exact this
    · rw [run, b156_89, kk_79 H, if_neg (by decide), sm_u_eq (i := 14), if_neg (by decide), x4'.2.2]
      simp only [wr_id, wr_b2i, wr_wr, b2i_eq0, b2i_eq1, b2i_01, sm_rem_eq, sm_div_eq, wl_m2, wl_m1, wl_0, wl_1, wl_2, wl_3, wl_4, wl_5, wl_6, wl_7, wl_8, wl_9, wl_10, wl_12, wl_13, wl_14, wl_16, wl_20, wl_21, wl_22, wl_23, wl_32, wl_36, wl_40, wl_41, wl_42, wl_43, wl_44, wl_45, wl_46, wl_47, wl_48, wl_57, wl_59, wl_60, wl_61, wl_62, wl_65, wl_90, wl_97, wl_99, wl_100, wl_121, wl_122, wl_140, wl_142, wl_143, wl_145, wl_147, wl_160, wl_161, wl_162, wl_242, wl_380, wl_400, wl_420, wl_820, wl_1340, wl_5480, wl_9999, true_and, and_true, true_or, or_true, if_true, if_false, and_self, or_self, false_and, and_false, false_or, or_false, not_true_eq_false, not_false_eq_true, Int.reduceEq, Int.reduceLT, Int.reduceLE, Int.reduceToNat, Int.reduceAdd, Int.reduceMul, Int.reduceSub, Int.reduceMod, Int.reduceDiv, Int.reduceNeg, Nat.reduceEqDiff, sm_rd_ok, sm_rd_ok2, sm_wt_ok, sm_cp_ok, Option.isSome_some, Option.getD_some, w_cont, Option.toList_some, Option.toList_none, List.cons_append, List.nil_append]
      rw [b156_107, b156_115, kk_79 H, if_neg (by decide)]
      simp only [wr_id, wr_b2i, wr_wr, b2i_eq0, b2i_eq1, b2i_01, sm_rem_eq, sm_div_eq, wl_m2, wl_m1, wl_0, wl_1, wl_2, wl_3, wl_4, wl_5, wl_6, wl_7, wl_8, wl_9, wl_10, wl_12, wl_13, wl_14, wl_16, wl_20, wl_21, wl_22, wl_23, wl_32, wl_36, wl_40, wl_41, wl_42, wl_43, wl_44, wl_45, wl_46, wl_47, wl_48, wl_57, wl_59, wl_60, wl_61, wl_62, wl_65, wl_90, wl_97, wl_99, wl_100, wl_121, wl_122, wl_140, wl_142, wl_143, wl_145, wl_147, wl_160, wl_161, wl_162, wl_242, wl_380, wl_400, wl_420, wl_820, wl_1340, wl_5480, wl_9999, true_and, and_true, true_or, or_true, if_true, if_false, and_self, or_self, false_and, and_false, false_or, or_false, not_true_eq_false, not_false_eq_true, Int.reduceEq, Int.reduceLT, Int.reduceLE, Int.reduceToNat, Int.reduceAdd, Int.reduceMul, Int.reduceSub, Int.reduceMod, Int.reduceDiv, Int.reduceNeg, Nat.reduceEqDiff, sm_rd_ok, sm_rd_ok2, sm_wt_ok, sm_cp_ok, Option.isSome_some, Option.getD_some, w_cont, Option.toList_some, Option.toList_none, List.cons_append, List.nil_append]
      rw [b156_124, kk_79 H, rr_79_0 H, sm_u_eq (i := 23), if_neg (by decide), sm_u_eq (i := 21), if_neg (by decide), sm_u_eq (i := 14), if_neg (by decide), x6]
      simp (disch := omega) only [wr_id, wr_b2i, wr_wr, b2i_eq0, b2i_eq1, b2i_01, sm_rem_eq, sm_div_eq, wl_m2, wl_m1, wl_0, wl_1, wl_2, wl_3, wl_4, wl_5, wl_6, wl_7, wl_8, wl_9, wl_10, wl_12, wl_13, wl_14, wl_16, wl_20, wl_21, wl_22, wl_23, wl_32, wl_36, wl_40, wl_41, wl_42, wl_43, wl_44, wl_45, wl_46, wl_47, wl_48, wl_57, wl_59, wl_60, wl_61, wl_62, wl_65, wl_90, wl_97, wl_99, wl_100, wl_121, wl_122, wl_140, wl_142, wl_143, wl_145, wl_147, wl_160, wl_161, wl_162, wl_242, wl_380, wl_400, wl_420, wl_820, wl_1340, wl_5480, wl_9999, true_and, and_true, true_or, or_true, if_true, if_false, and_self, or_self, false_and, and_false, false_or, or_false, not_true_eq_false, not_false_eq_true, Int.reduceEq, Int.reduceLT, Int.reduceLE, Int.reduceToNat, Int.reduceAdd, Int.reduceMul, Int.reduceSub, Int.reduceMod, Int.reduceDiv, Int.reduceNeg, Nat.reduceEqDiff, sm_rd_ok, sm_rd_ok2, sm_wt_ok, sm_cp_ok, Option.isSome_some, Option.getD_some, w_cont, Option.toList_some, Option.toList_none, List.cons_append, List.nil_append, kk_80 H, n0]
      rw [← hZ4]
      refine (c5 Q).trans ?_
      rw [b156_227]
      refine (e4 Q).trans ?_
      rw [b156_267, kk_79 H, h6, g79 12 (by decide) (by decide) (by decide), x6]
      simp only [wr_id, wr_b2i, wr_wr, b2i_eq0, b2i_eq1, b2i_01, sm_rem_eq, sm_div_eq, wl_m2, wl_m1, wl_0, wl_1, wl_2, wl_3, wl_4, wl_5, wl_6, wl_7, wl_8, wl_9, wl_10, wl_12, wl_13, wl_14, wl_16, wl_20, wl_21, wl_22, wl_23, wl_32, wl_36, wl_40, wl_41, wl_42, wl_43, wl_44, wl_45, wl_46, wl_47, wl_48, wl_57, wl_59, wl_60, wl_61, wl_62, wl_65, wl_90, wl_97, wl_99, wl_100, wl_121, wl_122, wl_140, wl_142, wl_143, wl_145, wl_147, wl_160, wl_161, wl_162, wl_242, wl_380, wl_400, wl_420, wl_820, wl_1340, wl_5480, wl_9999, true_and, and_true, true_or, or_true, if_true, if_false, and_self, or_self, false_and, and_false, false_or, or_false, not_true_eq_false, not_false_eq_true, Int.reduceEq, Int.reduceLT, Int.reduceLE, Int.reduceToNat, Int.reduceAdd, Int.reduceMul, Int.reduceSub, Int.reduceMod, Int.reduceDiv, Int.reduceNeg, Nat.reduceEqDiff, sm_rd_ok, sm_rd_ok2, sm_wt_ok, sm_cp_ok, Option.isSome_some, Option.getD_some, w_cont, Option.toList_some, Option.toList_none, List.cons_append, List.nil_append]
end MTEXT
