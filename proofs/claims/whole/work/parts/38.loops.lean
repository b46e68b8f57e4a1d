/-- a stretch of a row is filled -/
def sm_fr (Z : Nat → Nat → Int) (r i l : Nat) (v : Int) : Nat → Nat → Int := fun a j => if a = r ∧ i ≤ j ∧ j < l then v else Z a j
theorem sm_fr_none (Z : Nat → Nat → Int) (r l : Nat) (v : Int) : sm_fr Z r l l v = Z := by
  funext a j
  simp only [sm_fr]
  rw [if_neg (by omega)]
theorem sm_fr_step (Z : Nat → Nat → Int) (r i l : Nat) (v : Int) (h : i < l) : sm_fr (sm_u Z r i v) r (i + 1) l v = sm_fr Z r i l v := by
  funext a j
  simp only [sm_fr, sm_u]
  by_cases h1 : a = r ∧ i + 1 ≤ j ∧ j < l
  · rw [if_pos h1, if_pos (by omega)]
  · rw [if_neg h1]
    by_cases h2 : a = r ∧ j = i
    · rw [if_pos h2, if_pos (by omega)]
    · rw [if_neg h2, if_neg (by omega)]
section LOOPS
variable {d n z : Nat} {Rf : Nat → Nat → Option Nat} {K : Nat → Nat × Nat} {Q : Option sm_V → sm_S → Prop} {r q : Nat} {v : Int}
theorem c_fill_loop {len : Nat} (hK : K r = (100, len)) (hl : len < 100000) : ∀ (k i : Nat) (Z : Nat → Nat → Int), i + k = len → sm_wp d 205 5 [some (.inr (some r)), some (.inl v), some (.inl (i : Int)), some (.inl (len : Int))] [] (Z, Rf, K, n, z) Q = Q none (sm_fr Z r i len v, Rf, K, n, z) := by
  intro k
  induction k with
  | zero =>
    intro i Z h
    have hi : i = len := by omega
    subst hi
    rw [b205_5, if_pos (Int.le_refl _), b205_20, sm_fr_none]
  | succ k ih =>
    intro i Z h
    rw [b205_5, wr_id (x := (i : Int)) (by omega) (by omega), wr_id (x := (len : Int)) (by omega) (by omega), if_neg (by omega), b205_10, wr_id (x := (i : Int)) (by omega) (by omega), hK, sm_wt_ok (by omega), true_and, Int.toNat_natCast, show (i : Int) + 1 = ((i + 1 : Nat) : Int) by omega, ih (i + 1) _ (by omega), sm_fr_step _ _ _ _ _ (by omega)]
theorem c_fill {len : Nat} {Z : Nat → Nat → Int} (hK : K r = (100, len)) (hl : len < 100000) : sm_call d 205 [.inr (some r), .inl v] (Z, Rf, K, n, z) Q = Q none (sm_fr Z r 0 len v, Rf, K, n, z) := by
  rw [ce205, b205_0, hK]
  simp only [true_or, true_and]
  exact c_fill_loop hK hl len 0 Z (by omega)
set_option maxHeartbeats 1000000 in
theorem c_clear {Z : Nat → Nat → Int} (hK : K r = (9, 3)) (h0 : Rf r 0 = some (r + 1)) (h1 : Rf r 1 = some (r + 2)) (h2 : Rf r 2 = some (r + 3)) (hk1 : K (r + 1) = (100, 242)) (hk2 : K (r + 2) = (100, 242)) (hk3 : K (r + 3) = (5, 3)) : sm_call (d + 1) 76 [.inr (some r)] (Z, Rf, K, n, z) Q = Q none (sm_u (sm_fr (sm_fr Z (r + 1) 0 242 (-1)) (r + 2) 0 242 (-1)) (r + 3) 2 0, Rf, K, n, z) := by
  rw [ce76]
  repeat' first | (simp (disch := first | omega | assumption) only [wr_id, wr_b2i, wr_wr, b2i_eq0, b2i_eq1, b2i_01, sm_rem_eq, sm_div_eq, wl_m2, wl_m1, wl_0, wl_1, wl_2, wl_3, wl_4, wl_5, wl_6, wl_7, wl_8, wl_9, wl_10, wl_12, wl_13, wl_14, wl_16, wl_20, wl_21, wl_22, wl_23, wl_32, wl_36, wl_40, wl_41, wl_42, wl_43, wl_44, wl_45, wl_46, wl_47, wl_48, wl_57, wl_59, wl_60, wl_61, wl_62, wl_65, wl_90, wl_97, wl_99, wl_100, wl_121, wl_122, wl_140, wl_142, wl_143, wl_145, wl_147, wl_160, wl_161, wl_162, wl_242, wl_380, wl_400, wl_420, wl_820, wl_1340, wl_5480, wl_9999, true_and, and_true, true_or, or_true, if_true, if_false, and_self, or_self, false_and, and_false, false_or, or_false, not_true_eq_false, not_false_eq_true, Int.reduceEq, Int.reduceLT, Int.reduceLE, Int.reduceToNat, Int.reduceAdd, Int.reduceMul, Int.reduceSub, Int.reduceMod, Int.reduceDiv, Int.reduceNeg, Nat.reduceEqDiff, sm_rd_ok, sm_rd_ok2, sm_wt_ok, sm_cp_ok, Option.isSome_some, Option.getD_some, w_cont, Option.toList_some, Option.toList_none, List.cons_append, List.nil_append, hK, h0, h1, h2, hk1, hk2, hk3, c_fill (r := r + 1) hk1 (by decide), c_fill (r := r + 2) hk2 (by decide)]) | split | rw [b76_0] | rw [b76_8] | rw [b76_16]
/-- the model's threads go -/
def m_clr (Z : Nat → Nat → Int) : Nat → Nat → Int := sm_u (sm_fr (sm_fr Z 80 850 1092 (-1)) 80 1092 1334 (-1)) 80 6 0
theorem m_clears_loop (H : sm_sh Rf K) : ∀ (k i : Nat) (Z : Nat → Nat → Int), i + k = 242 → sm_wp d 119 2 [some (.inr (some 79)), some (.inl (i : Int))] [] (Z, Rf, K, n, z) Q = Q none (sm_u (sm_fr (sm_fr Z 80 (850 + i) 1092 (-1)) 80 (1092 + i) 1334 (-1)) 80 6 0, Rf, K, n, z) := by
  intro k
  induction k with
  | zero =>
    intro i Z h
    have hi : i = 242 := by omega
    subst hi
    rw [b119_2, wr_id (by omega) (by omega), if_pos (by omega), b119_37, kk_79 H, rr_79_0 H]
    simp (disch := omega) only [wr_id, wr_b2i, wr_wr, b2i_eq0, b2i_eq1, b2i_01, sm_rem_eq, sm_div_eq, wl_m2, wl_m1, wl_0, wl_1, wl_2, wl_3, wl_4, wl_5, wl_6, wl_7, wl_8, wl_9, wl_10, wl_12, wl_13, wl_14, wl_16, wl_20, wl_21, wl_22, wl_23, wl_32, wl_36, wl_40, wl_41, wl_42, wl_43, wl_44, wl_45, wl_46, wl_47, wl_48, wl_57, wl_59, wl_60, wl_61, wl_62, wl_65, wl_90, wl_97, wl_99, wl_100, wl_121, wl_122, wl_140, wl_142, wl_143, wl_145, wl_147, wl_160, wl_161, wl_162, wl_242, wl_380, wl_400, wl_420, wl_820, wl_1340, wl_5480, wl_9999, true_and, and_true, true_or, or_true, if_true, if_false, and_self, or_self, false_and, and_false, false_or, or_false, not_true_eq_false, not_false_eq_true, Int.reduceEq, Int.reduceLT, Int.reduceLE, Int.reduceToNat, Int.reduceAdd, Int.reduceMul, Int.reduceSub, Int.reduceMod, Int.reduceDiv, Int.reduceNeg, Nat.reduceEqDiff, sm_rd_ok, sm_rd_ok2, sm_wt_ok, sm_cp_ok, Option.isSome_some, Option.getD_some, w_cont, Option.toList_some, Option.toList_none, List.cons_append, List.nil_append, kk_80 H]
    rw [sm_fr_none, sm_fr_none]
  | succ k ih =>
    intro i Z h
    rw [b119_2, wr_id (by omega) (by omega), if_neg (by omega), b119_9, kk_79 H, rr_79_0 H]
    simp (disch := omega) only [wr_id, wr_b2i, wr_wr, b2i_eq0, b2i_eq1, b2i_01, sm_rem_eq, sm_div_eq, wl_m2, wl_m1, wl_0, wl_1, wl_2, wl_3, wl_4, wl_5, wl_6, wl_7, wl_8, wl_9, wl_10, wl_12, wl_13, wl_14, wl_16, wl_20, wl_21, wl_22, wl_23, wl_32, wl_36, wl_40, wl_41, wl_42, wl_43, wl_44, wl_45, wl_46, wl_47, wl_48, wl_57, wl_59, wl_60, wl_61, wl_62, wl_65, wl_90, wl_97, wl_99, wl_100, wl_121, wl_122, wl_140, wl_142, wl_143, wl_145, wl_147, wl_160, wl_161, wl_162, wl_242, wl_380, wl_400, wl_420, wl_820, wl_1340, wl_5480, wl_9999, true_and, and_true, true_or, or_true, if_true, if_false, and_self, or_self, false_and, and_false, false_or, or_false, not_true_eq_false, not_false_eq_true, Int.reduceEq, Int.reduceLT, Int.reduceLE, Int.reduceToNat, Int.reduceAdd, Int.reduceMul, Int.reduceSub, Int.reduceMod, Int.reduceDiv, Int.reduceNeg, Nat.reduceEqDiff, sm_rd_ok, sm_rd_ok2, sm_wt_ok, sm_cp_ok, Option.isSome_some, Option.getD_some, w_cont, Option.toList_some, Option.toList_none, List.cons_append, List.nil_append, kk_80 H]
    rw [show (i : Int) + 1 = ((i + 1 : Nat) : Int) by omega, ih (i + 1) _ (by omega)]
    have e1 : (850 + (i : Int)).toNat = 850 + i := by omega
    have e2 : (1092 + (i : Int)).toNat = 1092 + i := by omega
    rw [e1, e2]
    congr 2
    funext a j
    simp only [sm_u, sm_fr]
    by_cases ha : a = 80 ∧ j = 6
    · rw [if_pos ha, if_pos ha]
    · rw [if_neg ha, if_neg ha]
      by_cases hb : a = 80
      · subst hb
        simp only [true_and]
        repeat' split
        all_goals first | rfl | omega
      · simp only [hb, false_and, if_false]
theorem m_clears {Z : Nat → Nat → Int} (H : sm_sh Rf K) : sm_call d 119 [.inr (some 79)] (Z, Rf, K, n, z) Q = Q none (m_clr Z, Rf, K, n, z) := by
  rw [ce119, b119_0]
  exact m_clears_loop H 242 0 Z (by omega)
end LOOPS
