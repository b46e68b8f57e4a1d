/-- how many of the k places from i on -/
def cntR (P : Nat → Bool) : Nat → Nat → Int
  | _, 0 => 0
  | i, k + 1 => (if P i = true then 1 else 0) + cntR P (i + 1) k
theorem cntR_congr {P P' : Nat → Bool} : ∀ (k i : Nat), (∀ j, i ≤ j → j < i + k → P j = P' j) → cntR P i k = cntR P' i k
  | 0, _, _ => rfl
  | k + 1, i, h => by
    simp only [cntR]
    rw [h i (Nat.le_refl _) (by omega), cntR_congr k (i + 1) (fun j h1 h2 => h j (by omega) (by omega))]
/-- threads are taken away where P is so -/
def stZ (Z : Nat → Nat → Int) (o s : Nat) (bo bs : Nat) (P : Nat → Bool) (i : Nat) : Nat → Nat → Int := fun a j => if (a = o ∧ bo + i ≤ j ∧ j < bo + 242 ∧ P (j - bo) = true) ∨ (a = s ∧ bs + i ≤ j ∧ j < bs + 242 ∧ P (j - bs) = true) then -1 else Z a j
theorem stZ_step {Z : Nat → Nat → Int} {o s bo bs i : Nat} {P P' : Nat → Bool} (hP : P i = true) (hi : i < 242) (hPP : ∀ j, i + 1 ≤ j → P' j = P j) : stZ (sm_u (sm_u Z o (bo + i) (-1)) s (bs + i) (-1)) o s bo bs P' (i + 1) = stZ Z o s bo bs P i := by
  funext a j
  simp only [stZ, sm_u]
  by_cases h1 : a = s ∧ j = bs + i
  · rw [if_pos h1, show (if (a = o ∧ bo + i ≤ j ∧ j < bo + 242 ∧ P (j - bo) = true) ∨ (a = s ∧ bs + i ≤ j ∧ j < bs + 242 ∧ P (j - bs) = true) then (-1 : Int) else Z a j) = -1 from if_pos (Or.inr ⟨h1.1, by omega, by omega, by rw [h1.2, Nat.add_sub_cancel_left]; exact hP⟩)]
    split <;> rfl
  · rw [if_neg h1]
    by_cases h2 : a = o ∧ j = bo + i
    · rw [if_pos h2, show (if (a = o ∧ bo + i ≤ j ∧ j < bo + 242 ∧ P (j - bo) = true) ∨ (a = s ∧ bs + i ≤ j ∧ j < bs + 242 ∧ P (j - bs) = true) then (-1 : Int) else Z a j) = -1 from if_pos (Or.inl ⟨h2.1, by omega, by omega, by rw [h2.2, Nat.add_sub_cancel_left]; exact hP⟩)]
      split <;> rfl
    · rw [if_neg h2]
      have e1 : (a = o ∧ bo + (i + 1) ≤ j ∧ j < bo + 242 ∧ P' (j - bo) = true) ↔ (a = o ∧ bo + i ≤ j ∧ j < bo + 242 ∧ P (j - bo) = true) := by
        constructor
        · rintro ⟨q1, q2, q3, q4⟩
          exact ⟨q1, by omega, q3, by rw [← hPP _ (by omega)]; exact q4⟩
        · rintro ⟨q1, q2, q3, q4⟩
          have hne : j ≠ bo + i := fun e => h2 ⟨q1, e⟩
          exact ⟨q1, by omega, q3, by rw [hPP _ (by omega)]; exact q4⟩
      have e2 : (a = s ∧ bs + (i + 1) ≤ j ∧ j < bs + 242 ∧ P' (j - bs) = true) ↔ (a = s ∧ bs + i ≤ j ∧ j < bs + 242 ∧ P (j - bs) = true) := by
        constructor
        · rintro ⟨q1, q2, q3, q4⟩
          exact ⟨q1, by omega, q3, by rw [← hPP _ (by omega)]; exact q4⟩
        · rintro ⟨q1, q2, q3, q4⟩
          have hne : j ≠ bs + i := fun e => h1 ⟨q1, e⟩
          exact ⟨q1, by omega, q3, by rw [hPP _ (by omega)]; exact q4⟩
      simp only [e1, e2]
theorem stZ_step2 {Z : Nat → Nat → Int} {o s bo bs i : Nat} {P P' : Nat → Bool} (hP : P i = true) (hi : i < 242) (hPP : ∀ j, i + 1 ≤ j → j < 242 → P' j = P j) : stZ (sm_u (sm_u Z o (bo + i) (-1)) s (bs + i) (-1)) o s bo bs P' (i + 1) = stZ Z o s bo bs P i := by
  have e : stZ (sm_u (sm_u Z o (bo + i) (-1)) s (bs + i) (-1)) o s bo bs P' (i + 1) = stZ (sm_u (sm_u Z o (bo + i) (-1)) s (bs + i) (-1)) o s bo bs (fun j => if j < 242 then P' j else P j) (i + 1) := by
    funext a j
    simp only [stZ]
    have e1 : ∀ b : Nat, (b + (i + 1) ≤ j ∧ j < b + 242 ∧ P' (j - b) = true) ↔ (b + (i + 1) ≤ j ∧ j < b + 242 ∧ (if j - b < 242 then P' (j - b) else P (j - b)) = true) := by
      intro b
      constructor
      · rintro ⟨q1, q2, q3⟩
        exact ⟨q1, q2, by rw [if_pos (by omega)]; exact q3⟩
      · rintro ⟨q1, q2, q3⟩
        rw [if_pos (by omega)] at q3
        exact ⟨q1, q2, q3⟩
    simp only [e1]
  rw [e]
  refine stZ_step hP hi fun j hj => ?_
  by_cases h : j < 242
  · simp only [h, if_true]; exact hPP j hj h
  · simp only [h, if_false]
theorem stZ_skip {Z : Nat → Nat → Int} {o s bo bs i : Nat} {P : Nat → Bool} (hP : ¬ P i = true) : stZ Z o s bo bs P i = stZ Z o s bo bs P (i + 1) := by
  funext a j
  simp only [stZ]
  have e1 : ∀ b : Nat, (b + i ≤ j ∧ j < b + 242 ∧ P (j - b) = true) ↔ (b + (i + 1) ≤ j ∧ j < b + 242 ∧ P (j - b) = true) := by
    intro b
    constructor
    · rintro ⟨q2, q3, q4⟩
      have hne : j ≠ b + i := fun e => hP (by rw [e, Nat.add_sub_cancel_left] at q4; exact q4)
      exact ⟨by omega, q3, q4⟩
    · rintro ⟨q2, q3, q4⟩
      exact ⟨by omega, q3, q4⟩
  simp only [e1]
theorem stZ_end {Z : Nat → Nat → Int} {o s bo bs : Nat} {P : Nat → Bool} : stZ Z o s bo bs P 242 = Z := by
  funext a j
  simp only [stZ]
  rw [if_neg (by omega)]
section STEAL
variable {d n z : Nat} {Rf : Nat → Nat → Option Nat} {K : Nat → Nat × Nat} {Q : Option sm_V → sm_S → Prop} {w f t : Int}
def stP (Z : Nat → Nat → Int) (o s bo bs : Nat) (w f t : Int) (j : Nat) : Bool := decide (Z o (bo + j) = w ∧ f ≤ Z s (bs + j) ∧ Z s (bs + j) ≤ t)
theorem c_takeAway_loop (H : sm_sh Rf K) (hw : aI w) (hf : aI f) (ht : aI t) : ∀ (k i : Nat) (Z : Nat → Nat → Int) (m : Int), i + k = 242 → (∀ j, j < 242 → aI (Z 22 j) ∧ aI (Z 23 j)) → sm_wp d 80 6 [some (.inr (some 21)), some (.inl w), some (.inl f), some (.inl t), some (.inl m), some (.inl (i : Int))] [] (Z, Rf, K, n, z) Q = Q (some (.inl (m + cntR (stP Z 22 23 0 0 w f t) i k))) (stZ Z 22 23 0 0 (stP Z 22 23 0 0 w f t) i, Rf, K, n, z) := by
  unfold aI at hw hf ht
  intro k
  induction k with
  | zero =>
    intro i Z m h hb
    have hi : i = 242 := by omega
    subst hi
    rw [b80_6, wr_id (by omega) (by omega), if_pos (by omega), b80_72, stZ_end]
    simp [cntR]
  | succ k ih =>
    intro i Z m h hb
    have hbi := hb i (by omega)
    unfold aI at hbi
    rw [b80_6, wr_id (by omega) (by omega), if_neg (by omega), b80_14, kk_21 H, rr_21_0 H]
    simp (disch := omega) only [wr_id, wr_b2i, wr_wr, b2i_eq0, b2i_eq1, b2i_01, sm_rem_eq, sm_div_eq, wl_m2, wl_m1, wl_0, wl_1, wl_2, wl_3, wl_4, wl_5, wl_6, wl_7, wl_8, wl_9, wl_10, wl_12, wl_13, wl_14, wl_16, wl_20, wl_21, wl_22, wl_23, wl_32, wl_36, wl_40, wl_41, wl_42, wl_43, wl_44, wl_45, wl_46, wl_47, wl_48, wl_57, wl_59, wl_60, wl_61, wl_62, wl_65, wl_90, wl_97, wl_99, wl_100, wl_121, wl_122, wl_140, wl_142, wl_143, wl_145, wl_147, wl_160, wl_161, wl_162, wl_242, wl_380, wl_400, wl_420, wl_820, wl_1340, wl_5480, wl_9999, true_and, and_true, true_or, or_true, if_true, if_false, and_self, or_self, false_and, and_false, false_or, or_false, not_true_eq_false, not_false_eq_true, Int.reduceEq, Int.reduceLT, Int.reduceLE, Int.reduceToNat, Int.reduceAdd, Int.reduceMul, Int.reduceSub, Int.reduceMod, Int.reduceDiv, Int.reduceNeg, Nat.reduceEqDiff, sm_rd_ok, sm_rd_ok2, sm_wt_ok, sm_cp_ok, Option.isSome_some, Option.getD_some, w_cont, Option.toList_some, Option.toList_none, List.cons_append, List.nil_append, kk_22 H, Int.toNat_natCast]
    by_cases hP : stP Z 22 23 0 0 w f t i = true
    · have hP' := hP
      simp only [stP, decide_eq_true_eq, Nat.zero_add] at hP'
      rw [if_pos (by omega), b80_25, kk_21 H, rr_21_1 H]
      simp (disch := omega) only [wr_id, wr_b2i, wr_wr, b2i_eq0, b2i_eq1, b2i_01, sm_rem_eq, sm_div_eq, wl_m2, wl_m1, wl_0, wl_1, wl_2, wl_3, wl_4, wl_5, wl_6, wl_7, wl_8, wl_9, wl_10, wl_12, wl_13, wl_14, wl_16, wl_20, wl_21, wl_22, wl_23, wl_32, wl_36, wl_40, wl_41, wl_42, wl_43, wl_44, wl_45, wl_46, wl_47, wl_48, wl_57, wl_59, wl_60, wl_61, wl_62, wl_65, wl_90, wl_97, wl_99, wl_100, wl_121, wl_122, wl_140, wl_142, wl_143, wl_145, wl_147, wl_160, wl_161, wl_162, wl_242, wl_380, wl_400, wl_420, wl_820, wl_1340, wl_5480, wl_9999, true_and, and_true, true_or, or_true, if_true, if_false, and_self, or_self, false_and, and_false, false_or, or_false, not_true_eq_false, not_false_eq_true, Int.reduceEq, Int.reduceLT, Int.reduceLE, Int.reduceToNat, Int.reduceAdd, Int.reduceMul, Int.reduceSub, Int.reduceMod, Int.reduceDiv, Int.reduceNeg, Nat.reduceEqDiff, sm_rd_ok, sm_rd_ok2, sm_wt_ok, sm_cp_ok, Option.isSome_some, Option.getD_some, w_cont, Option.toList_some, Option.toList_none, List.cons_append, List.nil_append, kk_23 H, Int.toNat_natCast]
      rw [if_neg (by omega), b80_36, kk_21 H, rr_21_1 H]
      simp (disch := omega) only [wr_id, wr_b2i, wr_wr, b2i_eq0, b2i_eq1, b2i_01, sm_rem_eq, sm_div_eq, wl_m2, wl_m1, wl_0, wl_1, wl_2, wl_3, wl_4, wl_5, wl_6, wl_7, wl_8, wl_9, wl_10, wl_12, wl_13, wl_14, wl_16, wl_20, wl_21, wl_22, wl_23, wl_32, wl_36, wl_40, wl_41, wl_42, wl_43, wl_44, wl_45, wl_46, wl_47, wl_48, wl_57, wl_59, wl_60, wl_61, wl_62, wl_65, wl_90, wl_97, wl_99, wl_100, wl_121, wl_122, wl_140, wl_142, wl_143, wl_145, wl_147, wl_160, wl_161, wl_162, wl_242, wl_380, wl_400, wl_420, wl_820, wl_1340, wl_5480, wl_9999, true_and, and_true, true_or, or_true, if_true, if_false, and_self, or_self, false_and, and_false, false_or, or_false, not_true_eq_false, not_false_eq_true, Int.reduceEq, Int.reduceLT, Int.reduceLE, Int.reduceToNat, Int.reduceAdd, Int.reduceMul, Int.reduceSub, Int.reduceMod, Int.reduceDiv, Int.reduceNeg, Nat.reduceEqDiff, sm_rd_ok, sm_rd_ok2, sm_wt_ok, sm_cp_ok, Option.isSome_some, Option.getD_some, w_cont, Option.toList_some, Option.toList_none, List.cons_append, List.nil_append, kk_23 H, Int.toNat_natCast]
      rw [if_neg (by omega), b80_47, kk_21 H, rr_21_0 H, rr_21_1 H, b80_66]
      simp (disch := omega) only [wr_id, wr_b2i, wr_wr, b2i_eq0, b2i_eq1, b2i_01, sm_rem_eq, sm_div_eq, wl_m2, wl_m1, wl_0, wl_1, wl_2, wl_3, wl_4, wl_5, wl_6, wl_7, wl_8, wl_9, wl_10, wl_12, wl_13, wl_14, wl_16, wl_20, wl_21, wl_22, wl_23, wl_32, wl_36, wl_40, wl_41, wl_42, wl_43, wl_44, wl_45, wl_46, wl_47, wl_48, wl_57, wl_59, wl_60, wl_61, wl_62, wl_65, wl_90, wl_97, wl_99, wl_100, wl_121, wl_122, wl_140, wl_142, wl_143, wl_145, wl_147, wl_160, wl_161, wl_162, wl_242, wl_380, wl_400, wl_420, wl_820, wl_1340, wl_5480, wl_9999, true_and, and_true, true_or, or_true, if_true, if_false, and_self, or_self, false_and, and_false, false_or, or_false, not_true_eq_false, not_false_eq_true, Int.reduceEq, Int.reduceLT, Int.reduceLE, Int.reduceToNat, Int.reduceAdd, Int.reduceMul, Int.reduceSub, Int.reduceMod, Int.reduceDiv, Int.reduceNeg, Nat.reduceEqDiff, sm_rd_ok, sm_rd_ok2, sm_wt_ok, sm_cp_ok, Option.isSome_some, Option.getD_some, w_cont, Option.toList_some, Option.toList_none, List.cons_append, List.nil_append, kk_22 H, kk_23 H, Int.toNat_natCast]
      rw [show (i : Int) + 1 = ((i + 1 : Nat) : Int) by omega, ih (i + 1) _ _ (by omega)]
      · have ec : ∀ j, i + 1 ≤ j → stP (sm_u (sm_u Z 22 i (-1)) 23 i (-1)) 22 23 0 0 w f t j = stP Z 22 23 0 0 w f t j := by
          intro j hj
          have h1 : sm_u (sm_u Z 22 i (-1)) 23 i (-1) 22 (0 + j) = Z 22 (0 + j) := by simp only [sm_u]; rw [if_neg (by omega), if_neg (by omega)]
          have h2 : sm_u (sm_u Z 22 i (-1)) 23 i (-1) 23 (0 + j) = Z 23 (0 + j) := by simp only [sm_u]; rw [if_neg (by omega), if_neg (by omega)]
          simp only [stP, h1, h2]
        have eZ := stZ_step (Z := Z) (o := 22) (s := 23) (bo := 0) (bs := 0) hP (by omega) ec
        simp only [Nat.zero_add] at eZ
        have eC : m + 1 + cntR (stP (sm_u (sm_u Z 22 i (-1)) 23 i (-1)) 22 23 0 0 w f t) (i + 1) k = m + cntR (stP Z 22 23 0 0 w f t) i (k + 1) := by
          simp only [cntR, hP, if_true]
          rw [cntR_congr k (i + 1) (fun j h1 _ => ec j h1)]
          omega
        rw [eZ, eC]
      · intro j hj
        have := hb j hj
        unfold aI at this ⊢
        simp only [sm_u]
        constructor
        · split
          · omega
          · split <;> omega
        · split
          · omega
          · split <;> omega
    · have e1 : cntR (stP Z 22 23 0 0 w f t) i (k + 1) = cntR (stP Z 22 23 0 0 w f t) (i + 1) k := by simp [cntR, hP]
      have e2 : stZ Z 22 23 0 0 (stP Z 22 23 0 0 w f t) i = stZ Z 22 23 0 0 (stP Z 22 23 0 0 w f t) (i + 1) := stZ_skip hP
      rw [e1, e2]
      have hP' := hP
      simp only [stP, decide_eq_true_eq, Nat.zero_add] at hP'
      by_cases g1 : Z 22 i = w
      · rw [if_pos g1, b80_25, kk_21 H, rr_21_1 H]
        simp (disch := omega) only [wr_id, wr_b2i, wr_wr, b2i_eq0, b2i_eq1, b2i_01, sm_rem_eq, sm_div_eq, wl_m2, wl_m1, wl_0, wl_1, wl_2, wl_3, wl_4, wl_5, wl_6, wl_7, wl_8, wl_9, wl_10, wl_12, wl_13, wl_14, wl_16, wl_20, wl_21, wl_22, wl_23, wl_32, wl_36, wl_40, wl_41, wl_42, wl_43, wl_44, wl_45, wl_46, wl_47, wl_48, wl_57, wl_59, wl_60, wl_61, wl_62, wl_65, wl_90, wl_97, wl_99, wl_100, wl_121, wl_122, wl_140, wl_142, wl_143, wl_145, wl_147, wl_160, wl_161, wl_162, wl_242, wl_380, wl_400, wl_420, wl_820, wl_1340, wl_5480, wl_9999, true_and, and_true, true_or, or_true, if_true, if_false, and_self, or_self, false_and, and_false, false_or, or_false, not_true_eq_false, not_false_eq_true, Int.reduceEq, Int.reduceLT, Int.reduceLE, Int.reduceToNat, Int.reduceAdd, Int.reduceMul, Int.reduceSub, Int.reduceMod, Int.reduceDiv, Int.reduceNeg, Nat.reduceEqDiff, sm_rd_ok, sm_rd_ok2, sm_wt_ok, sm_cp_ok, Option.isSome_some, Option.getD_some, w_cont, Option.toList_some, Option.toList_none, List.cons_append, List.nil_append, kk_23 H, Int.toNat_natCast]
        by_cases g2 : Z 23 i < f
        · rw [if_pos g2, b80_66, show (i : Int) + 1 = ((i + 1 : Nat) : Int) by omega, ih (i + 1) _ _ (by omega) hb]
        · rw [if_neg g2, b80_36, kk_21 H, rr_21_1 H]
          simp (disch := omega) only [wr_id, wr_b2i, wr_wr, b2i_eq0, b2i_eq1, b2i_01, sm_rem_eq, sm_div_eq, wl_m2, wl_m1, wl_0, wl_1, wl_2, wl_3, wl_4, wl_5, wl_6, wl_7, wl_8, wl_9, wl_10, wl_12, wl_13, wl_14, wl_16, wl_20, wl_21, wl_22, wl_23, wl_32, wl_36, wl_40, wl_41, wl_42, wl_43, wl_44, wl_45, wl_46, wl_47, wl_48, wl_57, wl_59, wl_60, wl_61, wl_62, wl_65, wl_90, wl_97, wl_99, wl_100, wl_121, wl_122, wl_140, wl_142, wl_143, wl_145, wl_147, wl_160, wl_161, wl_162, wl_242, wl_380, wl_400, wl_420, wl_820, wl_1340, wl_5480, wl_9999, true_and, and_true, true_or, or_true, if_true, if_false, and_self, or_self, false_and, and_false, false_or, or_false, not_true_eq_false, not_false_eq_true, Int.reduceEq, Int.reduceLT, Int.reduceLE, Int.reduceToNat, Int.reduceAdd, Int.reduceMul, Int.reduceSub, Int.reduceMod, Int.reduceDiv, Int.reduceNeg, Nat.reduceEqDiff, sm_rd_ok, sm_rd_ok2, sm_wt_ok, sm_cp_ok, Option.isSome_some, Option.getD_some, w_cont, Option.toList_some, Option.toList_none, List.cons_append, List.nil_append, kk_23 H, Int.toNat_natCast]
          rw [if_pos (by omega), b80_66, show (i : Int) + 1 = ((i + 1 : Nat) : Int) by omega, ih (i + 1) _ _ (by omega) hb]
      · rw [if_neg g1, b80_66, show (i : Int) + 1 = ((i + 1 : Nat) : Int) by omega, ih (i + 1) _ _ (by omega) hb]
theorem c_takeAway {Z : Nat → Nat → Int} (H : sm_sh Rf K) (hw : aI w) (hf : aI f) (ht : aI t) (hb : ∀ j, j < 242 → aI (Z 22 j) ∧ aI (Z 23 j)) : sm_call d 80 [.inr (some 21), .inl w, .inl f, .inl t] (Z, Rf, K, n, z) Q = Q (some (.inl (cntR (stP Z 22 23 0 0 w f t) 0 242))) (stZ Z 22 23 0 0 (stP Z 22 23 0 0 w f t) 0, Rf, K, n, z) := by
  rw [ce80, b80_0]
  have e := c_takeAway_loop (d := d) (n := n) (z := z) (Q := Q) H hw hf ht 242 0 Z 0 (by omega) hb
  rw [Int.zero_add] at e
  exact e
set_option maxHeartbeats 1000000 in
theorem c_steal {Z : Nat → Nat → Int} (H : sm_sh Rf K) (hc : 0 ≤ Z 12 2 ∧ Z 12 2 ≤ 8) (hw : aI w) (hf : aI f) (ht : aI t) (hb : ∀ j, j < 242 → aI (Z 22 j) ∧ aI (Z 23 j)) : sm_call (d + 1) 102 [.inr (some 0), .inl w, .inl f, .inl t] (Z, Rf, K, n, z) Q = if (0 ≤ w ∧ w < Z 12 2) ∧ 0 ≤ f ∧ f ≤ t then Q (some (.inl (cntR (stP Z 22 23 0 0 w f t) 0 242))) (stZ Z 22 23 0 0 (stP Z 22 23 0 0 w f t) 0, Rf, K, n, z) else Q (some (.inl (-1))) (Z, Rf, K, n, z) := by
  have hw' := hw
  have hf' := hf
  have ht' := ht
  unfold aI at hw' hf' ht'
  rw [ce102]
  repeat' first | (simp (disch := first | omega | assumption) only [wr_id, wr_b2i, wr_wr, b2i_eq0, b2i_eq1, b2i_01, sm_rem_eq, sm_div_eq, wl_m2, wl_m1, wl_0, wl_1, wl_2, wl_3, wl_4, wl_5, wl_6, wl_7, wl_8, wl_9, wl_10, wl_12, wl_13, wl_14, wl_16, wl_20, wl_21, wl_22, wl_23, wl_32, wl_36, wl_40, wl_41, wl_42, wl_43, wl_44, wl_45, wl_46, wl_47, wl_48, wl_57, wl_59, wl_60, wl_61, wl_62, wl_65, wl_90, wl_97, wl_99, wl_100, wl_121, wl_122, wl_140, wl_142, wl_143, wl_145, wl_147, wl_160, wl_161, wl_162, wl_242, wl_380, wl_400, wl_420, wl_820, wl_1340, wl_5480, wl_9999, true_and, and_true, true_or, or_true, if_true, if_false, and_self, or_self, false_and, and_false, false_or, or_false, not_true_eq_false, not_false_eq_true, Int.reduceEq, Int.reduceLT, Int.reduceLE, Int.reduceToNat, Int.reduceAdd, Int.reduceMul, Int.reduceSub, Int.reduceMod, Int.reduceDiv, Int.reduceNeg, Nat.reduceEqDiff, sm_rd_ok, sm_rd_ok2, sm_wt_ok, sm_cp_ok, Option.isSome_some, Option.getD_some, w_cont, Option.toList_some, Option.toList_none, List.cons_append, List.nil_append, c_within, isInB, c_takeAway H hw hf ht hb, kk_0 H, kk_1 H, kk_12 H, kk_21 H, rr_0_0 H, rr_1_13 H, rr_1_18 H, decide_eq_true_eq, decide_eq_false_iff_not]) | split | rw [b102_0] | rw [b102_17] | rw [b102_20] | rw [b102_24] | rw [b102_29] | rw [b102_31] | rw [b102_44]
  all_goals (try first | rfl | omega | (exfalso; omega))
theorem m_steal_loop (H : sm_sh Rf K) (hw : aI w) (hf : aI f) (ht : aI t) : ∀ (k i : Nat) (Z : Nat → Nat → Int) (m : Int), i + k = 242 → (∀ j, j < 242 → aI (Z 80 (850 + j)) ∧ aI (Z 80 (1092 + j))) → sm_wp (d + 1) 181 33 [some (.inr (some 79)), some (.inl w), some (.inl f), some (.inl t), some (.inl m), some (.inl (i : Int))] [] (Z, Rf, K, n, z) Q = Q (some (.inl (m + cntR (stP Z 80 80 850 1092 w f t) i k))) (stZ Z 80 80 850 1092 (stP Z 80 80 850 1092 w f t) i, Rf, K, n, z) := by
  have hw' := hw
  have hf' := hf
  have ht' := ht
  unfold aI at hw' hf' ht'
  intro k
  induction k with
  | zero =>
    intro i Z m h hb
    have hi : i = 242 := by omega
    subst hi
    rw [b181_33, wr_id (by omega) (by omega), if_pos (by omega), b181_111, stZ_end]
    simp [cntR]
  | succ k ih =>
    intro i Z m h hb
    have hbi := hb i (by omega)
    unfold aI at hbi
    have n1 : (850 + (i : Int)).toNat = 850 + i := by omega
    have n2 : (1092 + (i : Int)).toNat = 1092 + i := by omega
    rw [b181_33, wr_id (by omega) (by omega), if_neg (by omega), b181_41, kk_79 H, rr_79_0 H]
    simp (disch := omega) only [wr_id, wr_b2i, wr_wr, b2i_eq0, b2i_eq1, b2i_01, sm_rem_eq, sm_div_eq, wl_m2, wl_m1, wl_0, wl_1, wl_2, wl_3, wl_4, wl_5, wl_6, wl_7, wl_8, wl_9, wl_10, wl_12, wl_13, wl_14, wl_16, wl_20, wl_21, wl_22, wl_23, wl_32, wl_36, wl_40, wl_41, wl_42, wl_43, wl_44, wl_45, wl_46, wl_47, wl_48, wl_57, wl_59, wl_60, wl_61, wl_62, wl_65, wl_90, wl_97, wl_99, wl_100, wl_121, wl_122, wl_140, wl_142, wl_143, wl_145, wl_147, wl_160, wl_161, wl_162, wl_242, wl_380, wl_400, wl_420, wl_820, wl_1340, wl_5480, wl_9999, true_and, and_true, true_or, or_true, if_true, if_false, and_self, or_self, false_and, and_false, false_or, or_false, not_true_eq_false, not_false_eq_true, Int.reduceEq, Int.reduceLT, Int.reduceLE, Int.reduceToNat, Int.reduceAdd, Int.reduceMul, Int.reduceSub, Int.reduceMod, Int.reduceDiv, Int.reduceNeg, Nat.reduceEqDiff, sm_rd_ok, sm_rd_ok2, sm_wt_ok, sm_cp_ok, Option.isSome_some, Option.getD_some, w_cont, Option.toList_some, Option.toList_none, List.cons_append, List.nil_append, kk_80 H, n1]
    by_cases hP : stP Z 80 80 850 1092 w f t i = true
    · have hP' := hP
      simp only [stP, decide_eq_true_eq] at hP'
      have e3 : isInB (Z 80 (1092 + i)) f t = true := by simp only [isInB, decide_eq_true_eq]; omega
      rw [if_pos (by omega), b181_56, kk_79 H, rr_79_0 H]
      simp (disch := omega) only [wr_id, wr_b2i, wr_wr, b2i_eq0, b2i_eq1, b2i_01, sm_rem_eq, sm_div_eq, wl_m2, wl_m1, wl_0, wl_1, wl_2, wl_3, wl_4, wl_5, wl_6, wl_7, wl_8, wl_9, wl_10, wl_12, wl_13, wl_14, wl_16, wl_20, wl_21, wl_22, wl_23, wl_32, wl_36, wl_40, wl_41, wl_42, wl_43, wl_44, wl_45, wl_46, wl_47, wl_48, wl_57, wl_59, wl_60, wl_61, wl_62, wl_65, wl_90, wl_97, wl_99, wl_100, wl_121, wl_122, wl_140, wl_142, wl_143, wl_145, wl_147, wl_160, wl_161, wl_162, wl_242, wl_380, wl_400, wl_420, wl_820, wl_1340, wl_5480, wl_9999, true_and, and_true, true_or, or_true, if_true, if_false, and_self, or_self, false_and, and_false, false_or, or_false, not_true_eq_false, not_false_eq_true, Int.reduceEq, Int.reduceLT, Int.reduceLE, Int.reduceToNat, Int.reduceAdd, Int.reduceMul, Int.reduceSub, Int.reduceMod, Int.reduceDiv, Int.reduceNeg, Nat.reduceEqDiff, sm_rd_ok, sm_rd_ok2, sm_wt_ok, sm_cp_ok, Option.isSome_some, Option.getD_some, w_cont, Option.toList_some, Option.toList_none, List.cons_append, List.nil_append, kk_80 H, n2, m_isIn, e3, b181_72, reduceCtorEq]
      rw [b181_78, kk_79 H, rr_79_0 H, b181_105]
      simp (disch := omega) only [wr_id, wr_b2i, wr_wr, b2i_eq0, b2i_eq1, b2i_01, sm_rem_eq, sm_div_eq, wl_m2, wl_m1, wl_0, wl_1, wl_2, wl_3, wl_4, wl_5, wl_6, wl_7, wl_8, wl_9, wl_10, wl_12, wl_13, wl_14, wl_16, wl_20, wl_21, wl_22, wl_23, wl_32, wl_36, wl_40, wl_41, wl_42, wl_43, wl_44, wl_45, wl_46, wl_47, wl_48, wl_57, wl_59, wl_60, wl_61, wl_62, wl_65, wl_90, wl_97, wl_99, wl_100, wl_121, wl_122, wl_140, wl_142, wl_143, wl_145, wl_147, wl_160, wl_161, wl_162, wl_242, wl_380, wl_400, wl_420, wl_820, wl_1340, wl_5480, wl_9999, true_and, and_true, true_or, or_true, if_true, if_false, and_self, or_self, false_and, and_false, false_or, or_false, not_true_eq_false, not_false_eq_true, Int.reduceEq, Int.reduceLT, Int.reduceLE, Int.reduceToNat, Int.reduceAdd, Int.reduceMul, Int.reduceSub, Int.reduceMod, Int.reduceDiv, Int.reduceNeg, Nat.reduceEqDiff, sm_rd_ok, sm_rd_ok2, sm_wt_ok, sm_cp_ok, Option.isSome_some, Option.getD_some, w_cont, Option.toList_some, Option.toList_none, List.cons_append, List.nil_append, kk_80 H, n1, n2]
      rw [show (i : Int) + 1 = ((i + 1 : Nat) : Int) by omega, ih (i + 1) _ _ (by omega)]
      · have ec : ∀ j, i + 1 ≤ j → j < 242 → stP (sm_u (sm_u Z 80 (850 + i) (-1)) 80 (1092 + i) (-1)) 80 80 850 1092 w f t j = stP Z 80 80 850 1092 w f t j := by
          intro j hj hj2
          have h1 : sm_u (sm_u Z 80 (850 + i) (-1)) 80 (1092 + i) (-1) 80 (850 + j) = Z 80 (850 + j) := by simp only [sm_u]; rw [if_neg (by omega), if_neg (by omega)]
          have h2 : sm_u (sm_u Z 80 (850 + i) (-1)) 80 (1092 + i) (-1) 80 (1092 + j) = Z 80 (1092 + j) := by simp only [sm_u]; rw [if_neg (by omega), if_neg (by omega)]
          simp only [stP, h1, h2]
        have eZ := stZ_step2 (Z := Z) (o := 80) (s := 80) (bo := 850) (bs := 1092) hP (by omega) ec
        have eC : m + 1 + cntR (stP (sm_u (sm_u Z 80 (850 + i) (-1)) 80 (1092 + i) (-1)) 80 80 850 1092 w f t) (i + 1) k = m + cntR (stP Z 80 80 850 1092 w f t) i (k + 1) := by
          simp only [cntR, hP, if_true]
          rw [cntR_congr k (i + 1) (fun j h1 h2 => ec j h1 (by omega))]
          omega
        rw [eZ, eC]
      · intro j hj
        have := hb j hj
        unfold aI at this ⊢
        simp only [sm_u]
        constructor
        · split
          · omega
          · split <;> omega
        · split
          · omega
          · split <;> omega
    · have e1 : cntR (stP Z 80 80 850 1092 w f t) i (k + 1) = cntR (stP Z 80 80 850 1092 w f t) (i + 1) k := by simp [cntR, hP]
      have e2 : stZ Z 80 80 850 1092 (stP Z 80 80 850 1092 w f t) i = stZ Z 80 80 850 1092 (stP Z 80 80 850 1092 w f t) (i + 1) := stZ_skip hP
      rw [e1, e2]
      have hP' := hP
      simp only [stP, decide_eq_true_eq] at hP'
      by_cases g1 : Z 80 (850 + i) = w
      · have e3 : isInB (Z 80 (1092 + i)) f t = false := by simp only [isInB, decide_eq_false_iff_not]; omega
        rw [if_pos g1, b181_56, kk_79 H, rr_79_0 H]
        simp (disch := omega) only [wr_id, wr_b2i, wr_wr, b2i_eq0, b2i_eq1, b2i_01, sm_rem_eq, sm_div_eq, wl_m2, wl_m1, wl_0, wl_1, wl_2, wl_3, wl_4, wl_5, wl_6, wl_7, wl_8, wl_9, wl_10, wl_12, wl_13, wl_14, wl_16, wl_20, wl_21, wl_22, wl_23, wl_32, wl_36, wl_40, wl_41, wl_42, wl_43, wl_44, wl_45, wl_46, wl_47, wl_48, wl_57, wl_59, wl_60, wl_61, wl_62, wl_65, wl_90, wl_97, wl_99, wl_100, wl_121, wl_122, wl_140, wl_142, wl_143, wl_145, wl_147, wl_160, wl_161, wl_162, wl_242, wl_380, wl_400, wl_420, wl_820, wl_1340, wl_5480, wl_9999, true_and, and_true, true_or, or_true, if_true, if_false, and_self, or_self, false_and, and_false, false_or, or_false, not_true_eq_false, not_false_eq_true, Int.reduceEq, Int.reduceLT, Int.reduceLE, Int.reduceToNat, Int.reduceAdd, Int.reduceMul, Int.reduceSub, Int.reduceMod, Int.reduceDiv, Int.reduceNeg, Nat.reduceEqDiff, sm_rd_ok, sm_rd_ok2, sm_wt_ok, sm_cp_ok, Option.isSome_some, Option.getD_some, w_cont, Option.toList_some, Option.toList_none, List.cons_append, List.nil_append, kk_80 H, n2, m_isIn, e3, b181_72, b181_75, b181_105]
        rw [show (i : Int) + 1 = ((i + 1 : Nat) : Int) by omega, ih (i + 1) _ _ (by omega) hb]
      · rw [if_neg g1, b181_105, show (i : Int) + 1 = ((i + 1 : Nat) : Int) by omega, ih (i + 1) _ _ (by omega) hb]
set_option maxHeartbeats 1000000 in
theorem m_steal {Z : Nat → Nat → Int} (H : sm_sh Rf K) (hc : 0 ≤ Z 80 4 ∧ Z 80 4 ≤ 8) (hw : aI w) (hf : aI f) (ht : aI t) (hb : ∀ j, j < 242 → aI (Z 80 (850 + j)) ∧ aI (Z 80 (1092 + j))) : sm_call (d + 1) 181 [.inr (some 79), .inl w, .inl f, .inl t] (Z, Rf, K, n, z) Q = if (0 ≤ w ∧ w < Z 80 4) ∧ 0 ≤ f ∧ f ≤ t then Q (some (.inl (cntR (stP Z 80 80 850 1092 w f t) 0 242))) (stZ Z 80 80 850 1092 (stP Z 80 80 850 1092 w f t) 0, Rf, K, n, z) else Q (some (.inl (-1))) (Z, Rf, K, n, z) := by
  have hw' := hw
  have hf' := hf
  have ht' := ht
  unfold aI at hw' hf' ht'
  have e := m_steal_loop (d := d) (n := n) (z := z) (Q := Q) H hw hf ht 242 0 Z 0 (by omega) hb
  rw [Int.zero_add] at e
  rw [show ((0 : Nat) : Int) = 0 from rfl] at e
  rw [ce181]
  repeat' first | (simp (disch := first | omega | assumption) only [wr_id, wr_b2i, wr_wr, b2i_eq0, b2i_eq1, b2i_01, sm_rem_eq, sm_div_eq, wl_m2, wl_m1, wl_0, wl_1, wl_2, wl_3, wl_4, wl_5, wl_6, wl_7, wl_8, wl_9, wl_10, wl_12, wl_13, wl_14, wl_16, wl_20, wl_21, wl_22, wl_23, wl_32, wl_36, wl_40, wl_41, wl_42, wl_43, wl_44, wl_45, wl_46, wl_47, wl_48, wl_57, wl_59, wl_60, wl_61, wl_62, wl_65, wl_90, wl_97, wl_99, wl_100, wl_121, wl_122, wl_140, wl_142, wl_143, wl_145, wl_147, wl_160, wl_161, wl_162, wl_242, wl_380, wl_400, wl_420, wl_820, wl_1340, wl_5480, wl_9999, true_and, and_true, true_or, or_true, if_true, if_false, and_self, or_self, false_and, and_false, false_or, or_false, not_true_eq_false, not_false_eq_true, Int.reduceEq, Int.reduceLT, Int.reduceLE, Int.reduceToNat, Int.reduceAdd, Int.reduceMul, Int.reduceSub, Int.reduceMod, Int.reduceDiv, Int.reduceNeg, Nat.reduceEqDiff, sm_rd_ok, sm_rd_ok2, sm_wt_ok, sm_cp_ok, Option.isSome_some, Option.getD_some, w_cont, Option.toList_some, Option.toList_none, List.cons_append, List.nil_append, m_isIn, isInB, e, kk_79 H, kk_80 H, rr_79_0 H, decide_eq_true_eq, decide_eq_false_iff_not]) | split | rw [b181_0] | rw [b181_13] | rw [b181_16] | rw [b181_22] | rw [b181_25] | rw [b181_27]
  all_goals (try first | rfl | omega | (exfalso; omega))
end STEAL
