/-- moves and names behind a survey -/
def mvS (nm : Nat → Int) (M : Nat → Int) (i : Nat) : Nat → Int := fun k => if 520 + i ≤ k ∧ k < 620 then (if M (k - 300) = 0 then M k else nm (k - 520)) else if 620 + i ≤ k ∧ k < 720 then (if M (k - 400) = 0 then M k else M k + (if M (k - 100) = -1 ∨ M (k - 100) = nm (k - 620) then 0 else 1)) else M k
theorem mvS_end {nm M : Nat → Int} : mvS nm M 100 = M := by
  funext k
  unfold mvS
  rw [if_neg (by omega), if_neg (by omega)]
theorem mvS_skip {nm M : Nat → Int} {i : Nat} (hi : i < 100) (h : M (220 + i) = 0) : mvS nm M i = mvS nm M (i + 1) := by
  funext k
  unfold mvS
  by_cases h1 : k = 520 + i
  · have h' : M (k - 300) = 0 := by rw [show k - 300 = 220 + i by omega]; exact h
    rw [if_pos (by omega), if_pos h', if_neg (by omega), if_neg (by omega)]
  · by_cases h2 : k = 620 + i
    · have h' : M (k - 400) = 0 := by rw [show k - 400 = 220 + i by omega]; exact h
      rw [if_neg (by omega), if_pos (by omega), if_pos h', if_neg (by omega), if_neg (by omega)]
    · by_cases h3 : 520 + i ≤ k ∧ k < 620
      · rw [if_pos h3, if_pos (show 520 + (i + 1) ≤ k ∧ k < 620 by omega)]
      · rw [if_neg h3, if_neg (show ¬ (520 + (i + 1) ≤ k ∧ k < 620) by omega)]
        by_cases h4 : 620 + i ≤ k ∧ k < 720
        · rw [if_pos h4, if_pos (show 620 + (i + 1) ≤ k ∧ k < 720 by omega)]
        · rw [if_neg h4, if_neg (by omega)]
theorem mvS_step {nm M : Nat → Int} {i : Nat} (hi : i < 100) (h : ¬ M (220 + i) = 0) : mvS nm (mU (mU M (620 + i) (M (620 + i) + (if M (520 + i) = -1 ∨ M (520 + i) = nm i then 0 else 1))) (520 + i) (nm i)) (i + 1) = mvS nm M i := by
  generalize hv : M (620 + i) + (if M (520 + i) = -1 ∨ M (520 + i) = nm i then 0 else 1) = v
  have e0 : ∀ j, j ≠ 520 + i → j ≠ 620 + i → mU (mU M (620 + i) v) (520 + i) (nm i) j = M j := fun j h1 h2 => by
    unfold mU
    rw [if_neg h1, if_neg h2]
  have e1 : mU (mU M (620 + i) v) (520 + i) (nm i) (520 + i) = nm i := by
    unfold mU
    rw [if_pos rfl]
  have e2 : mU (mU M (620 + i) v) (520 + i) (nm i) (620 + i) = v := by
    unfold mU
    rw [if_neg (by omega), if_pos rfl]
  generalize mU (mU M (620 + i) v) (520 + i) (nm i) = M' at e0 e1 e2
  funext k
  unfold mvS
  by_cases h1 : k = 520 + i
  · have h' : ¬ M (k - 300) = 0 := by rw [show k - 300 = 220 + i by omega]; exact h
    rw [if_neg (by omega), if_neg (by omega), if_pos (by omega), if_neg h', show k - 520 = i by omega, h1, e1]
  · by_cases h2 : k = 620 + i
    · have h' : ¬ M (k - 400) = 0 := by rw [show k - 400 = 220 + i by omega]; exact h
      rw [if_neg (by omega), if_neg (by omega), if_neg (by omega), if_pos (by omega), if_neg h', show k - 100 = 520 + i by omega, show k - 620 = i by omega, h2, e2, hv]
    · by_cases h3 : 520 + i ≤ k ∧ k < 620
      · rw [if_pos (show 520 + (i + 1) ≤ k ∧ k < 620 by omega), if_pos h3, e0 _ (by omega) (by omega), e0 _ (by omega) (by omega)]
      · rw [if_neg (show ¬ (520 + (i + 1) ≤ k ∧ k < 620) by omega), if_neg h3]
        by_cases h4 : 620 + i ≤ k ∧ k < 720
        · rw [if_pos (show 620 + (i + 1) ≤ k ∧ k < 720 by omega), if_pos h4, e0 _ (by omega) (by omega), e0 _ (by omega) (by omega), e0 _ (by omega) (by omega)]
        · rw [if_neg (show ¬ (620 + (i + 1) ≤ k ∧ k < 720) by omega), if_neg h4, e0 _ (by omega) (by omega)]
section SURVEY
variable {d n z : Nat} {Rf : Nat → Nat → Option Nat} {K : Nat → Nat × Nat} {Z : Nat → Nat → Int} {Q : Option sm_V → sm_S → Prop} {nm : Nat → Int}
theorem c_areOne (H : sm_sh Rf K) (hr : ∀ k, k < 100 → Z 56 k = nm k ∧ -1 ≤ nm k ∧ nm k < 100) {a b : Int} (ha : 0 ≤ a ∧ a < 100) (hb : 0 ≤ b ∧ b < 100) : sm_call d 3 [.inr (some 55), .inl a, .inl b] (Z, Rf, K, n, z) Q = Q (some (.inl (b2i (decide (nm a.toNat = nm b.toNat))))) (Z, Rf, K, n, z) := by
  have h1 := hr a.toNat (by omega)
  have h2 := hr b.toNat (by omega)
  rw [ce3, b3_0, wr_id (by omega) (by omega), if_neg (by omega), b3_4, wr_id (by omega) (by omega), if_neg (by omega), b3_10, wr_id (by omega) (by omega), if_neg (by omega), b3_14, wr_id (by omega) (by omega), if_neg (by omega), b3_20, kk_55 H, rr_55_0 H]
  simp (disch := omega) only [wr_id, wr_b2i, wr_wr, b2i_eq0, b2i_eq1, b2i_01, sm_rem_eq, sm_div_eq, wl_m2, wl_m1, wl_0, wl_1, wl_2, wl_3, wl_4, wl_5, wl_6, wl_7, wl_8, wl_9, wl_10, wl_12, wl_13, wl_14, wl_16, wl_20, wl_21, wl_22, wl_23, wl_32, wl_36, wl_40, wl_41, wl_42, wl_43, wl_44, wl_45, wl_46, wl_47, wl_48, wl_57, wl_59, wl_60, wl_61, wl_62, wl_65, wl_90, wl_97, wl_99, wl_100, wl_121, wl_122, wl_140, wl_142, wl_143, wl_145, wl_147, wl_160, wl_161, wl_162, wl_242, wl_380, wl_400, wl_420, wl_820, wl_1340, wl_5480, wl_9999, true_and, and_true, true_or, or_true, if_true, if_false, and_self, or_self, false_and, and_false, false_or, or_false, not_true_eq_false, not_false_eq_true, Int.reduceEq, Int.reduceLT, Int.reduceLE, Int.reduceToNat, Int.reduceAdd, Int.reduceMul, Int.reduceSub, Int.reduceMod, Int.reduceDiv, Int.reduceNeg, Nat.reduceEqDiff, sm_rd_ok, sm_rd_ok2, sm_wt_ok, sm_cp_ok, Option.isSome_some, Option.getD_some, w_cont, Option.toList_some, Option.toList_none, List.cons_append, List.nil_append, kk_56 H, h1.1, h2.1]
  by_cases h : nm a.toNat = nm b.toNat
  · rw [if_pos h, b3_35, b3_40]
    simp only [wr_id, wr_b2i, wr_wr, b2i_eq0, b2i_eq1, b2i_01, sm_rem_eq, sm_div_eq, wl_m2, wl_m1, wl_0, wl_1, wl_2, wl_3, wl_4, wl_5, wl_6, wl_7, wl_8, wl_9, wl_10, wl_12, wl_13, wl_14, wl_16, wl_20, wl_21, wl_22, wl_23, wl_32, wl_36, wl_40, wl_41, wl_42, wl_43, wl_44, wl_45, wl_46, wl_47, wl_48, wl_57, wl_59, wl_60, wl_61, wl_62, wl_65, wl_90, wl_97, wl_99, wl_100, wl_121, wl_122, wl_140, wl_142, wl_143, wl_145, wl_147, wl_160, wl_161, wl_162, wl_242, wl_380, wl_400, wl_420, wl_820, wl_1340, wl_5480, wl_9999, true_and, and_true, true_or, or_true, if_true, if_false, and_self, or_self, false_and, and_false, false_or, or_false, not_true_eq_false, not_false_eq_true, Int.reduceEq, Int.reduceLT, Int.reduceLE, Int.reduceToNat, Int.reduceAdd, Int.reduceMul, Int.reduceSub, Int.reduceMod, Int.reduceDiv, Int.reduceNeg, Nat.reduceEqDiff, sm_rd_ok, sm_rd_ok2, sm_wt_ok, sm_cp_ok, Option.isSome_some, Option.getD_some, w_cont, Option.toList_some, Option.toList_none, List.cons_append, List.nil_append, h, decide_true]
    rfl
  · rw [if_neg h, b3_39, b3_40]
    simp only [wr_id, wr_b2i, wr_wr, b2i_eq0, b2i_eq1, b2i_01, sm_rem_eq, sm_div_eq, wl_m2, wl_m1, wl_0, wl_1, wl_2, wl_3, wl_4, wl_5, wl_6, wl_7, wl_8, wl_9, wl_10, wl_12, wl_13, wl_14, wl_16, wl_20, wl_21, wl_22, wl_23, wl_32, wl_36, wl_40, wl_41, wl_42, wl_43, wl_44, wl_45, wl_46, wl_47, wl_48, wl_57, wl_59, wl_60, wl_61, wl_62, wl_65, wl_90, wl_97, wl_99, wl_100, wl_121, wl_122, wl_140, wl_142, wl_143, wl_145, wl_147, wl_160, wl_161, wl_162, wl_242, wl_380, wl_400, wl_420, wl_820, wl_1340, wl_5480, wl_9999, true_and, and_true, true_or, or_true, if_true, if_false, and_self, or_self, false_and, and_false, false_or, or_false, not_true_eq_false, not_false_eq_true, Int.reduceEq, Int.reduceLT, Int.reduceLE, Int.reduceToNat, Int.reduceAdd, Int.reduceMul, Int.reduceSub, Int.reduceMod, Int.reduceDiv, Int.reduceNeg, Nat.reduceEqDiff, sm_rd_ok, sm_rd_ok2, sm_wt_ok, sm_cp_ok, Option.isSome_some, Option.getD_some, w_cont, Option.toList_some, Option.toList_none, List.cons_append, List.nil_append, h, decide_false]
    rfl
theorem c_sizeAt (H : sm_sh Rf K) (hr : ∀ k, k < 100 → Z 56 k = nm k ∧ -1 ≤ nm k ∧ nm k < 100) {a : Int} (ha : 0 ≤ a ∧ a < 100) (hn : ¬ nm a.toNat = -1) : sm_call d 4 [.inr (some 55), .inl a] (Z, Rf, K, n, z) Q = Q (some (.inl (Z 57 (nm a.toNat).toNat))) (Z, Rf, K, n, z) := by
  have h1 := hr a.toNat (by omega)
  rw [ce4, b4_0, wr_id (by omega) (by omega), if_neg (by omega), b4_4, wr_id (by omega) (by omega), if_neg (by omega), b4_10, kk_55 H, rr_55_0 H]
  simp (disch := omega) only [wr_id, wr_b2i, wr_wr, b2i_eq0, b2i_eq1, b2i_01, sm_rem_eq, sm_div_eq, wl_m2, wl_m1, wl_0, wl_1, wl_2, wl_3, wl_4, wl_5, wl_6, wl_7, wl_8, wl_9, wl_10, wl_12, wl_13, wl_14, wl_16, wl_20, wl_21, wl_22, wl_23, wl_32, wl_36, wl_40, wl_41, wl_42, wl_43, wl_44, wl_45, wl_46, wl_47, wl_48, wl_57, wl_59, wl_60, wl_61, wl_62, wl_65, wl_90, wl_97, wl_99, wl_100, wl_121, wl_122, wl_140, wl_142, wl_143, wl_145, wl_147, wl_160, wl_161, wl_162, wl_242, wl_380, wl_400, wl_420, wl_820, wl_1340, wl_5480, wl_9999, true_and, and_true, true_or, or_true, if_true, if_false, and_self, or_self, false_and, and_false, false_or, or_false, not_true_eq_false, not_false_eq_true, Int.reduceEq, Int.reduceLT, Int.reduceLE, Int.reduceToNat, Int.reduceAdd, Int.reduceMul, Int.reduceSub, Int.reduceMod, Int.reduceDiv, Int.reduceNeg, Nat.reduceEqDiff, sm_rd_ok, sm_rd_ok2, sm_wt_ok, sm_cp_ok, Option.isSome_some, Option.getD_some, w_cont, Option.toList_some, Option.toList_none, List.cons_append, List.nil_append, kk_56 H, h1.1]
  rw [if_neg hn, b4_20, kk_55 H, rr_55_0 H, rr_55_1 H]
  simp (disch := omega) only [wr_id, wr_b2i, wr_wr, b2i_eq0, b2i_eq1, b2i_01, sm_rem_eq, sm_div_eq, wl_m2, wl_m1, wl_0, wl_1, wl_2, wl_3, wl_4, wl_5, wl_6, wl_7, wl_8, wl_9, wl_10, wl_12, wl_13, wl_14, wl_16, wl_20, wl_21, wl_22, wl_23, wl_32, wl_36, wl_40, wl_41, wl_42, wl_43, wl_44, wl_45, wl_46, wl_47, wl_48, wl_57, wl_59, wl_60, wl_61, wl_62, wl_65, wl_90, wl_97, wl_99, wl_100, wl_121, wl_122, wl_140, wl_142, wl_143, wl_145, wl_147, wl_160, wl_161, wl_162, wl_242, wl_380, wl_400, wl_420, wl_820, wl_1340, wl_5480, wl_9999, true_and, and_true, true_or, or_true, if_true, if_false, and_self, or_self, false_and, and_false, false_or, or_false, not_true_eq_false, not_false_eq_true, Int.reduceEq, Int.reduceLT, Int.reduceLE, Int.reduceToNat, Int.reduceAdd, Int.reduceMul, Int.reduceSub, Int.reduceMod, Int.reduceDiv, Int.reduceNeg, Nat.reduceEqDiff, sm_rd_ok, sm_rd_ok2, sm_wt_ok, sm_cp_ok, Option.isSome_some, Option.getD_some, w_cont, Option.toList_some, Option.toList_none, List.cons_append, List.nil_append, kk_56 H, kk_57 H, h1.1]
  rw [b4_35]
/-- the class's rows of moves and of last names -/
def cmS (Z : Nat → Nat → Int) (nm : Nat → Int) (i : Nat) : Nat → Nat → Int := fun a k => if a = 8 ∧ i ≤ k ∧ k < 100 ∧ ¬ Z 6 k = 0 then nm k else if a = 7 ∧ i ≤ k ∧ k < 100 ∧ ¬ Z 6 k = 0 then (if Z 8 k = -1 ∨ Z 8 k = nm k then Z 7 k else Z 7 k + 1) else Z a k
theorem cmS_end : cmS Z nm 100 = Z := by
  funext a k
  unfold cmS
  rw [if_neg (by omega), if_neg (by omega)]
theorem cmS_skip {i : Nat} (h : Z 6 i = 0) : cmS Z nm i = cmS Z nm (i + 1) := by
  funext a k
  unfold cmS
  have e : (i ≤ k ∧ k < 100 ∧ ¬ Z 6 k = 0) ↔ (i + 1 ≤ k ∧ k < 100 ∧ ¬ Z 6 k = 0) := by
    constructor
    · rintro ⟨h1, h2, h3⟩
      have : k ≠ i := fun e => h3 (by rw [e]; exact h)
      exact ⟨by omega, h2, h3⟩
    · rintro ⟨h1, h2, h3⟩
      exact ⟨by omega, h2, h3⟩
  simp only [e]
theorem cmS_step {i : Nat} (hi : i < 100) (h : ¬ Z 6 i = 0) {Y : Nat → Nat → Int} (hY : Y = sm_u (if Z 8 i = -1 ∨ Z 8 i = nm i then Z else sm_u Z 7 i (Z 7 i + 1)) 8 i (nm i)) : cmS Y nm (i + 1) = cmS Z nm i := by
  have y6 : ∀ k, Y 6 k = Z 6 k := fun k => by
    rw [hY, sm_u_ne (by decide)]
    split
    · rfl
    · rw [sm_u_ne (by decide)]
  have y8 : ∀ k, Y 8 k = if k = i then nm i else Z 8 k := fun k => by
    rw [hY, sm_u_eq]
    split
    · rfl
    · split
      · rfl
      · rw [sm_u_ne (by decide)]
  have y7 : ∀ k, Y 7 k = if k = i ∧ ¬ (Z 8 i = -1 ∨ Z 8 i = nm i) then Z 7 i + 1 else Z 7 k := fun k => by
    rw [hY, sm_u_ne (by decide)]
    by_cases hc : Z 8 i = -1 ∨ Z 8 i = nm i
    · rw [if_pos hc, if_neg (fun h => h.2 hc)]
    · rw [if_neg hc, sm_u_eq]
      by_cases hk : k = i
      · rw [if_pos hk, if_pos ⟨hk, hc⟩]
      · rw [if_neg hk, if_neg (fun h => hk h.1)]
  have yo : ∀ a k, a ≠ 7 → a ≠ 8 → Y a k = Z a k := fun a k h1 h2 => by
    rw [hY, sm_u_ne h2]
    split
    · rfl
    · rw [sm_u_ne h1]
  funext a k
  unfold cmS
  by_cases h8 : a = 8
  · subst h8
    simp only [true_and, y6, y8]
    by_cases hk : k = i
    · subst hk
      rw [if_neg (by omega), if_neg (by omega), if_pos rfl, if_pos ⟨by omega, hi, h⟩]
    · by_cases h1 : i + 1 ≤ k ∧ k < 100 ∧ ¬ Z 6 k = 0
      · rw [if_pos h1, if_pos ⟨by omega, h1.2⟩]
      · rw [if_neg h1, if_neg (by omega), if_neg hk, if_neg (fun g => h1 ⟨by omega, g.2⟩), if_neg (by omega)]
  · by_cases h7 : a = 7
    · subst h7
      simp only [true_and, y6, y8, y7]
      have n78 : ∀ P : Prop, ¬ ((7 : Nat) = 8 ∧ P) := fun P g => absurd g.1 (by decide)
      rw [if_neg (n78 _), if_neg (n78 _)]
      by_cases hk : k = i
      · subst hk
        rw [if_neg (show ¬ (k + 1 ≤ k ∧ k < 100 ∧ ¬ Z 6 k = 0) by omega), if_pos (show k ≤ k ∧ k < 100 ∧ ¬ Z 6 k = 0 from ⟨by omega, hi, h⟩)]
        by_cases hc : Z 8 k = -1 ∨ Z 8 k = nm k
        · rw [if_pos hc, if_neg (fun g => g.2 hc)]
        · rw [if_neg hc, if_pos ⟨rfl, hc⟩]
      · by_cases h1 : i + 1 ≤ k ∧ k < 100 ∧ ¬ Z 6 k = 0
        · rw [if_pos h1, if_pos (show i ≤ k ∧ k < 100 ∧ ¬ Z 6 k = 0 from ⟨by omega, h1.2⟩), if_neg hk, if_neg (show ¬ (k = i ∧ ¬ (Z 8 i = -1 ∨ Z 8 i = nm i)) from fun g => hk g.1)]
        · rw [if_neg h1, if_neg (show ¬ (i ≤ k ∧ k < 100 ∧ ¬ Z 6 k = 0) from fun g => h1 ⟨by omega, g.2⟩), if_neg (fun g => hk g.1)]
    · rw [if_neg (fun g => h8 g.1), if_neg (fun g => h7 g.1), if_neg (fun g => h8 g.1), if_neg (fun g => h7 g.1), yo a k h7 h8]
theorem c_countMoves_loop (H : sm_sh Rf K) (hnb : ∀ k, k < 100 → -1 ≤ nm k ∧ nm k < 100) : ∀ (k i : Nat) (Z : Nat → Nat → Int) (l3 : Option sm_V), i + k = 100 → (∀ k, k < 100 → Z 56 k = nm k) → (∀ k, k < 100 → (Z 6 k = 0 ∨ Z 6 k = 1) ∧ -1 ≤ Z 8 k ∧ Z 8 k < 100) → ∀ Q, sm_wp d 20 2 [some (.inr (some 1)), some (.inr (some 55)), some (.inl (i : Int)), l3] [] (Z, Rf, K, n, z) Q = Q none (cmS Z nm i, Rf, K, n, z) := by
  intro k
  induction k with
  | zero =>
    intro i Z l3 hik hn hb Q
    have : i = 100 := by omega
    subst this
    rw [b20_2, wr_id (by omega) (by omega), if_pos (by omega), b20_67, cmS_end]
  | succ k ih =>
    intro i Z l3 hik hn hb Q
    have hbi := hb i (by omega)
    have hni := hnb i (by omega)
    rw [b20_2, wr_id (by omega) (by omega), if_neg (by omega), b20_8, kk_1 H, rr_1_8 H]
    simp (disch := omega) only [wr_id, wr_b2i, wr_wr, b2i_eq0, b2i_eq1, b2i_01, sm_rem_eq, sm_div_eq, wl_m2, wl_m1, wl_0, wl_1, wl_2, wl_3, wl_4, wl_5, wl_6, wl_7, wl_8, wl_9, wl_10, wl_12, wl_13, wl_14, wl_16, wl_20, wl_21, wl_22, wl_23, wl_32, wl_36, wl_40, wl_41, wl_42, wl_43, wl_44, wl_45, wl_46, wl_47, wl_48, wl_57, wl_59, wl_60, wl_61, wl_62, wl_65, wl_90, wl_97, wl_99, wl_100, wl_121, wl_122, wl_140, wl_142, wl_143, wl_145, wl_147, wl_160, wl_161, wl_162, wl_242, wl_380, wl_400, wl_420, wl_820, wl_1340, wl_5480, wl_9999, true_and, and_true, true_or, or_true, if_true, if_false, and_self, or_self, false_and, and_false, false_or, or_false, not_true_eq_false, not_false_eq_true, Int.reduceEq, Int.reduceLT, Int.reduceLE, Int.reduceToNat, Int.reduceAdd, Int.reduceMul, Int.reduceSub, Int.reduceMod, Int.reduceDiv, Int.reduceNeg, Nat.reduceEqDiff, sm_rd_ok, sm_rd_ok2, sm_wt_ok, sm_cp_ok, Option.isSome_some, Option.getD_some, w_cont, Option.toList_some, Option.toList_none, List.cons_append, List.nil_append, kk_6 H, Int.toNat_natCast]
    by_cases h0 : Z 6 i = 0
    · rw [if_pos h0, b20_61, show (i : Int) + 1 = ((i + 1 : Nat) : Int) by omega, ih (i + 1) Z l3 (by omega) hn hb, cmS_skip h0]
    · rw [if_neg h0, b20_17, kk_55 H, kk_1 H, rr_55_0 H, rr_1_10 H]
      simp (disch := omega) only [wr_id, wr_b2i, wr_wr, b2i_eq0, b2i_eq1, b2i_01, sm_rem_eq, sm_div_eq, wl_m2, wl_m1, wl_0, wl_1, wl_2, wl_3, wl_4, wl_5, wl_6, wl_7, wl_8, wl_9, wl_10, wl_12, wl_13, wl_14, wl_16, wl_20, wl_21, wl_22, wl_23, wl_32, wl_36, wl_40, wl_41, wl_42, wl_43, wl_44, wl_45, wl_46, wl_47, wl_48, wl_57, wl_59, wl_60, wl_61, wl_62, wl_65, wl_90, wl_97, wl_99, wl_100, wl_121, wl_122, wl_140, wl_142, wl_143, wl_145, wl_147, wl_160, wl_161, wl_162, wl_242, wl_380, wl_400, wl_420, wl_820, wl_1340, wl_5480, wl_9999, true_and, and_true, true_or, or_true, if_true, if_false, and_self, or_self, false_and, and_false, false_or, or_false, not_true_eq_false, not_false_eq_true, Int.reduceEq, Int.reduceLT, Int.reduceLE, Int.reduceToNat, Int.reduceAdd, Int.reduceMul, Int.reduceSub, Int.reduceMod, Int.reduceDiv, Int.reduceNeg, Nat.reduceEqDiff, sm_rd_ok, sm_rd_ok2, sm_wt_ok, sm_cp_ok, Option.isSome_some, Option.getD_some, w_cont, Option.toList_some, Option.toList_none, List.cons_append, List.nil_append, kk_56 H, kk_8 H, Int.toNat_natCast, hn i (by omega)]
      have fin : ∀ (Y : Nat → Nat → Int) (l3 : Option sm_V), Y = sm_u (if Z 8 i = -1 ∨ Z 8 i = nm i then Z else sm_u Z 7 i (Z 7 i + 1)) 8 i (nm i) → sm_wp d 20 61 [some (.inr (some 1)), some (.inr (some 55)), some (.inl (i : Int)), l3] [] (Y, Rf, K, n, z) Q = Q none (cmS Z nm i, Rf, K, n, z) := by
        intro Y l3 hY
        have yo : ∀ a k, a ≠ 7 → a ≠ 8 → Y a k = Z a k := fun a k h1 h2 => by
          rw [hY, sm_u_ne h2]
          split
          · rfl
          · rw [sm_u_ne h1]
        rw [b20_61, show (i : Int) + 1 = ((i + 1 : Nat) : Int) by omega, ih (i + 1) Y l3 (by omega) (fun k hk => by rw [yo _ _ (by decide) (by decide)]; exact hn k hk) (fun k hk => by
          refine ⟨by rw [yo _ _ (by decide) (by decide)]; exact (hb k hk).1, ?_⟩
          have := (hb k hk).2
          rw [hY, sm_u_eq]
          split
          · exact hni
          · split
            · exact this
            · rw [sm_u_ne (by decide)]; exact this), cmS_step (by omega) h0 hY]
      by_cases h1 : Z 8 i = -1
      · rw [if_pos h1, b20_54, kk_1 H, rr_1_10 H]
        simp (disch := omega) only [wr_id, wr_b2i, wr_wr, b2i_eq0, b2i_eq1, b2i_01, sm_rem_eq, sm_div_eq, wl_m2, wl_m1, wl_0, wl_1, wl_2, wl_3, wl_4, wl_5, wl_6, wl_7, wl_8, wl_9, wl_10, wl_12, wl_13, wl_14, wl_16, wl_20, wl_21, wl_22, wl_23, wl_32, wl_36, wl_40, wl_41, wl_42, wl_43, wl_44, wl_45, wl_46, wl_47, wl_48, wl_57, wl_59, wl_60, wl_61, wl_62, wl_65, wl_90, wl_97, wl_99, wl_100, wl_121, wl_122, wl_140, wl_142, wl_143, wl_145, wl_147, wl_160, wl_161, wl_162, wl_242, wl_380, wl_400, wl_420, wl_820, wl_1340, wl_5480, wl_9999, true_and, and_true, true_or, or_true, if_true, if_false, and_self, or_self, false_and, and_false, false_or, or_false, not_true_eq_false, not_false_eq_true, Int.reduceEq, Int.reduceLT, Int.reduceLE, Int.reduceToNat, Int.reduceAdd, Int.reduceMul, Int.reduceSub, Int.reduceMod, Int.reduceDiv, Int.reduceNeg, Nat.reduceEqDiff, sm_rd_ok, sm_rd_ok2, sm_wt_ok, sm_cp_ok, Option.isSome_some, Option.getD_some, w_cont, Option.toList_some, Option.toList_none, List.cons_append, List.nil_append, kk_8 H, Int.toNat_natCast]
        exact fin _ _ (by rw [if_pos (Or.inl h1)])
      · rw [if_neg h1, b20_34, kk_1 H, rr_1_10 H]
        simp (disch := omega) only [wr_id, wr_b2i, wr_wr, b2i_eq0, b2i_eq1, b2i_01, sm_rem_eq, sm_div_eq, wl_m2, wl_m1, wl_0, wl_1, wl_2, wl_3, wl_4, wl_5, wl_6, wl_7, wl_8, wl_9, wl_10, wl_12, wl_13, wl_14, wl_16, wl_20, wl_21, wl_22, wl_23, wl_32, wl_36, wl_40, wl_41, wl_42, wl_43, wl_44, wl_45, wl_46, wl_47, wl_48, wl_57, wl_59, wl_60, wl_61, wl_62, wl_65, wl_90, wl_97, wl_99, wl_100, wl_121, wl_122, wl_140, wl_142, wl_143, wl_145, wl_147, wl_160, wl_161, wl_162, wl_242, wl_380, wl_400, wl_420, wl_820, wl_1340, wl_5480, wl_9999, true_and, and_true, true_or, or_true, if_true, if_false, and_self, or_self, false_and, and_false, false_or, or_false, not_true_eq_false, not_false_eq_true, Int.reduceEq, Int.reduceLT, Int.reduceLE, Int.reduceToNat, Int.reduceAdd, Int.reduceMul, Int.reduceSub, Int.reduceMod, Int.reduceDiv, Int.reduceNeg, Nat.reduceEqDiff, sm_rd_ok, sm_rd_ok2, sm_wt_ok, sm_cp_ok, Option.isSome_some, Option.getD_some, w_cont, Option.toList_some, Option.toList_none, List.cons_append, List.nil_append, kk_8 H, Int.toNat_natCast]
        by_cases h2 : Z 8 i = nm i
        · rw [if_pos h2, b20_54, kk_1 H, rr_1_10 H]
          simp (disch := omega) only [wr_id, wr_b2i, wr_wr, b2i_eq0, b2i_eq1, b2i_01, sm_rem_eq, sm_div_eq, wl_m2, wl_m1, wl_0, wl_1, wl_2, wl_3, wl_4, wl_5, wl_6, wl_7, wl_8, wl_9, wl_10, wl_12, wl_13, wl_14, wl_16, wl_20, wl_21, wl_22, wl_23, wl_32, wl_36, wl_40, wl_41, wl_42, wl_43, wl_44, wl_45, wl_46, wl_47, wl_48, wl_57, wl_59, wl_60, wl_61, wl_62, wl_65, wl_90, wl_97, wl_99, wl_100, wl_121, wl_122, wl_140, wl_142, wl_143, wl_145, wl_147, wl_160, wl_161, wl_162, wl_242, wl_380, wl_400, wl_420, wl_820, wl_1340, wl_5480, wl_9999, true_and, and_true, true_or, or_true, if_true, if_false, and_self, or_self, false_and, and_false, false_or, or_false, not_true_eq_false, not_false_eq_true, Int.reduceEq, Int.reduceLT, Int.reduceLE, Int.reduceToNat, Int.reduceAdd, Int.reduceMul, Int.reduceSub, Int.reduceMod, Int.reduceDiv, Int.reduceNeg, Nat.reduceEqDiff, sm_rd_ok, sm_rd_ok2, sm_wt_ok, sm_cp_ok, Option.isSome_some, Option.getD_some, w_cont, Option.toList_some, Option.toList_none, List.cons_append, List.nil_append, kk_8 H, Int.toNat_natCast]
          exact fin _ _ (by rw [if_pos (Or.inr h2)])
        · rw [if_neg h2, b20_44, kk_1 H, rr_1_9 H]
          simp (disch := omega) only [wr_id, wr_b2i, wr_wr, b2i_eq0, b2i_eq1, b2i_01, sm_rem_eq, sm_div_eq, wl_m2, wl_m1, wl_0, wl_1, wl_2, wl_3, wl_4, wl_5, wl_6, wl_7, wl_8, wl_9, wl_10, wl_12, wl_13, wl_14, wl_16, wl_20, wl_21, wl_22, wl_23, wl_32, wl_36, wl_40, wl_41, wl_42, wl_43, wl_44, wl_45, wl_46, wl_47, wl_48, wl_57, wl_59, wl_60, wl_61, wl_62, wl_65, wl_90, wl_97, wl_99, wl_100, wl_121, wl_122, wl_140, wl_142, wl_143, wl_145, wl_147, wl_160, wl_161, wl_162, wl_242, wl_380, wl_400, wl_420, wl_820, wl_1340, wl_5480, wl_9999, true_and, and_true, true_or, or_true, if_true, if_false, and_self, or_self, false_and, and_false, false_or, or_false, not_true_eq_false, not_false_eq_true, Int.reduceEq, Int.reduceLT, Int.reduceLE, Int.reduceToNat, Int.reduceAdd, Int.reduceMul, Int.reduceSub, Int.reduceMod, Int.reduceDiv, Int.reduceNeg, Nat.reduceEqDiff, sm_rd_ok, sm_rd_ok2, sm_wt_ok, sm_cp_ok, Option.isSome_some, Option.getD_some, w_cont, Option.toList_some, Option.toList_none, List.cons_append, List.nil_append, kk_7 H, Int.toNat_natCast]
          rw [b20_54, kk_1 H, rr_1_10 H]
          simp (disch := omega) only [wr_id, wr_b2i, wr_wr, b2i_eq0, b2i_eq1, b2i_01, sm_rem_eq, sm_div_eq, wl_m2, wl_m1, wl_0, wl_1, wl_2, wl_3, wl_4, wl_5, wl_6, wl_7, wl_8, wl_9, wl_10, wl_12, wl_13, wl_14, wl_16, wl_20, wl_21, wl_22, wl_23, wl_32, wl_36, wl_40, wl_41, wl_42, wl_43, wl_44, wl_45, wl_46, wl_47, wl_48, wl_57, wl_59, wl_60, wl_61, wl_62, wl_65, wl_90, wl_97, wl_99, wl_100, wl_121, wl_122, wl_140, wl_142, wl_143, wl_145, wl_147, wl_160, wl_161, wl_162, wl_242, wl_380, wl_400, wl_420, wl_820, wl_1340, wl_5480, wl_9999, true_and, and_true, true_or, or_true, if_true, if_false, and_self, or_self, false_and, and_false, false_or, or_false, not_true_eq_false, not_false_eq_true, Int.reduceEq, Int.reduceLT, Int.reduceLE, Int.reduceToNat, Int.reduceAdd, Int.reduceMul, Int.reduceSub, Int.reduceMod, Int.reduceDiv, Int.reduceNeg, Nat.reduceEqDiff, sm_rd_ok, sm_rd_ok2, sm_wt_ok, sm_cp_ok, Option.isSome_some, Option.getD_some, w_cont, Option.toList_some, Option.toList_none, List.cons_append, List.nil_append, kk_8 H, Int.toNat_natCast]
          exact fin _ _ (by rw [if_neg (by intro h; rcases h with h | h <;> contradiction)])
theorem m_survey_loop (H : sm_sh Rf K) (hnb : ∀ k, k < 100 → -1 ≤ nm k ∧ nm k < 100) : ∀ (k i : Nat) (M : Nat → Int) (Z : Nat → Nat → Int), i + k = 100 → Z 80 = M → (∀ k, k < 100 → Z 93 k = nm k) → (∀ k, k < 100 → (M (220 + k) = 0 ∨ M (220 + k) = 1) ∧ -1 ≤ M (520 + k) ∧ M (520 + k) < 100) → ∀ Q, sm_wp d 175 10 [some (.inr (some 79)), some (.inl (i : Int))] [] (Z, Rf, K, n, z) Q = Q (some (.inl (Z 79 30))) (sm_u (sm_r Z 80 (mvS nm M i)) 79 4 0, Rf, K, n, z) := by
  intro k
  induction k with
  | zero =>
    intro i M Z hik hM hn hb Q
    have : i = 100 := by omega
    subst this
    have e : sm_r Z 80 M = Z := by
      funext a j
      unfold sm_r
      split
      · rename_i ha; rw [ha, hM]
      · rfl
    rw [b175_10, wr_id (by omega) (by omega), if_pos (by omega), b175_105, kk_79 H, mvS_end, e]
    simp only [wr_id, wr_b2i, wr_wr, b2i_eq0, b2i_eq1, b2i_01, sm_rem_eq, sm_div_eq, wl_m2, wl_m1, wl_0, wl_1, wl_2, wl_3, wl_4, wl_5, wl_6, wl_7, wl_8, wl_9, wl_10, wl_12, wl_13, wl_14, wl_16, wl_20, wl_21, wl_22, wl_23, wl_32, wl_36, wl_40, wl_41, wl_42, wl_43, wl_44, wl_45, wl_46, wl_47, wl_48, wl_57, wl_59, wl_60, wl_61, wl_62, wl_65, wl_90, wl_97, wl_99, wl_100, wl_121, wl_122, wl_140, wl_142, wl_143, wl_145, wl_147, wl_160, wl_161, wl_162, wl_242, wl_380, wl_400, wl_420, wl_820, wl_1340, wl_5480, wl_9999, true_and, and_true, true_or, or_true, if_true, if_false, and_self, or_self, false_and, and_false, false_or, or_false, not_true_eq_false, not_false_eq_true, Int.reduceEq, Int.reduceLT, Int.reduceLE, Int.reduceToNat, Int.reduceAdd, Int.reduceMul, Int.reduceSub, Int.reduceMod, Int.reduceDiv, Int.reduceNeg, Nat.reduceEqDiff, sm_rd_ok, sm_rd_ok2, sm_wt_ok, sm_cp_ok, Option.isSome_some, Option.getD_some, w_cont, Option.toList_some, Option.toList_none, List.cons_append, List.nil_append]
    rw [sm_u_eq, if_neg (by decide)]
  | succ k ih =>
    intro i M Z hik hM hn hb Q
    have hbi := hb i (by omega)
    have hni := hnb i (by omega)
    have n1 : (220 + (i : Int)).toNat = 220 + i := by omega
    have n2 : (620 + (i : Int)).toNat = 620 + i := by omega
    have n3 : (520 + (i : Int)).toNat = 520 + i := by omega
    rw [b175_10, wr_id (by omega) (by omega), if_neg (by omega), b175_16, kk_79 H, rr_79_0 H]
    simp (disch := omega) only [wr_id, wr_b2i, wr_wr, b2i_eq0, b2i_eq1, b2i_01, sm_rem_eq, sm_div_eq, wl_m2, wl_m1, wl_0, wl_1, wl_2, wl_3, wl_4, wl_5, wl_6, wl_7, wl_8, wl_9, wl_10, wl_12, wl_13, wl_14, wl_16, wl_20, wl_21, wl_22, wl_23, wl_32, wl_36, wl_40, wl_41, wl_42, wl_43, wl_44, wl_45, wl_46, wl_47, wl_48, wl_57, wl_59, wl_60, wl_61, wl_62, wl_65, wl_90, wl_97, wl_99, wl_100, wl_121, wl_122, wl_140, wl_142, wl_143, wl_145, wl_147, wl_160, wl_161, wl_162, wl_242, wl_380, wl_400, wl_420, wl_820, wl_1340, wl_5480, wl_9999, true_and, and_true, true_or, or_true, if_true, if_false, and_self, or_self, false_and, and_false, false_or, or_false, not_true_eq_false, not_false_eq_true, Int.reduceEq, Int.reduceLT, Int.reduceLE, Int.reduceToNat, Int.reduceAdd, Int.reduceMul, Int.reduceSub, Int.reduceMod, Int.reduceDiv, Int.reduceNeg, Nat.reduceEqDiff, sm_rd_ok, sm_rd_ok2, sm_wt_ok, sm_cp_ok, Option.isSome_some, Option.getD_some, w_cont, Option.toList_some, Option.toList_none, List.cons_append, List.nil_append, kk_80 H, n1, hM]
    by_cases h0 : M (220 + i) = 0
    · rw [if_pos h0, b175_29, b175_99, show (i : Int) + 1 = ((i + 1 : Nat) : Int) by omega, ih (i + 1) M Z (by omega) hM hn hb, mvS_skip (by omega) h0]
    · rw [if_neg h0, b175_32, kk_79 H, rr_79_0 H]
      simp (disch := omega) only [wr_id, wr_b2i, wr_wr, b2i_eq0, b2i_eq1, b2i_01, sm_rem_eq, sm_div_eq, wl_m2, wl_m1, wl_0, wl_1, wl_2, wl_3, wl_4, wl_5, wl_6, wl_7, wl_8, wl_9, wl_10, wl_12, wl_13, wl_14, wl_16, wl_20, wl_21, wl_22, wl_23, wl_32, wl_36, wl_40, wl_41, wl_42, wl_43, wl_44, wl_45, wl_46, wl_47, wl_48, wl_57, wl_59, wl_60, wl_61, wl_62, wl_65, wl_90, wl_97, wl_99, wl_100, wl_121, wl_122, wl_140, wl_142, wl_143, wl_145, wl_147, wl_160, wl_161, wl_162, wl_242, wl_380, wl_400, wl_420, wl_820, wl_1340, wl_5480, wl_9999, true_and, and_true, true_or, or_true, if_true, if_false, and_self, or_self, false_and, and_false, false_or, or_false, not_true_eq_false, not_false_eq_true, Int.reduceEq, Int.reduceLT, Int.reduceLE, Int.reduceToNat, Int.reduceAdd, Int.reduceMul, Int.reduceSub, Int.reduceMod, Int.reduceDiv, Int.reduceNeg, Nat.reduceEqDiff, sm_rd_ok, sm_rd_ok2, sm_wt_ok, sm_cp_ok, Option.isSome_some, Option.getD_some, w_cont, Option.toList_some, Option.toList_none, List.cons_append, List.nil_append, kk_80 H, n2, n3, hM]
      have fin : ∀ (v : Int), v = (if M (520 + i) = -1 ∨ M (520 + i) = nm i then 0 else 1) → sm_wp d 175 81 [some (.inr (some 79)), some (.inl (i : Int))] [.inl v, .inl (M (620 + i)), .inl (620 + (i : Int)), .inr (some 80)] (Z, Rf, K, n, z) Q = Q (some (.inl (Z 79 30))) (sm_u (sm_r Z 80 (mvS nm M i)) 79 4 0, Rf, K, n, z) := by
        intro v hv
        rw [b175_81, kk_79 H, kk_80 H, rr_79_0 H, rr_79_28 H]
        simp (disch := omega) only [wr_id, wr_b2i, wr_wr, b2i_eq0, b2i_eq1, b2i_01, sm_rem_eq, sm_div_eq, wl_m2, wl_m1, wl_0, wl_1, wl_2, wl_3, wl_4, wl_5, wl_6, wl_7, wl_8, wl_9, wl_10, wl_12, wl_13, wl_14, wl_16, wl_20, wl_21, wl_22, wl_23, wl_32, wl_36, wl_40, wl_41, wl_42, wl_43, wl_44, wl_45, wl_46, wl_47, wl_48, wl_57, wl_59, wl_60, wl_61, wl_62, wl_65, wl_90, wl_97, wl_99, wl_100, wl_121, wl_122, wl_140, wl_142, wl_143, wl_145, wl_147, wl_160, wl_161, wl_162, wl_242, wl_380, wl_400, wl_420, wl_820, wl_1340, wl_5480, wl_9999, true_and, and_true, true_or, or_true, if_true, if_false, and_self, or_self, false_and, and_false, false_or, or_false, not_true_eq_false, not_false_eq_true, Int.reduceEq, Int.reduceLT, Int.reduceLE, Int.reduceToNat, Int.reduceAdd, Int.reduceMul, Int.reduceSub, Int.reduceMod, Int.reduceDiv, Int.reduceNeg, Nat.reduceEqDiff, sm_rd_ok, sm_rd_ok2, sm_wt_ok, sm_cp_ok, Option.isSome_some, Option.getD_some, w_cont, Option.toList_some, Option.toList_none, List.cons_append, List.nil_append, kk_80 H, kk_93 H, n2, n3, Int.toNat_natCast, sm_u_ne]
        rw [hn i (by omega), b175_99, show (i : Int) + 1 = ((i + 1 : Nat) : Int) by omega]
        have eM : sm_u (sm_u Z 80 (620 + i) (M (620 + i) + v)) 80 (520 + i) (nm i) 80 = mU (mU M (620 + i) (M (620 + i) + v)) (520 + i) (nm i) := by
          rw [sm_u_mU, sm_u_mU, hM]
        rw [ih (i + 1) _ _ (by omega) eM (fun k hk => by rw [sm_u_ne (by decide), sm_u_ne (by decide)]; exact hn k hk) (fun k hk => by
          have := hb k hk
          unfold mU
          rw [if_neg (by omega), if_neg (by omega)]
          refine ⟨this.1, ?_⟩
          split
          · exact hni
          · rw [if_neg (by omega)]; exact this.2), hv, mvS_step (by omega) h0, sm_u_ne (by decide), sm_u_ne (by decide)]
        congr 2
        funext a j
        unfold sm_u sm_r
        by_cases ha : a = 80
        · simp [ha]
        · simp [ha]
      by_cases h1 : M (520 + i) = -1
      · rw [if_pos h1, b175_80]
        exact fin 0 (by rw [if_pos (Or.inl h1)])
      · rw [if_neg h1, b175_57, kk_79 H, rr_79_0 H, rr_79_28 H]
        simp (disch := omega) only [wr_id, wr_b2i, wr_wr, b2i_eq0, b2i_eq1, b2i_01, sm_rem_eq, sm_div_eq, wl_m2, wl_m1, wl_0, wl_1, wl_2, wl_3, wl_4, wl_5, wl_6, wl_7, wl_8, wl_9, wl_10, wl_12, wl_13, wl_14, wl_16, wl_20, wl_21, wl_22, wl_23, wl_32, wl_36, wl_40, wl_41, wl_42, wl_43, wl_44, wl_45, wl_46, wl_47, wl_48, wl_57, wl_59, wl_60, wl_61, wl_62, wl_65, wl_90, wl_97, wl_99, wl_100, wl_121, wl_122, wl_140, wl_142, wl_143, wl_145, wl_147, wl_160, wl_161, wl_162, wl_242, wl_380, wl_400, wl_420, wl_820, wl_1340, wl_5480, wl_9999, true_and, and_true, true_or, or_true, if_true, if_false, and_self, or_self, false_and, and_false, false_or, or_false, not_true_eq_false, not_false_eq_true, Int.reduceEq, Int.reduceLT, Int.reduceLE, Int.reduceToNat, Int.reduceAdd, Int.reduceMul, Int.reduceSub, Int.reduceMod, Int.reduceDiv, Int.reduceNeg, Nat.reduceEqDiff, sm_rd_ok, sm_rd_ok2, sm_wt_ok, sm_cp_ok, Option.isSome_some, Option.getD_some, w_cont, Option.toList_some, Option.toList_none, List.cons_append, List.nil_append, kk_80 H, kk_93 H, n3, hM, Int.toNat_natCast, hn i (by omega)]
        by_cases h2 : M (520 + i) = nm i
        · rw [if_pos h2, b175_80]
          exact fin 0 (by rw [if_pos (Or.inr h2)])
        · rw [if_neg h2, b175_76]
          exact fin 1 (by rw [if_neg (by intro h; rcases h with h | h <;> contradiction)])
end SURVEY
