/-- the best plan -/
def plS (M : Nat → Int) (a b : Int) : pnT := prR M a b (frL M 100 0) (sgR M a b (frL M 100 0) (tp1 M a b (-1) (-1) (-1, 0, 0, 0)))
theorem tp1_stay {M : Nat → Int} (hi : invD M) {a b one other : Int} (h1 : one < 100) (h2 : other < 100) {t : pnT} (ht : t.1 = 0) : tp1 M a b one other t = t := by
  have p1 := prS_bd hi h1
  have p2 := prS_bd hi h2
  unfold tp1
  rw [if_pos (by omega)]
theorem sgR_stay {M : Nat → Int} (hi : invD M) {a b : Int} {t : pnT} (ht : t.1 = 0) : ∀ l : List Nat, (∀ c ∈ l, c < 100) → sgR M a b l t = t := by
  intro l
  induction l with
  | nil => intro _; rfl
  | cons c l ih =>
    intro h
    have := h c List.mem_cons_self
    simp only [sgR]
    rw [tp1_stay hi (by omega) (by omega) ht]
    exact ih (fun e he => h e (List.mem_cons_of_mem _ he))
theorem ipR_stay {M : Nat → Int} (hi : invD M) {a b : Int} {t : pnT} (ht : t.1 = 0) {c : Nat} (hc : c < 100) : ∀ l : List Nat, (∀ c ∈ l, c < 100) → ipR M a b c l t = t := by
  intro l
  induction l with
  | nil => intro _; rfl
  | cons e l ih =>
    intro h
    have := h e List.mem_cons_self
    simp only [ipR]
    rw [tp1_stay hi (by omega) (by omega) ht]
    exact ih (fun e he => h e (List.mem_cons_of_mem _ he))
theorem prR_stay {M : Nat → Int} (hi : invD M) {a b : Int} {t : pnT} (ht : t.1 = 0) : ∀ l : List Nat, (∀ c ∈ l, c < 100) → prR M a b l t = t := by
  intro l
  induction l with
  | nil => intro _; rfl
  | cons c l ih =>
    intro h
    have h2 : ∀ e ∈ l, e < 100 := fun e he => h e (List.mem_cons_of_mem _ he)
    simp only [prR]
    rw [ipR_stay hi ht (h c List.mem_cons_self) l h2]
    exact ih h2
theorem frC1_bd {M : Nat → Int} {c : Nat} (h : frC1 M c) : c < 100 := by
  have := isC_bd h.1
  omega
theorem frN_of {M : Nat → Int} {c : Nat} (h : frC1 M c) : frN M (c : Int) := Or.inr ⟨h.1, by rw [Int.toNat_natCast]; exact h.2⟩
theorem frL_lt {M : Nat → Int} : ∀ (k i : Nat), ∀ c ∈ frL M k i, i ≤ c := by
  intro k
  induction k with
  | zero => intro i c hc; simp [frL] at hc
  | succ k ih =>
    intro i c hc
    simp only [frL] at hc
    split at hc
    · rcases List.mem_cons.1 hc with rfl | h2
      · omega
      · have := ih (i + 1) c h2
        omega
    · have := ih (i + 1) c hc
      omega
/-- each of a row's cells is less than those behind it -/
def ascL : List Nat → Prop
  | [] => True
  | c :: l => (∀ e ∈ l, c < e) ∧ ascL l
theorem frL_asc {M : Nat → Int} : ∀ (k i : Nat), ascL (frL M k i) := by
  intro k
  induction k with
  | zero => intro i; trivial
  | succ k ih =>
    intro i
    simp only [frL]
    split
    · exact ⟨fun e he => by have := frL_lt k (i + 1) e he; omega, ih (i + 1)⟩
    · exact ih (i + 1)
section PLAN2
variable {d n z : Nat} {Rf : Nat → Nat → Option Nat} {K : Nat → Nat × Nat} {Z : Nat → Nat → Int} {Q : Option sm_V → sm_S → Prop}
theorem c_dry_loop (H : sm_sh Rf K) {M : Nat → Int} (hs : szN M) (hp : ∀ c, c < 100 → M (120 + c) = 0 ∨ M (120 + c) = 1) : ∀ (k i cnt : Nat) (Z : Nat → Nat → Int), i + k = 100 → (Z 1 0 = M 0 ∧ Z 1 1 = M 1) → (∀ c, c < 100 → Z 5 c = M (120 + c)) → Z 63 2 = (cnt : Int) → (cnt : Int) + cntR (fun c => isC (M 0) (M 1) (c : Int)) i k ≤ 36 → ∃ Z', lsA (Z' 69) cnt (frL M k i) ∧ (∀ j, j < cnt → Z' 69 j = Z 69 j) ∧ Z' 63 2 = ((cnt + (frL M k i).length : Nat) : Int) ∧ (∀ a, a ≠ 63 → a ≠ 69 → Z' a = Z a) ∧ (∀ j, j ≠ 2 → Z' 63 j = Z 63 j) ∧ ∀ Q, sm_wp (d + 1) 67 7 [some (.inr (some 63)), some (.inr (some 1)), some (.inl (i : Int))] [] (Z, Rf, K, n, z) Q = Q none (Z', Rf, K, n, z) := by
  have hs' := hs
  unfold szN at hs'
  intro k
  induction k with
  | zero =>
    intro i cnt Z hik hw h5 h2 hb
    refine ⟨Z, trivial, fun _ _ => rfl, h2, fun _ _ _ => rfl, fun _ _ => rfl, fun Q => ?_⟩
    rw [b67_7, wr_id (by omega) (by omega), if_pos (by omega), b67_65]
  | succ k ih =>
    intro i cnt Z hik hw h5 h2 hb
    have hbd := cntR_bd (P := fun c => isC (M 0) (M 1) (c : Int)) k (i + 1)
    have e5 := h5 i (by omega)
    have p5 := hp i (by omega)
    have head : ∀ Q, sm_wp (d + 1) 67 7 [some (.inr (some 63)), some (.inr (some 1)), some (.inl (i : Int))] [] (Z, Rf, K, n, z) Q = if isC (M 0) (M 1) (i : Int) = true ∧ M (120 + i) = 0 then sm_wp (d + 1) 67 30 [some (.inr (some 63)), some (.inr (some 1)), some (.inl (i : Int))] [] (Z, Rf, K, n, z) Q else sm_wp (d + 1) 67 7 [some (.inr (some 63)), some (.inr (some 1)), some (.inl ((i + 1 : Nat) : Int))] [] (Z, Rf, K, n, z) Q := by
      intro Q
      rw [b67_7, wr_id (by omega) (by omega), if_neg (by omega), b67_13, kk_1 H]
      simp only [wr_id, wr_b2i, wr_wr, b2i_eq0, b2i_eq1, b2i_01, sm_rem_eq, sm_div_eq, wl_m2, wl_m1, wl_0, wl_1, wl_2, wl_3, wl_4, wl_5, wl_6, wl_7, wl_8, wl_9, wl_10, wl_12, wl_13, wl_14, wl_16, wl_20, wl_21, wl_22, wl_23, wl_32, wl_36, wl_40, wl_41, wl_42, wl_43, wl_44, wl_45, wl_46, wl_47, wl_48, wl_57, wl_59, wl_60, wl_61, wl_62, wl_65, wl_90, wl_97, wl_99, wl_100, wl_121, wl_122, wl_140, wl_142, wl_143, wl_145, wl_147, wl_160, wl_161, wl_162, wl_242, wl_380, wl_400, wl_420, wl_820, wl_1340, wl_5480, wl_9999, true_and, and_true, true_or, or_true, if_true, if_false, and_self, or_self, false_and, and_false, false_or, or_false, not_true_eq_false, not_false_eq_true, Int.reduceEq, Int.reduceLT, Int.reduceLE, Int.reduceToNat, Int.reduceAdd, Int.reduceMul, Int.reduceSub, Int.reduceMod, Int.reduceDiv, Int.reduceNeg, Nat.reduceEqDiff, sm_rd_ok, sm_rd_ok2, sm_wt_ok, sm_cp_ok, Option.isSome_some, Option.getD_some, w_cont, Option.toList_some, Option.toList_none, List.cons_append, List.nil_append]
      rw [c_hasCell (by rw [kk_1 H]) (by rw [hw.1]; exact hs'.1) (by rw [hw.2]; exact hs'.2) (by omega), w_cont, hw.1, hw.2]
      simp only [wr_id, wr_b2i, wr_wr, b2i_eq0, b2i_eq1, b2i_01, sm_rem_eq, sm_div_eq, wl_m2, wl_m1, wl_0, wl_1, wl_2, wl_3, wl_4, wl_5, wl_6, wl_7, wl_8, wl_9, wl_10, wl_12, wl_13, wl_14, wl_16, wl_20, wl_21, wl_22, wl_23, wl_32, wl_36, wl_40, wl_41, wl_42, wl_43, wl_44, wl_45, wl_46, wl_47, wl_48, wl_57, wl_59, wl_60, wl_61, wl_62, wl_65, wl_90, wl_97, wl_99, wl_100, wl_121, wl_122, wl_140, wl_142, wl_143, wl_145, wl_147, wl_160, wl_161, wl_162, wl_242, wl_380, wl_400, wl_420, wl_820, wl_1340, wl_5480, wl_9999, true_and, and_true, true_or, or_true, if_true, if_false, and_self, or_self, false_and, and_false, false_or, or_false, not_true_eq_false, not_false_eq_true, Int.reduceEq, Int.reduceLT, Int.reduceLE, Int.reduceToNat, Int.reduceAdd, Int.reduceMul, Int.reduceSub, Int.reduceMod, Int.reduceDiv, Int.reduceNeg, Nat.reduceEqDiff, sm_rd_ok, sm_rd_ok2, sm_wt_ok, sm_cp_ok, Option.isSome_some, Option.getD_some, w_cont, Option.toList_some, Option.toList_none, List.cons_append, List.nil_append]
      rw [b67_18]
      simp only [wr_id, wr_b2i, wr_wr, b2i_eq0, b2i_eq1, b2i_01, sm_rem_eq, sm_div_eq, wl_m2, wl_m1, wl_0, wl_1, wl_2, wl_3, wl_4, wl_5, wl_6, wl_7, wl_8, wl_9, wl_10, wl_12, wl_13, wl_14, wl_16, wl_20, wl_21, wl_22, wl_23, wl_32, wl_36, wl_40, wl_41, wl_42, wl_43, wl_44, wl_45, wl_46, wl_47, wl_48, wl_57, wl_59, wl_60, wl_61, wl_62, wl_65, wl_90, wl_97, wl_99, wl_100, wl_121, wl_122, wl_140, wl_142, wl_143, wl_145, wl_147, wl_160, wl_161, wl_162, wl_242, wl_380, wl_400, wl_420, wl_820, wl_1340, wl_5480, wl_9999, true_and, and_true, true_or, or_true, if_true, if_false, and_self, or_self, false_and, and_false, false_or, or_false, not_true_eq_false, not_false_eq_true, Int.reduceEq, Int.reduceLT, Int.reduceLE, Int.reduceToNat, Int.reduceAdd, Int.reduceMul, Int.reduceSub, Int.reduceMod, Int.reduceDiv, Int.reduceNeg, Nat.reduceEqDiff, sm_rd_ok, sm_rd_ok2, sm_wt_ok, sm_cp_ok, Option.isSome_some, Option.getD_some, w_cont, Option.toList_some, Option.toList_none, List.cons_append, List.nil_append]
      by_cases hc : isC (M 0) (M 1) (i : Int) = true
      · rw [if_neg (by rw [hc]; decide), b67_21, kk_1 H, rr_1_7 H]
        simp (disch := omega) only [wr_id, wr_b2i, wr_wr, b2i_eq0, b2i_eq1, b2i_01, sm_rem_eq, sm_div_eq, wl_m2, wl_m1, wl_0, wl_1, wl_2, wl_3, wl_4, wl_5, wl_6, wl_7, wl_8, wl_9, wl_10, wl_12, wl_13, wl_14, wl_16, wl_20, wl_21, wl_22, wl_23, wl_32, wl_36, wl_40, wl_41, wl_42, wl_43, wl_44, wl_45, wl_46, wl_47, wl_48, wl_57, wl_59, wl_60, wl_61, wl_62, wl_65, wl_90, wl_97, wl_99, wl_100, wl_121, wl_122, wl_140, wl_142, wl_143, wl_145, wl_147, wl_160, wl_161, wl_162, wl_242, wl_380, wl_400, wl_420, wl_820, wl_1340, wl_5480, wl_9999, true_and, and_true, true_or, or_true, if_true, if_false, and_self, or_self, false_and, and_false, false_or, or_false, not_true_eq_false, not_false_eq_true, Int.reduceEq, Int.reduceLT, Int.reduceLE, Int.reduceToNat, Int.reduceAdd, Int.reduceMul, Int.reduceSub, Int.reduceMod, Int.reduceDiv, Int.reduceNeg, Nat.reduceEqDiff, sm_rd_ok, sm_rd_ok2, sm_wt_ok, sm_cp_ok, Option.isSome_some, Option.getD_some, w_cont, Option.toList_some, Option.toList_none, List.cons_append, List.nil_append, kk_5 H, Int.toNat_natCast, e5]
        by_cases h0 : M (120 + i) = 0
        · rw [if_pos h0, if_pos ⟨hc, h0⟩]
        · rw [if_neg h0, if_neg (fun g => h0 g.2), b67_59, show (i : Int) + 1 = ((i + 1 : Nat) : Int) by omega]
      · rw [if_pos (Bool.eq_false_iff.2 hc), if_neg (fun g => hc g.1), b67_59, show (i : Int) + 1 = ((i + 1 : Nat) : Int) by omega]
    simp only [frL]
    by_cases hc : isC (M 0) (M 1) (i : Int) = true ∧ M (120 + i) = 0
    · have ecn : cntR (fun c => isC (M 0) (M 1) (c : Int)) i (k + 1) = cntR (fun c => isC (M 0) (M 1) (c : Int)) (i + 1) k + 1 := by
        simp only [cntR]
        rw [if_pos hc.1]
        omega
      rw [ecn] at hb
      rw [if_pos hc]
      let Z1 := sm_u (sm_u Z 69 cnt (i : Int)) 63 2 ((cnt : Int) + 1)
      have r1 : ∀ a, a ≠ 63 → a ≠ 69 → Z1 a = Z a := fun a h1 h2 => by show sm_u _ _ _ _ a = _; rw [sm_u_row h1, sm_u_row h2]
      obtain ⟨Z2, g1, g2, g3, g4, g5, g6⟩ := ih (i + 1) (cnt + 1) Z1 (by omega) (by rw [r1 1 (by decide) (by decide)]; exact hw) (fun c hc => by rw [r1 5 (by decide) (by decide)]; exact h5 c hc) (by show sm_u _ _ _ _ 63 2 = _; rw [sm_u_self]; omega) (by omega)
      refine ⟨Z2, ⟨?_, g1⟩, ?_, ?_, ?_, ?_, fun Q => ?_⟩
      · rw [g2 cnt (by omega)]
        show sm_u _ _ _ _ 69 cnt = _
        rw [sm_u_ne (by decide), sm_u_self]
      · intro j hj
        rw [g2 j (by omega)]
        show sm_u _ _ _ _ 69 j = _
        rw [sm_u_ne (by decide), sm_u_eq, if_neg (by omega)]
      · rw [g3, List.length_cons]
        omega
      · intro a h1 h2
        rw [g4 a h1 h2, r1 a h1 h2]
      · intro j hj
        rw [g5 j hj]
        show sm_u _ _ _ _ 63 j = _
        rw [sm_u_eq, if_neg hj, sm_u_ne (by decide)]
      · rw [head, if_pos hc, b67_30, kk_63 H, h2]
        simp only [wr_id, wr_b2i, wr_wr, b2i_eq0, b2i_eq1, b2i_01, sm_rem_eq, sm_div_eq, wl_m2, wl_m1, wl_0, wl_1, wl_2, wl_3, wl_4, wl_5, wl_6, wl_7, wl_8, wl_9, wl_10, wl_12, wl_13, wl_14, wl_16, wl_20, wl_21, wl_22, wl_23, wl_32, wl_36, wl_40, wl_41, wl_42, wl_43, wl_44, wl_45, wl_46, wl_47, wl_48, wl_57, wl_59, wl_60, wl_61, wl_62, wl_65, wl_90, wl_97, wl_99, wl_100, wl_121, wl_122, wl_140, wl_142, wl_143, wl_145, wl_147, wl_160, wl_161, wl_162, wl_242, wl_380, wl_400, wl_420, wl_820, wl_1340, wl_5480, wl_9999, true_and, and_true, true_or, or_true, if_true, if_false, and_self, or_self, false_and, and_false, false_or, or_false, not_true_eq_false, not_false_eq_true, Int.reduceEq, Int.reduceLT, Int.reduceLE, Int.reduceToNat, Int.reduceAdd, Int.reduceMul, Int.reduceSub, Int.reduceMod, Int.reduceDiv, Int.reduceNeg, Nat.reduceEqDiff, sm_rd_ok, sm_rd_ok2, sm_wt_ok, sm_cp_ok, Option.isSome_some, Option.getD_some, w_cont, Option.toList_some, Option.toList_none, List.cons_append, List.nil_append]
        rw [wr_id (by omega) (by omega), if_neg (by omega), b67_39, kk_63 H, rr_63_1 H, h2]
        simp (disch := omega) only [wr_id, wr_b2i, wr_wr, b2i_eq0, b2i_eq1, b2i_01, sm_rem_eq, sm_div_eq, wl_m2, wl_m1, wl_0, wl_1, wl_2, wl_3, wl_4, wl_5, wl_6, wl_7, wl_8, wl_9, wl_10, wl_12, wl_13, wl_14, wl_16, wl_20, wl_21, wl_22, wl_23, wl_32, wl_36, wl_40, wl_41, wl_42, wl_43, wl_44, wl_45, wl_46, wl_47, wl_48, wl_57, wl_59, wl_60, wl_61, wl_62, wl_65, wl_90, wl_97, wl_99, wl_100, wl_121, wl_122, wl_140, wl_142, wl_143, wl_145, wl_147, wl_160, wl_161, wl_162, wl_242, wl_380, wl_400, wl_420, wl_820, wl_1340, wl_5480, wl_9999, true_and, and_true, true_or, or_true, if_true, if_false, and_self, or_self, false_and, and_false, false_or, or_false, not_true_eq_false, not_false_eq_true, Int.reduceEq, Int.reduceLT, Int.reduceLE, Int.reduceToNat, Int.reduceAdd, Int.reduceMul, Int.reduceSub, Int.reduceMod, Int.reduceDiv, Int.reduceNeg, Nat.reduceEqDiff, sm_rd_ok, sm_rd_ok2, sm_wt_ok, sm_cp_ok, Option.isSome_some, Option.getD_some, w_cont, Option.toList_some, Option.toList_none, List.cons_append, List.nil_append, kk_69 H, Int.toNat_natCast]
        rw [b67_59, show (i : Int) + 1 = ((i + 1 : Nat) : Int) by omega, sm_u_ne (by decide), h2]
        exact g6 Q
    · have ecn : cntR (fun c => isC (M 0) (M 1) (c : Int)) (i + 1) k ≤ cntR (fun c => isC (M 0) (M 1) (c : Int)) i (k + 1) := by
        simp only [cntR]
        split <;> omega
      rw [if_neg hc]
      obtain ⟨Z2, g1, g2, g3, g4, g5, g6⟩ := ih (i + 1) cnt Z (by omega) hw h5 h2 (by omega)
      refine ⟨Z2, g1, g2, g3, g4, g5, fun Q => ?_⟩
      rw [head, if_neg hc]
      exact g6 Q
theorem c_sg_loop (H : sm_sh Rf K) {M : Nat → Int} (hi : invD M) {a b : Int} (ha : 0 ≤ a ∧ a < 100) (hb : 0 ≤ b ∧ b < 100) (N : Nat) (hN : N ≤ 36) (l6 : Option sm_V) : ∀ (l : List Nat) (i : Nat) (Z : Nat → Nat → Int) (t : pnT), i + l.length = N → Z 63 2 = (N : Int) → lsA (Z 69) i l → (∀ c ∈ l, frC1 M c) → pnS Z Rf K M → rPn Z t → ∃ Z', rPn Z' (sgR M a b l t) ∧ frT Z Z' ∧ pnS Z' Rf K M ∧ Z' 63 2 = (N : Int) ∧ Z' 69 = Z 69 ∧ ∀ Q, sm_wp (d + 6) 66 32 [some (.inr (some 63)), some (.inr (some 1)), some (.inr (some 51)), some (.inl a), some (.inl b), some (.inl (i : Int)), l6] [] (Z, Rf, K, n, z) Q = sm_wp (d + 6) 66 64 [some (.inr (some 63)), some (.inr (some 1)), some (.inr (some 51)), some (.inl a), some (.inl b), some (.inl (N : Int)), l6] [] (Z', Rf, K, n, z) Q := by
  intro l
  induction l with
  | nil =>
    intro i Z t hik h2 hl hm hp ht
    refine ⟨Z, ht, frT_refl Z, hp, h2, rfl, fun Q => ?_⟩
    have : i = N := by simp at hik; exact hik
    rw [this, b66_32, kk_63 H, h2]
    simp only [wr_id, wr_b2i, wr_wr, b2i_eq0, b2i_eq1, b2i_01, sm_rem_eq, sm_div_eq, wl_m2, wl_m1, wl_0, wl_1, wl_2, wl_3, wl_4, wl_5, wl_6, wl_7, wl_8, wl_9, wl_10, wl_12, wl_13, wl_14, wl_16, wl_20, wl_21, wl_22, wl_23, wl_32, wl_36, wl_40, wl_41, wl_42, wl_43, wl_44, wl_45, wl_46, wl_47, wl_48, wl_57, wl_59, wl_60, wl_61, wl_62, wl_65, wl_90, wl_97, wl_99, wl_100, wl_121, wl_122, wl_140, wl_142, wl_143, wl_145, wl_147, wl_160, wl_161, wl_162, wl_242, wl_380, wl_400, wl_420, wl_820, wl_1340, wl_5480, wl_9999, true_and, and_true, true_or, or_true, if_true, if_false, and_self, or_self, false_and, and_false, false_or, or_false, not_true_eq_false, not_false_eq_true, Int.reduceEq, Int.reduceLT, Int.reduceLE, Int.reduceToNat, Int.reduceAdd, Int.reduceMul, Int.reduceSub, Int.reduceMod, Int.reduceDiv, Int.reduceNeg, Nat.reduceEqDiff, sm_rd_ok, sm_rd_ok2, sm_wt_ok, sm_cp_ok, Option.isSome_some, Option.getD_some, w_cont, Option.toList_some, Option.toList_none, List.cons_append, List.nil_append]
    rw [if_pos (Int.le_refl _)]
  | cons c l ih =>
    intro i Z t hik h2 hl hm hp ht
    rw [List.length_cons] at hik
    have hc := hm c List.mem_cons_self
    obtain ⟨Z1, t1, f1, s1, e1, e2, q1⟩ := c_try (d := d) (n := n) (z := z) H hi hp ha hb (frN_of hc) (Or.inl rfl : frN M (-1)) (Or.inr (by omega)) ht
    obtain ⟨Z2, t2, f2, p2, e3, e4, q2⟩ := ih (i + 1) Z1 _ (by omega) (by rw [e1]; exact h2) (by rw [e2]; exact hl.2) (fun e he => hm e (List.mem_cons_of_mem _ he)) (pnS_fr hp f1 s1) t1
    refine ⟨Z2, t2, frT_trans f1 f2, p2, e3, by rw [e4, e2], fun Q => ?_⟩
    rw [b66_32, kk_63 H, h2]
    simp only [wr_id, wr_b2i, wr_wr, b2i_eq0, b2i_eq1, b2i_01, sm_rem_eq, sm_div_eq, wl_m2, wl_m1, wl_0, wl_1, wl_2, wl_3, wl_4, wl_5, wl_6, wl_7, wl_8, wl_9, wl_10, wl_12, wl_13, wl_14, wl_16, wl_20, wl_21, wl_22, wl_23, wl_32, wl_36, wl_40, wl_41, wl_42, wl_43, wl_44, wl_45, wl_46, wl_47, wl_48, wl_57, wl_59, wl_60, wl_61, wl_62, wl_65, wl_90, wl_97, wl_99, wl_100, wl_121, wl_122, wl_140, wl_142, wl_143, wl_145, wl_147, wl_160, wl_161, wl_162, wl_242, wl_380, wl_400, wl_420, wl_820, wl_1340, wl_5480, wl_9999, true_and, and_true, true_or, or_true, if_true, if_false, and_self, or_self, false_and, and_false, false_or, or_false, not_true_eq_false, not_false_eq_true, Int.reduceEq, Int.reduceLT, Int.reduceLE, Int.reduceToNat, Int.reduceAdd, Int.reduceMul, Int.reduceSub, Int.reduceMod, Int.reduceDiv, Int.reduceNeg, Nat.reduceEqDiff, sm_rd_ok, sm_rd_ok2, sm_wt_ok, sm_cp_ok, Option.isSome_some, Option.getD_some, w_cont, Option.toList_some, Option.toList_none, List.cons_append, List.nil_append]
    rw [wr_id (by omega) (by omega), wr_id (by omega) (by omega), if_neg (by omega), b66_41, kk_63 H, rr_63_1 H]
    simp (disch := omega) only [wr_id, wr_b2i, wr_wr, b2i_eq0, b2i_eq1, b2i_01, sm_rem_eq, sm_div_eq, wl_m2, wl_m1, wl_0, wl_1, wl_2, wl_3, wl_4, wl_5, wl_6, wl_7, wl_8, wl_9, wl_10, wl_12, wl_13, wl_14, wl_16, wl_20, wl_21, wl_22, wl_23, wl_32, wl_36, wl_40, wl_41, wl_42, wl_43, wl_44, wl_45, wl_46, wl_47, wl_48, wl_57, wl_59, wl_60, wl_61, wl_62, wl_65, wl_90, wl_97, wl_99, wl_100, wl_121, wl_122, wl_140, wl_142, wl_143, wl_145, wl_147, wl_160, wl_161, wl_162, wl_242, wl_380, wl_400, wl_420, wl_820, wl_1340, wl_5480, wl_9999, true_and, and_true, true_or, or_true, if_true, if_false, and_self, or_self, false_and, and_false, false_or, or_false, not_true_eq_false, not_false_eq_true, Int.reduceEq, Int.reduceLT, Int.reduceLE, Int.reduceToNat, Int.reduceAdd, Int.reduceMul, Int.reduceSub, Int.reduceMod, Int.reduceDiv, Int.reduceNeg, Nat.reduceEqDiff, sm_rd_ok, sm_rd_ok2, sm_wt_ok, sm_cp_ok, Option.isSome_some, Option.getD_some, w_cont, Option.toList_some, Option.toList_none, List.cons_append, List.nil_append, kk_69 H, Int.toNat_natCast, hl.1]
    refine (q1 _).trans ?_
    rw [w_cont]
    simp only [wr_id, wr_b2i, wr_wr, b2i_eq0, b2i_eq1, b2i_01, sm_rem_eq, sm_div_eq, wl_m2, wl_m1, wl_0, wl_1, wl_2, wl_3, wl_4, wl_5, wl_6, wl_7, wl_8, wl_9, wl_10, wl_12, wl_13, wl_14, wl_16, wl_20, wl_21, wl_22, wl_23, wl_32, wl_36, wl_40, wl_41, wl_42, wl_43, wl_44, wl_45, wl_46, wl_47, wl_48, wl_57, wl_59, wl_60, wl_61, wl_62, wl_65, wl_90, wl_97, wl_99, wl_100, wl_121, wl_122, wl_140, wl_142, wl_143, wl_145, wl_147, wl_160, wl_161, wl_162, wl_242, wl_380, wl_400, wl_420, wl_820, wl_1340, wl_5480, wl_9999, true_and, and_true, true_or, or_true, if_true, if_false, and_self, or_self, false_and, and_false, false_or, or_false, not_true_eq_false, not_false_eq_true, Int.reduceEq, Int.reduceLT, Int.reduceLE, Int.reduceToNat, Int.reduceAdd, Int.reduceMul, Int.reduceSub, Int.reduceMod, Int.reduceDiv, Int.reduceNeg, Nat.reduceEqDiff, sm_rd_ok, sm_rd_ok2, sm_wt_ok, sm_cp_ok, Option.isSome_some, Option.getD_some, w_cont, Option.toList_some, Option.toList_none, List.cons_append, List.nil_append]
    rw [b66_58, show (i : Int) + 1 = ((i + 1 : Nat) : Int) by omega]
    exact q2 Q
theorem c_ip_loop (H : sm_sh Rf K) {M : Nat → Int} (hi : invD M) {a b : Int} (ha : 0 ≤ a ∧ a < 100) (hb : 0 ≤ b ∧ b < 100) (N : Nat) (hN : N ≤ 36) (i c : Nat) (hiN : i < N) (hc : frC1 M c) : ∀ (l : List Nat) (j : Nat) (Z : Nat → Nat → Int) (t : pnT), j + l.length = N → Z 63 2 = (N : Int) → Z 69 i = (c : Int) → lsA (Z 69) j l → (∀ e ∈ l, frC1 M e ∧ c < e) → pnS Z Rf K M → rPn Z t → ∃ Z', rPn Z' (ipR M a b c l t) ∧ frT Z Z' ∧ pnS Z' Rf K M ∧ Z' 63 2 = (N : Int) ∧ Z' 69 = Z 69 ∧ ∀ Q, sm_wp (d + 6) 66 82 [some (.inr (some 63)), some (.inr (some 1)), some (.inr (some 51)), some (.inl a), some (.inl b), some (.inl (i : Int)), some (.inl (j : Int))] [] (Z, Rf, K, n, z) Q = sm_wp (d + 6) 66 120 [some (.inr (some 63)), some (.inr (some 1)), some (.inr (some 51)), some (.inl a), some (.inl b), some (.inl (i : Int)), some (.inl (N : Int))] [] (Z', Rf, K, n, z) Q := by
  intro l
  induction l with
  | nil =>
    intro j Z t hik h2 hi69 hl hm hp ht
    refine ⟨Z, ht, frT_refl Z, hp, h2, rfl, fun Q => ?_⟩
    have : j = N := by simp at hik; exact hik
    rw [this, b66_82, kk_63 H, h2]
    simp only [wr_id, wr_b2i, wr_wr, b2i_eq0, b2i_eq1, b2i_01, sm_rem_eq, sm_div_eq, wl_m2, wl_m1, wl_0, wl_1, wl_2, wl_3, wl_4, wl_5, wl_6, wl_7, wl_8, wl_9, wl_10, wl_12, wl_13, wl_14, wl_16, wl_20, wl_21, wl_22, wl_23, wl_32, wl_36, wl_40, wl_41, wl_42, wl_43, wl_44, wl_45, wl_46, wl_47, wl_48, wl_57, wl_59, wl_60, wl_61, wl_62, wl_65, wl_90, wl_97, wl_99, wl_100, wl_121, wl_122, wl_140, wl_142, wl_143, wl_145, wl_147, wl_160, wl_161, wl_162, wl_242, wl_380, wl_400, wl_420, wl_820, wl_1340, wl_5480, wl_9999, true_and, and_true, true_or, or_true, if_true, if_false, and_self, or_self, false_and, and_false, false_or, or_false, not_true_eq_false, not_false_eq_true, Int.reduceEq, Int.reduceLT, Int.reduceLE, Int.reduceToNat, Int.reduceAdd, Int.reduceMul, Int.reduceSub, Int.reduceMod, Int.reduceDiv, Int.reduceNeg, Nat.reduceEqDiff, sm_rd_ok, sm_rd_ok2, sm_wt_ok, sm_cp_ok, Option.isSome_some, Option.getD_some, w_cont, Option.toList_some, Option.toList_none, List.cons_append, List.nil_append]
    rw [if_pos (Int.le_refl _)]
  | cons e l ih =>
    intro j Z t hik h2 hi69 hl hm hp ht
    rw [List.length_cons] at hik
    have he := hm e List.mem_cons_self
    obtain ⟨Z1, t1, f1, s1, e1, e2, q1⟩ := c_try (d := d) (n := n) (z := z) H hi hp ha hb (frN_of hc) (frN_of he.1) (Or.inr (by omega)) ht
    obtain ⟨Z2, t2, f2, p2, e3, e4, q2⟩ := ih (j + 1) Z1 _ (by omega) (by rw [e1]; exact h2) (by rw [e2]; exact hi69) (by rw [e2]; exact hl.2) (fun e he => hm e (List.mem_cons_of_mem _ he)) (pnS_fr hp f1 s1) t1
    refine ⟨Z2, t2, frT_trans f1 f2, p2, e3, by rw [e4, e2], fun Q => ?_⟩
    rw [b66_82, kk_63 H, h2]
    simp only [wr_id, wr_b2i, wr_wr, b2i_eq0, b2i_eq1, b2i_01, sm_rem_eq, sm_div_eq, wl_m2, wl_m1, wl_0, wl_1, wl_2, wl_3, wl_4, wl_5, wl_6, wl_7, wl_8, wl_9, wl_10, wl_12, wl_13, wl_14, wl_16, wl_20, wl_21, wl_22, wl_23, wl_32, wl_36, wl_40, wl_41, wl_42, wl_43, wl_44, wl_45, wl_46, wl_47, wl_48, wl_57, wl_59, wl_60, wl_61, wl_62, wl_65, wl_90, wl_97, wl_99, wl_100, wl_121, wl_122, wl_140, wl_142, wl_143, wl_145, wl_147, wl_160, wl_161, wl_162, wl_242, wl_380, wl_400, wl_420, wl_820, wl_1340, wl_5480, wl_9999, true_and, and_true, true_or, or_true, if_true, if_false, and_self, or_self, false_and, and_false, false_or, or_false, not_true_eq_false, not_false_eq_true, Int.reduceEq, Int.reduceLT, Int.reduceLE, Int.reduceToNat, Int.reduceAdd, Int.reduceMul, Int.reduceSub, Int.reduceMod, Int.reduceDiv, Int.reduceNeg, Nat.reduceEqDiff, sm_rd_ok, sm_rd_ok2, sm_wt_ok, sm_cp_ok, Option.isSome_some, Option.getD_some, w_cont, Option.toList_some, Option.toList_none, List.cons_append, List.nil_append]
    rw [wr_id (by omega) (by omega), wr_id (by omega) (by omega), if_neg (by omega), b66_91, kk_63 H, rr_63_1 H]
    simp (disch := omega) only [wr_id, wr_b2i, wr_wr, b2i_eq0, b2i_eq1, b2i_01, sm_rem_eq, sm_div_eq, wl_m2, wl_m1, wl_0, wl_1, wl_2, wl_3, wl_4, wl_5, wl_6, wl_7, wl_8, wl_9, wl_10, wl_12, wl_13, wl_14, wl_16, wl_20, wl_21, wl_22, wl_23, wl_32, wl_36, wl_40, wl_41, wl_42, wl_43, wl_44, wl_45, wl_46, wl_47, wl_48, wl_57, wl_59, wl_60, wl_61, wl_62, wl_65, wl_90, wl_97, wl_99, wl_100, wl_121, wl_122, wl_140, wl_142, wl_143, wl_145, wl_147, wl_160, wl_161, wl_162, wl_242, wl_380, wl_400, wl_420, wl_820, wl_1340, wl_5480, wl_9999, true_and, and_true, true_or, or_true, if_true, if_false, and_self, or_self, false_and, and_false, false_or, or_false, not_true_eq_false, not_false_eq_true, Int.reduceEq, Int.reduceLT, Int.reduceLE, Int.reduceToNat, Int.reduceAdd, Int.reduceMul, Int.reduceSub, Int.reduceMod, Int.reduceDiv, Int.reduceNeg, Nat.reduceEqDiff, sm_rd_ok, sm_rd_ok2, sm_wt_ok, sm_cp_ok, Option.isSome_some, Option.getD_some, w_cont, Option.toList_some, Option.toList_none, List.cons_append, List.nil_append, kk_69 H, Int.toNat_natCast, hl.1, hi69]
    refine (q1 _).trans ?_
    rw [w_cont]
    simp only [wr_id, wr_b2i, wr_wr, b2i_eq0, b2i_eq1, b2i_01, sm_rem_eq, sm_div_eq, wl_m2, wl_m1, wl_0, wl_1, wl_2, wl_3, wl_4, wl_5, wl_6, wl_7, wl_8, wl_9, wl_10, wl_12, wl_13, wl_14, wl_16, wl_20, wl_21, wl_22, wl_23, wl_32, wl_36, wl_40, wl_41, wl_42, wl_43, wl_44, wl_45, wl_46, wl_47, wl_48, wl_57, wl_59, wl_60, wl_61, wl_62, wl_65, wl_90, wl_97, wl_99, wl_100, wl_121, wl_122, wl_140, wl_142, wl_143, wl_145, wl_147, wl_160, wl_161, wl_162, wl_242, wl_380, wl_400, wl_420, wl_820, wl_1340, wl_5480, wl_9999, true_and, and_true, true_or, or_true, if_true, if_false, and_self, or_self, false_and, and_false, false_or, or_false, not_true_eq_false, not_false_eq_true, Int.reduceEq, Int.reduceLT, Int.reduceLE, Int.reduceToNat, Int.reduceAdd, Int.reduceMul, Int.reduceSub, Int.reduceMod, Int.reduceDiv, Int.reduceNeg, Nat.reduceEqDiff, sm_rd_ok, sm_rd_ok2, sm_wt_ok, sm_cp_ok, Option.isSome_some, Option.getD_some, w_cont, Option.toList_some, Option.toList_none, List.cons_append, List.nil_append]
    rw [b66_114, show (j : Int) + 1 = ((j + 1 : Nat) : Int) by omega]
    exact q2 Q
theorem c_pr_loop (H : sm_sh Rf K) {M : Nat → Int} (hi : invD M) {a b : Int} (ha : 0 ≤ a ∧ a < 100) (hb : 0 ≤ b ∧ b < 100) (N : Nat) (hN : N ≤ 36) : ∀ (l : List Nat) (i : Nat) (Z : Nat → Nat → Int) (t : pnT) (l6 : Option sm_V), i + l.length = N → Z 63 2 = (N : Int) → lsA (Z 69) i l → (∀ c ∈ l, frC1 M c) → ascL l → pnS Z Rf K M → rPn Z t → ∃ Z', rPn Z' (prR M a b l t) ∧ frT Z Z' ∧ pnS Z' Rf K M ∧ ∀ Q, sm_wp (d + 6) 66 67 [some (.inr (some 63)), some (.inr (some 1)), some (.inr (some 51)), some (.inl a), some (.inl b), some (.inl (i : Int)), l6] [] (Z, Rf, K, n, z) Q = Q (some (.inl (if (prR M a b l t).1 = -1 then 0 else 1))) (Z', Rf, K, n, z) := by
  intro l
  induction l with
  | nil =>
    intro i Z t l6 hik h2 hl hm hs hp ht
    refine ⟨Z, ht, frT_refl Z, hp, fun Q => ?_⟩
    have : i = N := by simp at hik; exact hik
    rw [this, b66_67, kk_63 H, h2]
    simp only [wr_id, wr_b2i, wr_wr, b2i_eq0, b2i_eq1, b2i_01, sm_rem_eq, sm_div_eq, wl_m2, wl_m1, wl_0, wl_1, wl_2, wl_3, wl_4, wl_5, wl_6, wl_7, wl_8, wl_9, wl_10, wl_12, wl_13, wl_14, wl_16, wl_20, wl_21, wl_22, wl_23, wl_32, wl_36, wl_40, wl_41, wl_42, wl_43, wl_44, wl_45, wl_46, wl_47, wl_48, wl_57, wl_59, wl_60, wl_61, wl_62, wl_65, wl_90, wl_97, wl_99, wl_100, wl_121, wl_122, wl_140, wl_142, wl_143, wl_145, wl_147, wl_160, wl_161, wl_162, wl_242, wl_380, wl_400, wl_420, wl_820, wl_1340, wl_5480, wl_9999, true_and, and_true, true_or, or_true, if_true, if_false, and_self, or_self, false_and, and_false, false_or, or_false, not_true_eq_false, not_false_eq_true, Int.reduceEq, Int.reduceLT, Int.reduceLE, Int.reduceToNat, Int.reduceAdd, Int.reduceMul, Int.reduceSub, Int.reduceMod, Int.reduceDiv, Int.reduceNeg, Nat.reduceEqDiff, sm_rd_ok, sm_rd_ok2, sm_wt_ok, sm_cp_ok, Option.isSome_some, Option.getD_some, w_cont, Option.toList_some, Option.toList_none, List.cons_append, List.nil_append]
    rw [if_pos (Int.le_refl _), b66_126, kk_63 H, ht.1]
    show _ = Q (some (.inl (if t.1 = -1 then 0 else 1))) (Z, Rf, K, n, z)
    by_cases h : t.1 = -1
    · rw [if_pos h]
      simp only [wr_id, wr_b2i, wr_wr, b2i_eq0, b2i_eq1, b2i_01, sm_rem_eq, sm_div_eq, wl_m2, wl_m1, wl_0, wl_1, wl_2, wl_3, wl_4, wl_5, wl_6, wl_7, wl_8, wl_9, wl_10, wl_12, wl_13, wl_14, wl_16, wl_20, wl_21, wl_22, wl_23, wl_32, wl_36, wl_40, wl_41, wl_42, wl_43, wl_44, wl_45, wl_46, wl_47, wl_48, wl_57, wl_59, wl_60, wl_61, wl_62, wl_65, wl_90, wl_97, wl_99, wl_100, wl_121, wl_122, wl_140, wl_142, wl_143, wl_145, wl_147, wl_160, wl_161, wl_162, wl_242, wl_380, wl_400, wl_420, wl_820, wl_1340, wl_5480, wl_9999, true_and, and_true, true_or, or_true, if_true, if_false, and_self, or_self, false_and, and_false, false_or, or_false, not_true_eq_false, not_false_eq_true, Int.reduceEq, Int.reduceLT, Int.reduceLE, Int.reduceToNat, Int.reduceAdd, Int.reduceMul, Int.reduceSub, Int.reduceMod, Int.reduceDiv, Int.reduceNeg, Nat.reduceEqDiff, sm_rd_ok, sm_rd_ok2, sm_wt_ok, sm_cp_ok, Option.isSome_some, Option.getD_some, w_cont, Option.toList_some, Option.toList_none, List.cons_append, List.nil_append]
    · rw [if_neg h]
      simp only [wr_id, wr_b2i, wr_wr, b2i_eq0, b2i_eq1, b2i_01, sm_rem_eq, sm_div_eq, wl_m2, wl_m1, wl_0, wl_1, wl_2, wl_3, wl_4, wl_5, wl_6, wl_7, wl_8, wl_9, wl_10, wl_12, wl_13, wl_14, wl_16, wl_20, wl_21, wl_22, wl_23, wl_32, wl_36, wl_40, wl_41, wl_42, wl_43, wl_44, wl_45, wl_46, wl_47, wl_48, wl_57, wl_59, wl_60, wl_61, wl_62, wl_65, wl_90, wl_97, wl_99, wl_100, wl_121, wl_122, wl_140, wl_142, wl_143, wl_145, wl_147, wl_160, wl_161, wl_162, wl_242, wl_380, wl_400, wl_420, wl_820, wl_1340, wl_5480, wl_9999, true_and, and_true, true_or, or_true, if_true, if_false, and_self, or_self, false_and, and_false, false_or, or_false, not_true_eq_false, not_false_eq_true, Int.reduceEq, Int.reduceLT, Int.reduceLE, Int.reduceToNat, Int.reduceAdd, Int.reduceMul, Int.reduceSub, Int.reduceMod, Int.reduceDiv, Int.reduceNeg, Nat.reduceEqDiff, sm_rd_ok, sm_rd_ok2, sm_wt_ok, sm_cp_ok, Option.isSome_some, Option.getD_some, w_cont, Option.toList_some, Option.toList_none, List.cons_append, List.nil_append]
  | cons c l ih =>
    intro i Z t l6 hik h2 hl hm hs hp ht
    rw [List.length_cons] at hik
    have hc := hm c List.mem_cons_self
    obtain ⟨Z1, t1, f1, p1, e1, e2, q1⟩ := c_ip_loop (d := d) (n := n) (z := z) H hi ha hb N hN i c (by omega) hc l (i + 1) Z t (by omega) h2 hl.1 hl.2 (fun e he => ⟨hm e (List.mem_cons_of_mem _ he), hs.1 e he⟩) hp ht
    obtain ⟨Z2, t2, f2, p2, q2⟩ := ih (i + 1) Z1 _ (some (.inl (N : Int))) (by omega) e1 (by rw [e2]; exact hl.2) (fun e he => hm e (List.mem_cons_of_mem _ he)) hs.2 p1 t1
    refine ⟨Z2, t2, frT_trans f1 f2, p2, fun Q => ?_⟩
    rw [b66_67, kk_63 H, h2]
    simp only [wr_id, wr_b2i, wr_wr, b2i_eq0, b2i_eq1, b2i_01, sm_rem_eq, sm_div_eq, wl_m2, wl_m1, wl_0, wl_1, wl_2, wl_3, wl_4, wl_5, wl_6, wl_7, wl_8, wl_9, wl_10, wl_12, wl_13, wl_14, wl_16, wl_20, wl_21, wl_22, wl_23, wl_32, wl_36, wl_40, wl_41, wl_42, wl_43, wl_44, wl_45, wl_46, wl_47, wl_48, wl_57, wl_59, wl_60, wl_61, wl_62, wl_65, wl_90, wl_97, wl_99, wl_100, wl_121, wl_122, wl_140, wl_142, wl_143, wl_145, wl_147, wl_160, wl_161, wl_162, wl_242, wl_380, wl_400, wl_420, wl_820, wl_1340, wl_5480, wl_9999, true_and, and_true, true_or, or_true, if_true, if_false, and_self, or_self, false_and, and_false, false_or, or_false, not_true_eq_false, not_false_eq_true, Int.reduceEq, Int.reduceLT, Int.reduceLE, Int.reduceToNat, Int.reduceAdd, Int.reduceMul, Int.reduceSub, Int.reduceMod, Int.reduceDiv, Int.reduceNeg, Nat.reduceEqDiff, sm_rd_ok, sm_rd_ok2, sm_wt_ok, sm_cp_ok, Option.isSome_some, Option.getD_some, w_cont, Option.toList_some, Option.toList_none, List.cons_append, List.nil_append]
    rw [wr_id (by omega) (by omega), wr_id (by omega) (by omega), if_neg (by omega), b66_76, show (i : Int) + 1 = ((i + 1 : Nat) : Int) by omega]
    refine (q1 Q).trans ?_
    rw [b66_120, show (i : Int) + 1 = ((i + 1 : Nat) : Int) by omega]
    exact q2 Q
def plO (M : Nat → Int) (a b w : Int) : Prop := isC (M 0) (M 1) a = true ∧ isC (M 0) (M 1) b = true ∧ ¬ a = b ∧ (0 ≤ w ∧ w ≤ 3) ∧ M 0 * M 1 ≤ 36
def plw (t : pnT) (w : Int) : Int := if t.1 = -1 then -1 else if w = 0 then t.1 else if w = 1 then t.2.1 else if w = 2 then t.2.2.1 else t.2.2.2
theorem c_seek (H : sm_sh Rf K) (hz : sm_zs Z) (hst : stI Z) {M : Nat → Int} (hi : invD M) (hr : rD Z Rf K M 1) {a b : Int} (ha : 0 ≤ a ∧ a < 100) (hb : 0 ≤ b ∧ b < 100) (h36 : M 0 * M 1 ≤ 36) : ∃ Z', rPn Z' (plS M a b) ∧ frT Z Z' ∧ ∀ Q, sm_call (d + 6) 66 [.inr (some 63), .inr (some 1), .inr (some 51), .inl a, .inl b] (Z, Rf, K, n, z) Q = Q (some (.inl (if (plS M a b).1 = -1 then 0 else 1))) (Z', Rf, K, n, z) := by
  have hsz := hi.1.1
  unfold szN at hsz
  have hl36 := land_le hsz.1 hsz.2 h36
  let Z0 := sm_u (sm_u Z 63 7 0) 63 2 0
  have r0 : ∀ a, a ≠ 63 → Z0 a = Z a := fun a h => by show sm_u _ _ _ _ a = _; rw [sm_u_row h, sm_u_row h]
  obtain ⟨Z1, g1, _, g3, g4, g5, q1⟩ := c_dry_loop (d := d + 4) (n := n) (z := z) H hi.1.1 hi.2.2.2.1 100 0 0 Z0 (by omega) (by rw [r0 1 (by decide)]; exact ⟨hr.1.1, hr.1.2.1⟩) (fun c hc => by rw [r0 5 (by decide)]; exact (hr.2.1 c hc).2.2.2.1) (by show sm_u _ _ _ _ 63 2 = _; rw [sm_u_self]; rfl) (by omega)
  have fr1 : frT Z Z1 := ⟨fun a ha => by rw [g4 a (by omega) (by omega), r0 a (by omega)], by rw [g4 59 (by decide) (by decide), r0 59 (by decide)], by rw [g4 67 (by decide) (by decide), r0 67 (by decide)]⟩
  have e17 : Z1 63 7 = 0 := by
    rw [g5 7 (by decide)]
    show sm_u _ _ _ _ 63 7 = _
    rw [sm_u_eq, if_neg (by decide), sm_u_self]
  obtain ⟨Z2, f2, g2, q2⟩ := c_take (d := d + 3) (n := n) (z := z) (M := M) H (zs_frT fr1 hz) hi.1.1 hi.2.2.2.1 (by rw [fr1.1 1 (by omega)]; exact ⟨hr.1.1, hr.1.2.1⟩) (fun c hc => by rw [fr1.1 2 (by omega)]; exact (hr.2.1 c hc).1) (fun c hc => by rw [fr1.1 5 (by omega)]; exact (hr.2.1 c hc).2.2.2.1)
  have fr2 : frT Z Z2 := frT_trans fr1 ⟨fun a ha => f2 a (by omega) (by omega), by rw [f2 59 (by decide) (by decide)], by rw [f2 67 (by decide) (by decide)]⟩
  have p2 : pnS Z2 Rf K M := ⟨zs_frT fr2 hz, stI_frT fr2 hst, rD_frT fr2 hr, g2⟩
  have t0 : rPn Z2 (-1, 0, 0, 0) := ⟨by rw [f2 63 (by decide) (by decide), e17]; rfl, fun g => absurd rfl g, Or.inl rfl⟩
  obtain ⟨Z3, t3, f3, s3, e32, e369, q3⟩ := c_try (d := d) (n := n) (z := z) H hi p2 ha hb (Or.inl rfl : frN M (-1)) (Or.inl rfl : frN M (-1)) (Or.inl rfl) t0
  have hlen := frL_len (M := M) 100 0
  have h69 : Z3 69 = Z1 69 := by rw [e369, f2 69 (by decide) (by decide)]
  have z32 : Z3 63 2 = (((frL M 100 0).length : Nat) : Int) := by
    rw [e32, f2 63 (by decide) (by decide), g3]
    omega
  obtain ⟨Z4, t4, f4, p4, e42, e469, q4⟩ := c_sg_loop (d := d) (n := n) (z := z) H hi ha hb (frL M 100 0).length (by omega) none (frL M 100 0) 0 Z3 _ (by omega) z32 (by rw [h69]; exact g1) (frL_mem 100 0) (pnS_fr p2 f3 s3) t3
  obtain ⟨Z5, t5, f5, p5, q5⟩ := c_pr_loop (d := d) (n := n) (z := z) H hi ha hb (frL M 100 0).length (by omega) (frL M 100 0) 0 Z4 _ none (by omega) e42 (by rw [e469, h69]; exact g1) (frL_mem 100 0) (frL_asc 100 0) p4 t4
  refine ⟨Z5, t5, frT_trans fr2 (frT_trans f3 (frT_trans f4 f5)), fun Q => ?_⟩
  rw [ce66, b66_0, kk_63 H]
  simp only [wr_id, wr_b2i, wr_wr, b2i_eq0, b2i_eq1, b2i_01, sm_rem_eq, sm_div_eq, wl_m2, wl_m1, wl_0, wl_1, wl_2, wl_3, wl_4, wl_5, wl_6, wl_7, wl_8, wl_9, wl_10, wl_12, wl_13, wl_14, wl_16, wl_20, wl_21, wl_22, wl_23, wl_32, wl_36, wl_40, wl_41, wl_42, wl_43, wl_44, wl_45, wl_46, wl_47, wl_48, wl_57, wl_59, wl_60, wl_61, wl_62, wl_65, wl_90, wl_97, wl_99, wl_100, wl_121, wl_122, wl_140, wl_142, wl_143, wl_145, wl_147, wl_160, wl_161, wl_162, wl_242, wl_380, wl_400, wl_420, wl_820, wl_1340, wl_5480, wl_9999, true_and, and_true, true_or, or_true, if_true, if_false, and_self, or_self, false_and, and_false, false_or, or_false, not_true_eq_false, not_false_eq_true, Int.reduceEq, Int.reduceLT, Int.reduceLE, Int.reduceToNat, Int.reduceAdd, Int.reduceMul, Int.reduceSub, Int.reduceMod, Int.reduceDiv, Int.reduceNeg, Nat.reduceEqDiff, sm_rd_ok, sm_rd_ok2, sm_wt_ok, sm_cp_ok, Option.isSome_some, Option.getD_some, w_cont, Option.toList_some, Option.toList_none, List.cons_append, List.nil_append]
  rw [ce67, b67_0, kk_63 H]
  simp only [wr_id, wr_b2i, wr_wr, b2i_eq0, b2i_eq1, b2i_01, sm_rem_eq, sm_div_eq, wl_m2, wl_m1, wl_0, wl_1, wl_2, wl_3, wl_4, wl_5, wl_6, wl_7, wl_8, wl_9, wl_10, wl_12, wl_13, wl_14, wl_16, wl_20, wl_21, wl_22, wl_23, wl_32, wl_36, wl_40, wl_41, wl_42, wl_43, wl_44, wl_45, wl_46, wl_47, wl_48, wl_57, wl_59, wl_60, wl_61, wl_62, wl_65, wl_90, wl_97, wl_99, wl_100, wl_121, wl_122, wl_140, wl_142, wl_143, wl_145, wl_147, wl_160, wl_161, wl_162, wl_242, wl_380, wl_400, wl_420, wl_820, wl_1340, wl_5480, wl_9999, true_and, and_true, true_or, or_true, if_true, if_false, and_self, or_self, false_and, and_false, false_or, or_false, not_true_eq_false, not_false_eq_true, Int.reduceEq, Int.reduceLT, Int.reduceLE, Int.reduceToNat, Int.reduceAdd, Int.reduceMul, Int.reduceSub, Int.reduceMod, Int.reduceDiv, Int.reduceNeg, Nat.reduceEqDiff, sm_rd_ok, sm_rd_ok2, sm_wt_ok, sm_cp_ok, Option.isSome_some, Option.getD_some, w_cont, Option.toList_some, Option.toList_none, List.cons_append, List.nil_append]
  refine (q1 _).trans ?_
  rw [w_cont]
  simp only [wr_id, wr_b2i, wr_wr, b2i_eq0, b2i_eq1, b2i_01, sm_rem_eq, sm_div_eq, wl_m2, wl_m1, wl_0, wl_1, wl_2, wl_3, wl_4, wl_5, wl_6, wl_7, wl_8, wl_9, wl_10, wl_12, wl_13, wl_14, wl_16, wl_20, wl_21, wl_22, wl_23, wl_32, wl_36, wl_40, wl_41, wl_42, wl_43, wl_44, wl_45, wl_46, wl_47, wl_48, wl_57, wl_59, wl_60, wl_61, wl_62, wl_65, wl_90, wl_97, wl_99, wl_100, wl_121, wl_122, wl_140, wl_142, wl_143, wl_145, wl_147, wl_160, wl_161, wl_162, wl_242, wl_380, wl_400, wl_420, wl_820, wl_1340, wl_5480, wl_9999, true_and, and_true, true_or, or_true, if_true, if_false, and_self, or_self, false_and, and_false, false_or, or_false, not_true_eq_false, not_false_eq_true, Int.reduceEq, Int.reduceLT, Int.reduceLE, Int.reduceToNat, Int.reduceAdd, Int.reduceMul, Int.reduceSub, Int.reduceMod, Int.reduceDiv, Int.reduceNeg, Nat.reduceEqDiff, sm_rd_ok, sm_rd_ok2, sm_wt_ok, sm_cp_ok, Option.isSome_some, Option.getD_some, w_cont, Option.toList_some, Option.toList_none, List.cons_append, List.nil_append]
  rw [b66_10, kk_51 H, rr_51_0 H]
  simp only [wr_id, wr_b2i, wr_wr, b2i_eq0, b2i_eq1, b2i_01, sm_rem_eq, sm_div_eq, wl_m2, wl_m1, wl_0, wl_1, wl_2, wl_3, wl_4, wl_5, wl_6, wl_7, wl_8, wl_9, wl_10, wl_12, wl_13, wl_14, wl_16, wl_20, wl_21, wl_22, wl_23, wl_32, wl_36, wl_40, wl_41, wl_42, wl_43, wl_44, wl_45, wl_46, wl_47, wl_48, wl_57, wl_59, wl_60, wl_61, wl_62, wl_65, wl_90, wl_97, wl_99, wl_100, wl_121, wl_122, wl_140, wl_142, wl_143, wl_145, wl_147, wl_160, wl_161, wl_162, wl_242, wl_380, wl_400, wl_420, wl_820, wl_1340, wl_5480, wl_9999, true_and, and_true, true_or, or_true, if_true, if_false, and_self, or_self, false_and, and_false, false_or, or_false, not_true_eq_false, not_false_eq_true, Int.reduceEq, Int.reduceLT, Int.reduceLE, Int.reduceToNat, Int.reduceAdd, Int.reduceMul, Int.reduceSub, Int.reduceMod, Int.reduceDiv, Int.reduceNeg, Nat.reduceEqDiff, sm_rd_ok, sm_rd_ok2, sm_wt_ok, sm_cp_ok, Option.isSome_some, Option.getD_some, w_cont, Option.toList_some, Option.toList_none, List.cons_append, List.nil_append, kk_52 H]
  refine (q2 _).trans ?_
  rw [w_cont]
  simp only [wr_id, wr_b2i, wr_wr, b2i_eq0, b2i_eq1, b2i_01, sm_rem_eq, sm_div_eq, wl_m2, wl_m1, wl_0, wl_1, wl_2, wl_3, wl_4, wl_5, wl_6, wl_7, wl_8, wl_9, wl_10, wl_12, wl_13, wl_14, wl_16, wl_20, wl_21, wl_22, wl_23, wl_32, wl_36, wl_40, wl_41, wl_42, wl_43, wl_44, wl_45, wl_46, wl_47, wl_48, wl_57, wl_59, wl_60, wl_61, wl_62, wl_65, wl_90, wl_97, wl_99, wl_100, wl_121, wl_122, wl_140, wl_142, wl_143, wl_145, wl_147, wl_160, wl_161, wl_162, wl_242, wl_380, wl_400, wl_420, wl_820, wl_1340, wl_5480, wl_9999, true_and, and_true, true_or, or_true, if_true, if_false, and_self, or_self, false_and, and_false, false_or, or_false, not_true_eq_false, not_false_eq_true, Int.reduceEq, Int.reduceLT, Int.reduceLE, Int.reduceToNat, Int.reduceAdd, Int.reduceMul, Int.reduceSub, Int.reduceMod, Int.reduceDiv, Int.reduceNeg, Nat.reduceEqDiff, sm_rd_ok, sm_rd_ok2, sm_wt_ok, sm_cp_ok, Option.isSome_some, Option.getD_some, w_cont, Option.toList_some, Option.toList_none, List.cons_append, List.nil_append]
  rw [b66_18, kk_63 H]
  simp only [wr_id, wr_b2i, wr_wr, b2i_eq0, b2i_eq1, b2i_01, sm_rem_eq, sm_div_eq, wl_m2, wl_m1, wl_0, wl_1, wl_2, wl_3, wl_4, wl_5, wl_6, wl_7, wl_8, wl_9, wl_10, wl_12, wl_13, wl_14, wl_16, wl_20, wl_21, wl_22, wl_23, wl_32, wl_36, wl_40, wl_41, wl_42, wl_43, wl_44, wl_45, wl_46, wl_47, wl_48, wl_57, wl_59, wl_60, wl_61, wl_62, wl_65, wl_90, wl_97, wl_99, wl_100, wl_121, wl_122, wl_140, wl_142, wl_143, wl_145, wl_147, wl_160, wl_161, wl_162, wl_242, wl_380, wl_400, wl_420, wl_820, wl_1340, wl_5480, wl_9999, true_and, and_true, true_or, or_true, if_true, if_false, and_self, or_self, false_and, and_false, false_or, or_false, not_true_eq_false, not_false_eq_true, Int.reduceEq, Int.reduceLT, Int.reduceLE, Int.reduceToNat, Int.reduceAdd, Int.reduceMul, Int.reduceSub, Int.reduceMod, Int.reduceDiv, Int.reduceNeg, Nat.reduceEqDiff, sm_rd_ok, sm_rd_ok2, sm_wt_ok, sm_cp_ok, Option.isSome_some, Option.getD_some, w_cont, Option.toList_some, Option.toList_none, List.cons_append, List.nil_append]
  refine (q3 _).trans ?_
  rw [w_cont]
  simp only [wr_id, wr_b2i, wr_wr, b2i_eq0, b2i_eq1, b2i_01, sm_rem_eq, sm_div_eq, wl_m2, wl_m1, wl_0, wl_1, wl_2, wl_3, wl_4, wl_5, wl_6, wl_7, wl_8, wl_9, wl_10, wl_12, wl_13, wl_14, wl_16, wl_20, wl_21, wl_22, wl_23, wl_32, wl_36, wl_40, wl_41, wl_42, wl_43, wl_44, wl_45, wl_46, wl_47, wl_48, wl_57, wl_59, wl_60, wl_61, wl_62, wl_65, wl_90, wl_97, wl_99, wl_100, wl_121, wl_122, wl_140, wl_142, wl_143, wl_145, wl_147, wl_160, wl_161, wl_162, wl_242, wl_380, wl_400, wl_420, wl_820, wl_1340, wl_5480, wl_9999, true_and, and_true, true_or, or_true, if_true, if_false, and_self, or_self, false_and, and_false, false_or, or_false, not_true_eq_false, not_false_eq_true, Int.reduceEq, Int.reduceLT, Int.reduceLE, Int.reduceToNat, Int.reduceAdd, Int.reduceMul, Int.reduceSub, Int.reduceMod, Int.reduceDiv, Int.reduceNeg, Nat.reduceEqDiff, sm_rd_ok, sm_rd_ok2, sm_wt_ok, sm_cp_ok, Option.isSome_some, Option.getD_some, w_cont, Option.toList_some, Option.toList_none, List.cons_append, List.nil_append]
  rw [b66_29]
  refine (q4 Q).trans ?_
  rw [b66_64]
  exact q5 Q
theorem c_plan (H : sm_sh Rf K) (hz : sm_zs Z) (hst : stI Z) {M : Nat → Int} (hi : invD M) (hr : rD Z Rf K M 1) {a b w : Int} (ha : aI a) (hb : aI b) (hw : aI w) : ∃ Z', frT Z Z' ∧ ∀ Q, sm_call (d + 7) 104 [.inr (some 0), .inl a, .inl b, .inl w] (Z, Rf, K, n, z) Q = Q (some (.inl (if isC (M 0) (M 1) a = true ∧ isC (M 0) (M 1) b = true ∧ ¬ a = b ∧ (0 ≤ w ∧ w ≤ 3) ∧ M 0 * M 1 ≤ 36 then plw (plS M a b) w else -1))) (Z', Rf, K, n, z) := by
  have hsz := szC_of hi hr
  have hs := hi.1.1
  unfold szN at hs
  have hm1 : 0 ≤ M 0 * M 1 := Int.mul_nonneg (by omega) (by omega)
  have hm2 : M 0 * M 1 ≤ 10 * 10 := Int.mul_le_mul hs.1.2 hs.2.2 (by omega) (by omega)
  have ha' := ha
  have hb' := hb
  unfold aI at ha' hb' hw
  have head : ∀ Q, sm_call (d + 7) 104 [.inr (some 0), .inl a, .inl b, .inl w] (Z, Rf, K, n, z) Q = if isC (M 0) (M 1) a = true ∧ isC (M 0) (M 1) b = true ∧ ¬ a = b ∧ (0 ≤ w ∧ w ≤ 3) ∧ M 0 * M 1 ≤ 36 then sm_wp (d + 7) 104 56 [some (.inr (some 0)), some (.inl a), some (.inl b), some (.inl w)] [] (Z, Rf, K, n, z) Q else Q (some (.inl (-1))) (Z, Rf, K, n, z) := by
    intro Q
    rw [ce104, b104_0, kk_0 H, rr_0_0 H]
    simp only [wr_id, wr_b2i, wr_wr, b2i_eq0, b2i_eq1, b2i_01, sm_rem_eq, sm_div_eq, wl_m2, wl_m1, wl_0, wl_1, wl_2, wl_3, wl_4, wl_5, wl_6, wl_7, wl_8, wl_9, wl_10, wl_12, wl_13, wl_14, wl_16, wl_20, wl_21, wl_22, wl_23, wl_32, wl_36, wl_40, wl_41, wl_42, wl_43, wl_44, wl_45, wl_46, wl_47, wl_48, wl_57, wl_59, wl_60, wl_61, wl_62, wl_65, wl_90, wl_97, wl_99, wl_100, wl_121, wl_122, wl_140, wl_142, wl_143, wl_145, wl_147, wl_160, wl_161, wl_162, wl_242, wl_380, wl_400, wl_420, wl_820, wl_1340, wl_5480, wl_9999, true_and, and_true, true_or, or_true, if_true, if_false, and_self, or_self, false_and, and_false, false_or, or_false, not_true_eq_false, not_false_eq_true, Int.reduceEq, Int.reduceLT, Int.reduceLE, Int.reduceToNat, Int.reduceAdd, Int.reduceMul, Int.reduceSub, Int.reduceMod, Int.reduceDiv, Int.reduceNeg, Nat.reduceEqDiff, sm_rd_ok, sm_rd_ok2, sm_wt_ok, sm_cp_ok, Option.isSome_some, Option.getD_some, w_cont, Option.toList_some, Option.toList_none, List.cons_append, List.nil_append, kk_1 H]
    rw [c_hasCell (by rw [kk_1 H]) hsz.1 hsz.2 ha, w_cont, hr.1.1, hr.1.2.1]
    simp only [wr_id, wr_b2i, wr_wr, b2i_eq0, b2i_eq1, b2i_01, sm_rem_eq, sm_div_eq, wl_m2, wl_m1, wl_0, wl_1, wl_2, wl_3, wl_4, wl_5, wl_6, wl_7, wl_8, wl_9, wl_10, wl_12, wl_13, wl_14, wl_16, wl_20, wl_21, wl_22, wl_23, wl_32, wl_36, wl_40, wl_41, wl_42, wl_43, wl_44, wl_45, wl_46, wl_47, wl_48, wl_57, wl_59, wl_60, wl_61, wl_62, wl_65, wl_90, wl_97, wl_99, wl_100, wl_121, wl_122, wl_140, wl_142, wl_143, wl_145, wl_147, wl_160, wl_161, wl_162, wl_242, wl_380, wl_400, wl_420, wl_820, wl_1340, wl_5480, wl_9999, true_and, and_true, true_or, or_true, if_true, if_false, and_self, or_self, false_and, and_false, false_or, or_false, not_true_eq_false, not_false_eq_true, Int.reduceEq, Int.reduceLT, Int.reduceLE, Int.reduceToNat, Int.reduceAdd, Int.reduceMul, Int.reduceSub, Int.reduceMod, Int.reduceDiv, Int.reduceNeg, Nat.reduceEqDiff, sm_rd_ok, sm_rd_ok2, sm_wt_ok, sm_cp_ok, Option.isSome_some, Option.getD_some, w_cont, Option.toList_some, Option.toList_none, List.cons_append, List.nil_append]
    rw [b104_8]
    simp only [wr_id, wr_b2i, wr_wr, b2i_eq0, b2i_eq1, b2i_01, sm_rem_eq, sm_div_eq, wl_m2, wl_m1, wl_0, wl_1, wl_2, wl_3, wl_4, wl_5, wl_6, wl_7, wl_8, wl_9, wl_10, wl_12, wl_13, wl_14, wl_16, wl_20, wl_21, wl_22, wl_23, wl_32, wl_36, wl_40, wl_41, wl_42, wl_43, wl_44, wl_45, wl_46, wl_47, wl_48, wl_57, wl_59, wl_60, wl_61, wl_62, wl_65, wl_90, wl_97, wl_99, wl_100, wl_121, wl_122, wl_140, wl_142, wl_143, wl_145, wl_147, wl_160, wl_161, wl_162, wl_242, wl_380, wl_400, wl_420, wl_820, wl_1340, wl_5480, wl_9999, true_and, and_true, true_or, or_true, if_true, if_false, and_self, or_self, false_and, and_false, false_or, or_false, not_true_eq_false, not_false_eq_true, Int.reduceEq, Int.reduceLT, Int.reduceLE, Int.reduceToNat, Int.reduceAdd, Int.reduceMul, Int.reduceSub, Int.reduceMod, Int.reduceDiv, Int.reduceNeg, Nat.reduceEqDiff, sm_rd_ok, sm_rd_ok2, sm_wt_ok, sm_cp_ok, Option.isSome_some, Option.getD_some, w_cont, Option.toList_some, Option.toList_none, List.cons_append, List.nil_append]
    by_cases h1 : isC (M 0) (M 1) a = true
    · rw [if_neg (by rw [h1]; decide), b104_11, kk_0 H, rr_0_0 H]
      simp only [wr_id, wr_b2i, wr_wr, b2i_eq0, b2i_eq1, b2i_01, sm_rem_eq, sm_div_eq, wl_m2, wl_m1, wl_0, wl_1, wl_2, wl_3, wl_4, wl_5, wl_6, wl_7, wl_8, wl_9, wl_10, wl_12, wl_13, wl_14, wl_16, wl_20, wl_21, wl_22, wl_23, wl_32, wl_36, wl_40, wl_41, wl_42, wl_43, wl_44, wl_45, wl_46, wl_47, wl_48, wl_57, wl_59, wl_60, wl_61, wl_62, wl_65, wl_90, wl_97, wl_99, wl_100, wl_121, wl_122, wl_140, wl_142, wl_143, wl_145, wl_147, wl_160, wl_161, wl_162, wl_242, wl_380, wl_400, wl_420, wl_820, wl_1340, wl_5480, wl_9999, true_and, and_true, true_or, or_true, if_true, if_false, and_self, or_self, false_and, and_false, false_or, or_false, not_true_eq_false, not_false_eq_true, Int.reduceEq, Int.reduceLT, Int.reduceLE, Int.reduceToNat, Int.reduceAdd, Int.reduceMul, Int.reduceSub, Int.reduceMod, Int.reduceDiv, Int.reduceNeg, Nat.reduceEqDiff, sm_rd_ok, sm_rd_ok2, sm_wt_ok, sm_cp_ok, Option.isSome_some, Option.getD_some, w_cont, Option.toList_some, Option.toList_none, List.cons_append, List.nil_append, kk_1 H]
      rw [c_hasCell (by rw [kk_1 H]) hsz.1 hsz.2 hb, w_cont, hr.1.1, hr.1.2.1]
      simp only [wr_id, wr_b2i, wr_wr, b2i_eq0, b2i_eq1, b2i_01, sm_rem_eq, sm_div_eq, wl_m2, wl_m1, wl_0, wl_1, wl_2, wl_3, wl_4, wl_5, wl_6, wl_7, wl_8, wl_9, wl_10, wl_12, wl_13, wl_14, wl_16, wl_20, wl_21, wl_22, wl_23, wl_32, wl_36, wl_40, wl_41, wl_42, wl_43, wl_44, wl_45, wl_46, wl_47, wl_48, wl_57, wl_59, wl_60, wl_61, wl_62, wl_65, wl_90, wl_97, wl_99, wl_100, wl_121, wl_122, wl_140, wl_142, wl_143, wl_145, wl_147, wl_160, wl_161, wl_162, wl_242, wl_380, wl_400, wl_420, wl_820, wl_1340, wl_5480, wl_9999, true_and, and_true, true_or, or_true, if_true, if_false, and_self, or_self, false_and, and_false, false_or, or_false, not_true_eq_false, not_false_eq_true, Int.reduceEq, Int.reduceLT, Int.reduceLE, Int.reduceToNat, Int.reduceAdd, Int.reduceMul, Int.reduceSub, Int.reduceMod, Int.reduceDiv, Int.reduceNeg, Nat.reduceEqDiff, sm_rd_ok, sm_rd_ok2, sm_wt_ok, sm_cp_ok, Option.isSome_some, Option.getD_some, w_cont, Option.toList_some, Option.toList_none, List.cons_append, List.nil_append]
      rw [b104_19]
      simp only [wr_id, wr_b2i, wr_wr, b2i_eq0, b2i_eq1, b2i_01, sm_rem_eq, sm_div_eq, wl_m2, wl_m1, wl_0, wl_1, wl_2, wl_3, wl_4, wl_5, wl_6, wl_7, wl_8, wl_9, wl_10, wl_12, wl_13, wl_14, wl_16, wl_20, wl_21, wl_22, wl_23, wl_32, wl_36, wl_40, wl_41, wl_42, wl_43, wl_44, wl_45, wl_46, wl_47, wl_48, wl_57, wl_59, wl_60, wl_61, wl_62, wl_65, wl_90, wl_97, wl_99, wl_100, wl_121, wl_122, wl_140, wl_142, wl_143, wl_145, wl_147, wl_160, wl_161, wl_162, wl_242, wl_380, wl_400, wl_420, wl_820, wl_1340, wl_5480, wl_9999, true_and, and_true, true_or, or_true, if_true, if_false, and_self, or_self, false_and, and_false, false_or, or_false, not_true_eq_false, not_false_eq_true, Int.reduceEq, Int.reduceLT, Int.reduceLE, Int.reduceToNat, Int.reduceAdd, Int.reduceMul, Int.reduceSub, Int.reduceMod, Int.reduceDiv, Int.reduceNeg, Nat.reduceEqDiff, sm_rd_ok, sm_rd_ok2, sm_wt_ok, sm_cp_ok, Option.isSome_some, Option.getD_some, w_cont, Option.toList_some, Option.toList_none, List.cons_append, List.nil_append]
      by_cases h2 : isC (M 0) (M 1) b = true
      · rw [if_neg (by rw [h2]; decide), b104_22, wr_id ha'.1 ha'.2, wr_id hb'.1 hb'.2]
        by_cases h3 : a = b
        · rw [if_pos h3, if_neg (fun g => g.2.2.1 h3), b104_76]
        · rw [if_neg h3, b104_27, c_within hw (by omega) (by omega), w_cont]
          simp only [wr_id, wr_b2i, wr_wr, b2i_eq0, b2i_eq1, b2i_01, sm_rem_eq, sm_div_eq, wl_m2, wl_m1, wl_0, wl_1, wl_2, wl_3, wl_4, wl_5, wl_6, wl_7, wl_8, wl_9, wl_10, wl_12, wl_13, wl_14, wl_16, wl_20, wl_21, wl_22, wl_23, wl_32, wl_36, wl_40, wl_41, wl_42, wl_43, wl_44, wl_45, wl_46, wl_47, wl_48, wl_57, wl_59, wl_60, wl_61, wl_62, wl_65, wl_90, wl_97, wl_99, wl_100, wl_121, wl_122, wl_140, wl_142, wl_143, wl_145, wl_147, wl_160, wl_161, wl_162, wl_242, wl_380, wl_400, wl_420, wl_820, wl_1340, wl_5480, wl_9999, true_and, and_true, true_or, or_true, if_true, if_false, and_self, or_self, false_and, and_false, false_or, or_false, not_true_eq_false, not_false_eq_true, Int.reduceEq, Int.reduceLT, Int.reduceLE, Int.reduceToNat, Int.reduceAdd, Int.reduceMul, Int.reduceSub, Int.reduceMod, Int.reduceDiv, Int.reduceNeg, Nat.reduceEqDiff, sm_rd_ok, sm_rd_ok2, sm_wt_ok, sm_cp_ok, Option.isSome_some, Option.getD_some, w_cont, Option.toList_some, Option.toList_none, List.cons_append, List.nil_append]
          rw [b104_33]
          simp only [wr_id, wr_b2i, wr_wr, b2i_eq0, b2i_eq1, b2i_01, sm_rem_eq, sm_div_eq, wl_m2, wl_m1, wl_0, wl_1, wl_2, wl_3, wl_4, wl_5, wl_6, wl_7, wl_8, wl_9, wl_10, wl_12, wl_13, wl_14, wl_16, wl_20, wl_21, wl_22, wl_23, wl_32, wl_36, wl_40, wl_41, wl_42, wl_43, wl_44, wl_45, wl_46, wl_47, wl_48, wl_57, wl_59, wl_60, wl_61, wl_62, wl_65, wl_90, wl_97, wl_99, wl_100, wl_121, wl_122, wl_140, wl_142, wl_143, wl_145, wl_147, wl_160, wl_161, wl_162, wl_242, wl_380, wl_400, wl_420, wl_820, wl_1340, wl_5480, wl_9999, true_and, and_true, true_or, or_true, if_true, if_false, and_self, or_self, false_and, and_false, false_or, or_false, not_true_eq_false, not_false_eq_true, Int.reduceEq, Int.reduceLT, Int.reduceLE, Int.reduceToNat, Int.reduceAdd, Int.reduceMul, Int.reduceSub, Int.reduceMod, Int.reduceDiv, Int.reduceNeg, Nat.reduceEqDiff, sm_rd_ok, sm_rd_ok2, sm_wt_ok, sm_cp_ok, Option.isSome_some, Option.getD_some, w_cont, Option.toList_some, Option.toList_none, List.cons_append, List.nil_append, isInB, decide_eq_false_iff_not]
          by_cases h4 : 0 ≤ w ∧ w ≤ 3
          · rw [if_neg (fun g => g h4), b104_36, kk_0 H, rr_0_0 H]
            simp only [wr_id, wr_b2i, wr_wr, b2i_eq0, b2i_eq1, b2i_01, sm_rem_eq, sm_div_eq, wl_m2, wl_m1, wl_0, wl_1, wl_2, wl_3, wl_4, wl_5, wl_6, wl_7, wl_8, wl_9, wl_10, wl_12, wl_13, wl_14, wl_16, wl_20, wl_21, wl_22, wl_23, wl_32, wl_36, wl_40, wl_41, wl_42, wl_43, wl_44, wl_45, wl_46, wl_47, wl_48, wl_57, wl_59, wl_60, wl_61, wl_62, wl_65, wl_90, wl_97, wl_99, wl_100, wl_121, wl_122, wl_140, wl_142, wl_143, wl_145, wl_147, wl_160, wl_161, wl_162, wl_242, wl_380, wl_400, wl_420, wl_820, wl_1340, wl_5480, wl_9999, true_and, and_true, true_or, or_true, if_true, if_false, and_self, or_self, false_and, and_false, false_or, or_false, not_true_eq_false, not_false_eq_true, Int.reduceEq, Int.reduceLT, Int.reduceLE, Int.reduceToNat, Int.reduceAdd, Int.reduceMul, Int.reduceSub, Int.reduceMod, Int.reduceDiv, Int.reduceNeg, Nat.reduceEqDiff, sm_rd_ok, sm_rd_ok2, sm_wt_ok, sm_cp_ok, Option.isSome_some, Option.getD_some, w_cont, Option.toList_some, Option.toList_none, List.cons_append, List.nil_append, kk_1 H, hr.1.1, hr.1.2.1]
            rw [wr_id (by omega) (by omega)]
            by_cases h5 : M 0 * M 1 ≤ 36
            · rw [if_neg (by omega), if_pos ⟨h1, h2, h3, h4, h5⟩]
            · rw [if_pos (by omega), if_neg (fun g => h5 g.2.2.2.2), b104_76]
          · rw [if_pos h4, if_neg (fun g => h4 g.2.2.2.1), b104_76]
      · rw [if_pos (Bool.eq_false_iff.2 h2), if_neg (fun g => h2 g.2.1), b104_76]
    · rw [if_pos (Bool.eq_false_iff.2 h1), if_neg (fun g => h1 g.1), b104_76]
  by_cases hc : isC (M 0) (M 1) a = true ∧ isC (M 0) (M 1) b = true ∧ ¬ a = b ∧ (0 ≤ w ∧ w ≤ 3) ∧ M 0 * M 1 ≤ 36
  · obtain ⟨Z1, t1, f1, q1⟩ := c_seek (d := d) (n := n) (z := z) H hz hst hi hr (isC_bd hc.1) (isC_bd hc.2.1) hc.2.2.2.2
    refine ⟨Z1, f1, fun Q => ?_⟩
    rw [head, if_pos hc, if_pos hc, b104_56, kk_0 H, rr_0_0 H, rr_0_3 H, rr_0_4 H]
    simp only [wr_id, wr_b2i, wr_wr, b2i_eq0, b2i_eq1, b2i_01, sm_rem_eq, sm_div_eq, wl_m2, wl_m1, wl_0, wl_1, wl_2, wl_3, wl_4, wl_5, wl_6, wl_7, wl_8, wl_9, wl_10, wl_12, wl_13, wl_14, wl_16, wl_20, wl_21, wl_22, wl_23, wl_32, wl_36, wl_40, wl_41, wl_42, wl_43, wl_44, wl_45, wl_46, wl_47, wl_48, wl_57, wl_59, wl_60, wl_61, wl_62, wl_65, wl_90, wl_97, wl_99, wl_100, wl_121, wl_122, wl_140, wl_142, wl_143, wl_145, wl_147, wl_160, wl_161, wl_162, wl_242, wl_380, wl_400, wl_420, wl_820, wl_1340, wl_5480, wl_9999, true_and, and_true, true_or, or_true, if_true, if_false, and_self, or_self, false_and, and_false, false_or, or_false, not_true_eq_false, not_false_eq_true, Int.reduceEq, Int.reduceLT, Int.reduceLE, Int.reduceToNat, Int.reduceAdd, Int.reduceMul, Int.reduceSub, Int.reduceMod, Int.reduceDiv, Int.reduceNeg, Nat.reduceEqDiff, sm_rd_ok, sm_rd_ok2, sm_wt_ok, sm_cp_ok, Option.isSome_some, Option.getD_some, w_cont, Option.toList_some, Option.toList_none, List.cons_append, List.nil_append, kk_63 H]
    refine (q1 _).trans ?_
    rw [w_cont]
    simp only [wr_id, wr_b2i, wr_wr, b2i_eq0, b2i_eq1, b2i_01, sm_rem_eq, sm_div_eq, wl_m2, wl_m1, wl_0, wl_1, wl_2, wl_3, wl_4, wl_5, wl_6, wl_7, wl_8, wl_9, wl_10, wl_12, wl_13, wl_14, wl_16, wl_20, wl_21, wl_22, wl_23, wl_32, wl_36, wl_40, wl_41, wl_42, wl_43, wl_44, wl_45, wl_46, wl_47, wl_48, wl_57, wl_59, wl_60, wl_61, wl_62, wl_65, wl_90, wl_97, wl_99, wl_100, wl_121, wl_122, wl_140, wl_142, wl_143, wl_145, wl_147, wl_160, wl_161, wl_162, wl_242, wl_380, wl_400, wl_420, wl_820, wl_1340, wl_5480, wl_9999, true_and, and_true, true_or, or_true, if_true, if_false, and_self, or_self, false_and, and_false, false_or, or_false, not_true_eq_false, not_false_eq_true, Int.reduceEq, Int.reduceLT, Int.reduceLE, Int.reduceToNat, Int.reduceAdd, Int.reduceMul, Int.reduceSub, Int.reduceMod, Int.reduceDiv, Int.reduceNeg, Nat.reduceEqDiff, sm_rd_ok, sm_rd_ok2, sm_wt_ok, sm_cp_ok, Option.isSome_some, Option.getD_some, w_cont, Option.toList_some, Option.toList_none, List.cons_append, List.nil_append]
    rw [b104_73]
    unfold plw
    by_cases h : (plS M a b).1 = -1
    · rw [if_pos h, if_pos h]
      simp only [wr_id, wr_b2i, wr_wr, b2i_eq0, b2i_eq1, b2i_01, sm_rem_eq, sm_div_eq, wl_m2, wl_m1, wl_0, wl_1, wl_2, wl_3, wl_4, wl_5, wl_6, wl_7, wl_8, wl_9, wl_10, wl_12, wl_13, wl_14, wl_16, wl_20, wl_21, wl_22, wl_23, wl_32, wl_36, wl_40, wl_41, wl_42, wl_43, wl_44, wl_45, wl_46, wl_47, wl_48, wl_57, wl_59, wl_60, wl_61, wl_62, wl_65, wl_90, wl_97, wl_99, wl_100, wl_121, wl_122, wl_140, wl_142, wl_143, wl_145, wl_147, wl_160, wl_161, wl_162, wl_242, wl_380, wl_400, wl_420, wl_820, wl_1340, wl_5480, wl_9999, true_and, and_true, true_or, or_true, if_true, if_false, and_self, or_self, false_and, and_false, false_or, or_false, not_true_eq_false, not_false_eq_true, Int.reduceEq, Int.reduceLT, Int.reduceLE, Int.reduceToNat, Int.reduceAdd, Int.reduceMul, Int.reduceSub, Int.reduceMod, Int.reduceDiv, Int.reduceNeg, Nat.reduceEqDiff, sm_rd_ok, sm_rd_ok2, sm_wt_ok, sm_cp_ok, Option.isSome_some, Option.getD_some, w_cont, Option.toList_some, Option.toList_none, List.cons_append, List.nil_append]
      rw [b104_76]
    · obtain ⟨z3, z4, z5, z6⟩ := t1.2.1 h
      rw [if_neg h, if_neg h]
      simp only [wr_id, wr_b2i, wr_wr, b2i_eq0, b2i_eq1, b2i_01, sm_rem_eq, sm_div_eq, wl_m2, wl_m1, wl_0, wl_1, wl_2, wl_3, wl_4, wl_5, wl_6, wl_7, wl_8, wl_9, wl_10, wl_12, wl_13, wl_14, wl_16, wl_20, wl_21, wl_22, wl_23, wl_32, wl_36, wl_40, wl_41, wl_42, wl_43, wl_44, wl_45, wl_46, wl_47, wl_48, wl_57, wl_59, wl_60, wl_61, wl_62, wl_65, wl_90, wl_97, wl_99, wl_100, wl_121, wl_122, wl_140, wl_142, wl_143, wl_145, wl_147, wl_160, wl_161, wl_162, wl_242, wl_380, wl_400, wl_420, wl_820, wl_1340, wl_5480, wl_9999, true_and, and_true, true_or, or_true, if_true, if_false, and_self, or_self, false_and, and_false, false_or, or_false, not_true_eq_false, not_false_eq_true, Int.reduceEq, Int.reduceLT, Int.reduceLE, Int.reduceToNat, Int.reduceAdd, Int.reduceMul, Int.reduceSub, Int.reduceMod, Int.reduceDiv, Int.reduceNeg, Nat.reduceEqDiff, sm_rd_ok, sm_rd_ok2, sm_wt_ok, sm_cp_ok, Option.isSome_some, Option.getD_some, w_cont, Option.toList_some, Option.toList_none, List.cons_append, List.nil_append]
      rw [b104_78, wr_id hw.1 hw.2]
      by_cases w0 : w = 0
      · rw [if_pos w0, show sm_sel w 128 [(0, 104), (1, 112), (2, 120)] = 104 by rw [w0]; rfl, b104_104, kk_0 H, rr_0_4 H]
        simp only [wr_id, wr_b2i, wr_wr, b2i_eq0, b2i_eq1, b2i_01, sm_rem_eq, sm_div_eq, wl_m2, wl_m1, wl_0, wl_1, wl_2, wl_3, wl_4, wl_5, wl_6, wl_7, wl_8, wl_9, wl_10, wl_12, wl_13, wl_14, wl_16, wl_20, wl_21, wl_22, wl_23, wl_32, wl_36, wl_40, wl_41, wl_42, wl_43, wl_44, wl_45, wl_46, wl_47, wl_48, wl_57, wl_59, wl_60, wl_61, wl_62, wl_65, wl_90, wl_97, wl_99, wl_100, wl_121, wl_122, wl_140, wl_142, wl_143, wl_145, wl_147, wl_160, wl_161, wl_162, wl_242, wl_380, wl_400, wl_420, wl_820, wl_1340, wl_5480, wl_9999, true_and, and_true, true_or, or_true, if_true, if_false, and_self, or_self, false_and, and_false, false_or, or_false, not_true_eq_false, not_false_eq_true, Int.reduceEq, Int.reduceLT, Int.reduceLE, Int.reduceToNat, Int.reduceAdd, Int.reduceMul, Int.reduceSub, Int.reduceMod, Int.reduceDiv, Int.reduceNeg, Nat.reduceEqDiff, sm_rd_ok, sm_rd_ok2, sm_wt_ok, sm_cp_ok, Option.isSome_some, Option.getD_some, w_cont, Option.toList_some, Option.toList_none, List.cons_append, List.nil_append, kk_63 H, z3]
      · rw [if_neg w0]
        by_cases w1 : w = 1
        · rw [if_pos w1, show sm_sel w 128 [(0, 104), (1, 112), (2, 120)] = 112 by rw [w1]; rfl, b104_112, kk_0 H, rr_0_4 H]
          simp only [wr_id, wr_b2i, wr_wr, b2i_eq0, b2i_eq1, b2i_01, sm_rem_eq, sm_div_eq, wl_m2, wl_m1, wl_0, wl_1, wl_2, wl_3, wl_4, wl_5, wl_6, wl_7, wl_8, wl_9, wl_10, wl_12, wl_13, wl_14, wl_16, wl_20, wl_21, wl_22, wl_23, wl_32, wl_36, wl_40, wl_41, wl_42, wl_43, wl_44, wl_45, wl_46, wl_47, wl_48, wl_57, wl_59, wl_60, wl_61, wl_62, wl_65, wl_90, wl_97, wl_99, wl_100, wl_121, wl_122, wl_140, wl_142, wl_143, wl_145, wl_147, wl_160, wl_161, wl_162, wl_242, wl_380, wl_400, wl_420, wl_820, wl_1340, wl_5480, wl_9999, true_and, and_true, true_or, or_true, if_true, if_false, and_self, or_self, false_and, and_false, false_or, or_false, not_true_eq_false, not_false_eq_true, Int.reduceEq, Int.reduceLT, Int.reduceLE, Int.reduceToNat, Int.reduceAdd, Int.reduceMul, Int.reduceSub, Int.reduceMod, Int.reduceDiv, Int.reduceNeg, Nat.reduceEqDiff, sm_rd_ok, sm_rd_ok2, sm_wt_ok, sm_cp_ok, Option.isSome_some, Option.getD_some, w_cont, Option.toList_some, Option.toList_none, List.cons_append, List.nil_append, kk_63 H, z4]
        · rw [if_neg w1]
          by_cases w2 : w = 2
          · rw [if_pos w2, show sm_sel w 128 [(0, 104), (1, 112), (2, 120)] = 120 by rw [w2]; rfl, b104_120, kk_0 H, rr_0_4 H]
            simp only [wr_id, wr_b2i, wr_wr, b2i_eq0, b2i_eq1, b2i_01, sm_rem_eq, sm_div_eq, wl_m2, wl_m1, wl_0, wl_1, wl_2, wl_3, wl_4, wl_5, wl_6, wl_7, wl_8, wl_9, wl_10, wl_12, wl_13, wl_14, wl_16, wl_20, wl_21, wl_22, wl_23, wl_32, wl_36, wl_40, wl_41, wl_42, wl_43, wl_44, wl_45, wl_46, wl_47, wl_48, wl_57, wl_59, wl_60, wl_61, wl_62, wl_65, wl_90, wl_97, wl_99, wl_100, wl_121, wl_122, wl_140, wl_142, wl_143, wl_145, wl_147, wl_160, wl_161, wl_162, wl_242, wl_380, wl_400, wl_420, wl_820, wl_1340, wl_5480, wl_9999, true_and, and_true, true_or, or_true, if_true, if_false, and_self, or_self, false_and, and_false, false_or, or_false, not_true_eq_false, not_false_eq_true, Int.reduceEq, Int.reduceLT, Int.reduceLE, Int.reduceToNat, Int.reduceAdd, Int.reduceMul, Int.reduceSub, Int.reduceMod, Int.reduceDiv, Int.reduceNeg, Nat.reduceEqDiff, sm_rd_ok, sm_rd_ok2, sm_wt_ok, sm_cp_ok, Option.isSome_some, Option.getD_some, w_cont, Option.toList_some, Option.toList_none, List.cons_append, List.nil_append, kk_63 H, z5]
          · rw [if_neg w2, show sm_sel w 128 [(0, 104), (1, 112), (2, 120)] = 128 by simp only [sm_sel]; rw [if_neg w0, if_neg w1, if_neg w2], b104_128, kk_0 H, rr_0_4 H]
            simp only [wr_id, wr_b2i, wr_wr, b2i_eq0, b2i_eq1, b2i_01, sm_rem_eq, sm_div_eq, wl_m2, wl_m1, wl_0, wl_1, wl_2, wl_3, wl_4, wl_5, wl_6, wl_7, wl_8, wl_9, wl_10, wl_12, wl_13, wl_14, wl_16, wl_20, wl_21, wl_22, wl_23, wl_32, wl_36, wl_40, wl_41, wl_42, wl_43, wl_44, wl_45, wl_46, wl_47, wl_48, wl_57, wl_59, wl_60, wl_61, wl_62, wl_65, wl_90, wl_97, wl_99, wl_100, wl_121, wl_122, wl_140, wl_142, wl_143, wl_145, wl_147, wl_160, wl_161, wl_162, wl_242, wl_380, wl_400, wl_420, wl_820, wl_1340, wl_5480, wl_9999, true_and, and_true, true_or, or_true, if_true, if_false, and_self, or_self, false_and, and_false, false_or, or_false, not_true_eq_false, not_false_eq_true, Int.reduceEq, Int.reduceLT, Int.reduceLE, Int.reduceToNat, Int.reduceAdd, Int.reduceMul, Int.reduceSub, Int.reduceMod, Int.reduceDiv, Int.reduceNeg, Nat.reduceEqDiff, sm_rd_ok, sm_rd_ok2, sm_wt_ok, sm_cp_ok, Option.isSome_some, Option.getD_some, w_cont, Option.toList_some, Option.toList_none, List.cons_append, List.nil_append, kk_63 H, z6]
  · refine ⟨Z, frT_refl Z, fun Q => ?_⟩
    rw [head, if_neg hc, if_neg hc]
end PLAN2
