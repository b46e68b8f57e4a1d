section PLAN3
variable {d n z : Nat} {Rf : Nat → Nat → Option Nat} {K : Nat → Nat × Nat} {Z : Nat → Nat → Int} {Q : Option sm_V → sm_S → Prop}
/-- the best as the model has it -/
def rQn (Z : Nat → Nat → Int) (t : pnT) (mx : Int) : Prop := Z 79 31 = t.1 ∧ (¬ t.1 = -1 → Z 79 32 = t.2.1 ∧ Z 79 33 = t.2.2.1 ∧ Z 79 34 = t.2.2.2 ∧ 0 ≤ t.2.1 ∧ t.2.1 ≤ mx) ∧ (t.1 = -1 ∨ (0 ≤ t.1 ∧ t.1 ≤ 198))
theorem mnS_bd (a b : Int) : 0 ≤ mnS a b ∧ mnS a b ≤ 2 := by
  unfold mnS
  split <;> split <;> omega
theorem rQn_le {Z : Nat → Nat → Int} {t : pnT} {m m' : Int} (h : rQn Z t m) (hm : m ≤ m') : rQn Z t m' := ⟨h.1, fun g => ⟨(h.2.1 g).1, (h.2.1 g).2.1, (h.2.1 g).2.2.1, (h.2.1 g).2.2.2.1, by have := (h.2.1 g).2.2.2.2; omega⟩, h.2.2⟩
theorem m_tries (H : sm_sh Rf K) {M : Nat → Int} (hM : Z 80 = M) (hi : invD M) (h6 : Z 79 6 = 0) {a b one other : Int} (ha : 0 ≤ a ∧ a < 100) (hb : 0 ≤ b ∧ b < 100) (b1 : -1 ≤ one ∧ one < 100) (b2 : -1 ≤ other ∧ other < 100) {t : pnT} (ht : rQn Z t (mnS one other)) : ∃ Z', rQn Z' (tp1 M a b one other t) (mnS one other) ∧ frU Z Z' ∧ ∀ Q, sm_call (d + 7) 185 [.inr (some 79), .inl a, .inl b, .inl one, .inl other] (Z, Rf, K, n, z) Q = Q none (Z', Rf, K, n, z) := by
  have p1 := prS_bd hi b1.2
  have p2 := prS_bd hi b2.2
  have mb := mnS_bd one other
  have n1 : ∀ c : Int, ¬ c = -1 → -1 ≤ c → (420 + c).toNat = 420 + c.toNat := fun c h1 h2 => by omega
  have n2 : ∀ c : Int, ¬ c = -1 → -1 ≤ c → (120 + c).toNat = 120 + c.toNat := fun c h1 h2 => by omega
  have head : ∀ Q, sm_call (d + 7) 185 [.inr (some 79), .inl a, .inl b, .inl one, .inl other] (Z, Rf, K, n, z) Q = if ¬ t.1 = -1 ∧ t.1 ≤ prS M one + prS M other then Q none (Z, Rf, K, n, z) else sm_wp (d + 7) 185 103 [some (.inr (some 79)), some (.inl a), some (.inl b), some (.inl one), some (.inl other), some (.inl (mnS one other)), some (.inl (prS M one + prS M other)), none] [] (Z, Rf, K, n, z) Q := by
    intro Q
    have s3 : ∀ v w : Int, v = prS M one → w = prS M other → sm_wp (d + 7) 185 64 [some (.inr (some 79)), some (.inl a), some (.inl b), some (.inl one), some (.inl other), some (.inl (mnS one other)), none, none] [.inl w, .inl v] (Z, Rf, K, n, z) Q = if ¬ t.1 = -1 ∧ t.1 ≤ prS M one + prS M other then Q none (Z, Rf, K, n, z) else sm_wp (d + 7) 185 103 [some (.inr (some 79)), some (.inl a), some (.inl b), some (.inl one), some (.inl other), some (.inl (mnS one other)), some (.inl (prS M one + prS M other)), none] [] (Z, Rf, K, n, z) Q := by
      intro v w hv hw
      have hb3 := ht.2.2
      rw [b185_64, kk_79 H, ht.1, hv, hw]
      simp only [wr_id, wr_b2i, wr_wr, b2i_eq0, b2i_eq1, b2i_01, sm_rem_eq, sm_div_eq, wl_m2, wl_m1, wl_0, wl_1, wl_2, wl_3, wl_4, wl_5, wl_6, wl_7, wl_8, wl_9, wl_10, wl_12, wl_13, wl_14, wl_16, wl_20, wl_21, wl_22, wl_23, wl_32, wl_36, wl_40, wl_41, wl_42, wl_43, wl_44, wl_45, wl_46, wl_47, wl_48, wl_57, wl_59, wl_60, wl_61, wl_62, wl_65, wl_90, wl_97, wl_99, wl_100, wl_121, wl_122, wl_140, wl_142, wl_143, wl_145, wl_147, wl_160, wl_161, wl_162, wl_242, wl_380, wl_400, wl_420, wl_820, wl_1340, wl_5480, wl_9999, true_and, and_true, true_or, or_true, if_true, if_false, and_self, or_self, false_and, and_false, false_or, or_false, not_true_eq_false, not_false_eq_true, Int.reduceEq, Int.reduceLT, Int.reduceLE, Int.reduceToNat, Int.reduceAdd, Int.reduceMul, Int.reduceSub, Int.reduceMod, Int.reduceDiv, Int.reduceNeg, Nat.reduceEqDiff, sm_rd_ok, sm_rd_ok2, sm_wt_ok, sm_cp_ok, Option.isSome_some, Option.getD_some, w_cont, Option.toList_some, Option.toList_none, List.cons_append, List.nil_append]
      rw [wr_id (by omega) (by omega)]
      by_cases hf : t.1 = -1
      · rw [if_pos hf, if_neg (fun g => g.1 hf)]
      · obtain ⟨z32, _, _, hn0, hnm⟩ := ht.2.1 hf
        rw [if_neg hf, b185_75, kk_79 H, ht.1]
        simp only [wr_id, wr_b2i, wr_wr, b2i_eq0, b2i_eq1, b2i_01, sm_rem_eq, sm_div_eq, wl_m2, wl_m1, wl_0, wl_1, wl_2, wl_3, wl_4, wl_5, wl_6, wl_7, wl_8, wl_9, wl_10, wl_12, wl_13, wl_14, wl_16, wl_20, wl_21, wl_22, wl_23, wl_32, wl_36, wl_40, wl_41, wl_42, wl_43, wl_44, wl_45, wl_46, wl_47, wl_48, wl_57, wl_59, wl_60, wl_61, wl_62, wl_65, wl_90, wl_97, wl_99, wl_100, wl_121, wl_122, wl_140, wl_142, wl_143, wl_145, wl_147, wl_160, wl_161, wl_162, wl_242, wl_380, wl_400, wl_420, wl_820, wl_1340, wl_5480, wl_9999, true_and, and_true, true_or, or_true, if_true, if_false, and_self, or_self, false_and, and_false, false_or, or_false, not_true_eq_false, not_false_eq_true, Int.reduceEq, Int.reduceLT, Int.reduceLE, Int.reduceToNat, Int.reduceAdd, Int.reduceMul, Int.reduceSub, Int.reduceMod, Int.reduceDiv, Int.reduceNeg, Nat.reduceEqDiff, sm_rd_ok, sm_rd_ok2, sm_wt_ok, sm_cp_ok, Option.isSome_some, Option.getD_some, w_cont, Option.toList_some, Option.toList_none, List.cons_append, List.nil_append]
        rw [wr_id (by omega) (by omega), wr_id (by omega) (by omega)]
        by_cases hlt : t.1 < prS M one + prS M other
        · rw [if_pos hlt, if_pos ⟨hf, by omega⟩, b185_102]
        · rw [if_neg hlt, b185_84, kk_79 H, ht.1]
          simp only [wr_id, wr_b2i, wr_wr, b2i_eq0, b2i_eq1, b2i_01, sm_rem_eq, sm_div_eq, wl_m2, wl_m1, wl_0, wl_1, wl_2, wl_3, wl_4, wl_5, wl_6, wl_7, wl_8, wl_9, wl_10, wl_12, wl_13, wl_14, wl_16, wl_20, wl_21, wl_22, wl_23, wl_32, wl_36, wl_40, wl_41, wl_42, wl_43, wl_44, wl_45, wl_46, wl_47, wl_48, wl_57, wl_59, wl_60, wl_61, wl_62, wl_65, wl_90, wl_97, wl_99, wl_100, wl_121, wl_122, wl_140, wl_142, wl_143, wl_145, wl_147, wl_160, wl_161, wl_162, wl_242, wl_380, wl_400, wl_420, wl_820, wl_1340, wl_5480, wl_9999, true_and, and_true, true_or, or_true, if_true, if_false, and_self, or_self, false_and, and_false, false_or, or_false, not_true_eq_false, not_false_eq_true, Int.reduceEq, Int.reduceLT, Int.reduceLE, Int.reduceToNat, Int.reduceAdd, Int.reduceMul, Int.reduceSub, Int.reduceMod, Int.reduceDiv, Int.reduceNeg, Nat.reduceEqDiff, sm_rd_ok, sm_rd_ok2, sm_wt_ok, sm_cp_ok, Option.isSome_some, Option.getD_some, w_cont, Option.toList_some, Option.toList_none, List.cons_append, List.nil_append]
          rw [wr_id (by omega) (by omega), wr_id (by omega) (by omega)]
          by_cases heq : prS M one + prS M other = t.1
          · rw [if_pos heq, b185_93, kk_79 H, z32]
            simp only [wr_id, wr_b2i, wr_wr, b2i_eq0, b2i_eq1, b2i_01, sm_rem_eq, sm_div_eq, wl_m2, wl_m1, wl_0, wl_1, wl_2, wl_3, wl_4, wl_5, wl_6, wl_7, wl_8, wl_9, wl_10, wl_12, wl_13, wl_14, wl_16, wl_20, wl_21, wl_22, wl_23, wl_32, wl_36, wl_40, wl_41, wl_42, wl_43, wl_44, wl_45, wl_46, wl_47, wl_48, wl_57, wl_59, wl_60, wl_61, wl_62, wl_65, wl_90, wl_97, wl_99, wl_100, wl_121, wl_122, wl_140, wl_142, wl_143, wl_145, wl_147, wl_160, wl_161, wl_162, wl_242, wl_380, wl_400, wl_420, wl_820, wl_1340, wl_5480, wl_9999, true_and, and_true, true_or, or_true, if_true, if_false, and_self, or_self, false_and, and_false, false_or, or_false, not_true_eq_false, not_false_eq_true, Int.reduceEq, Int.reduceLT, Int.reduceLE, Int.reduceToNat, Int.reduceAdd, Int.reduceMul, Int.reduceSub, Int.reduceMod, Int.reduceDiv, Int.reduceNeg, Nat.reduceEqDiff, sm_rd_ok, sm_rd_ok2, sm_wt_ok, sm_cp_ok, Option.isSome_some, Option.getD_some, w_cont, Option.toList_some, Option.toList_none, List.cons_append, List.nil_append]
            rw [wr_id (by omega) (by omega), wr_id (by omega) (by omega), if_neg (by omega), if_pos ⟨hf, by omega⟩, b185_102]
          · rw [if_neg heq, if_neg (by omega)]
    have s2 : ∀ v : Int, v = prS M one → sm_wp (d + 7) 185 43 [some (.inr (some 79)), some (.inl a), some (.inl b), some (.inl one), some (.inl other), some (.inl (mnS one other)), none, none] [.inl v] (Z, Rf, K, n, z) Q = if ¬ t.1 = -1 ∧ t.1 ≤ prS M one + prS M other then Q none (Z, Rf, K, n, z) else sm_wp (d + 7) 185 103 [some (.inr (some 79)), some (.inl a), some (.inl b), some (.inl one), some (.inl other), some (.inl (mnS one other)), some (.inl (prS M one + prS M other)), none] [] (Z, Rf, K, n, z) Q := by
      intro v hv
      rw [b185_43, wr_id (by omega) (by omega)]
      by_cases ho : other = -1
      · rw [if_pos ho, b185_49]
        exact s3 v 0 hv (by unfold prS; rw [if_pos ho])
      · rw [if_neg ho, b185_53, kk_79 H, rr_79_0 H]
        simp (disch := omega) only [wr_id, wr_b2i, wr_wr, b2i_eq0, b2i_eq1, b2i_01, sm_rem_eq, sm_div_eq, wl_m2, wl_m1, wl_0, wl_1, wl_2, wl_3, wl_4, wl_5, wl_6, wl_7, wl_8, wl_9, wl_10, wl_12, wl_13, wl_14, wl_16, wl_20, wl_21, wl_22, wl_23, wl_32, wl_36, wl_40, wl_41, wl_42, wl_43, wl_44, wl_45, wl_46, wl_47, wl_48, wl_57, wl_59, wl_60, wl_61, wl_62, wl_65, wl_90, wl_97, wl_99, wl_100, wl_121, wl_122, wl_140, wl_142, wl_143, wl_145, wl_147, wl_160, wl_161, wl_162, wl_242, wl_380, wl_400, wl_420, wl_820, wl_1340, wl_5480, wl_9999, true_and, and_true, true_or, or_true, if_true, if_false, and_self, or_self, false_and, and_false, false_or, or_false, not_true_eq_false, not_false_eq_true, Int.reduceEq, Int.reduceLT, Int.reduceLE, Int.reduceToNat, Int.reduceAdd, Int.reduceMul, Int.reduceSub, Int.reduceMod, Int.reduceDiv, Int.reduceNeg, Nat.reduceEqDiff, sm_rd_ok, sm_rd_ok2, sm_wt_ok, sm_cp_ok, Option.isSome_some, Option.getD_some, w_cont, Option.toList_some, Option.toList_none, List.cons_append, List.nil_append, kk_80 H, hM]
        refine s3 _ _ hv ?_
        unfold prS
        rw [if_neg ho, n1 other ho b2.1]
    have s1 : ∀ v w : Int, v + w = mnS one other → sm_wp (d + 7) 185 21 [some (.inr (some 79)), some (.inl a), some (.inl b), some (.inl one), some (.inl other), none, none, none] [.inl w, .inl v] (Z, Rf, K, n, z) Q = if ¬ t.1 = -1 ∧ t.1 ≤ prS M one + prS M other then Q none (Z, Rf, K, n, z) else sm_wp (d + 7) 185 103 [some (.inr (some 79)), some (.inl a), some (.inl b), some (.inl one), some (.inl other), some (.inl (mnS one other)), some (.inl (prS M one + prS M other)), none] [] (Z, Rf, K, n, z) Q := by
      intro v w hvw
      rw [b185_21, wr_id (by omega) (by omega), hvw]
      by_cases ho : one = -1
      · rw [if_pos ho, b185_29]
        exact s2 0 (by unfold prS; rw [if_pos ho])
      · rw [if_neg ho, b185_33, kk_79 H, rr_79_0 H]
        simp (disch := omega) only [wr_id, wr_b2i, wr_wr, b2i_eq0, b2i_eq1, b2i_01, sm_rem_eq, sm_div_eq, wl_m2, wl_m1, wl_0, wl_1, wl_2, wl_3, wl_4, wl_5, wl_6, wl_7, wl_8, wl_9, wl_10, wl_12, wl_13, wl_14, wl_16, wl_20, wl_21, wl_22, wl_23, wl_32, wl_36, wl_40, wl_41, wl_42, wl_43, wl_44, wl_45, wl_46, wl_47, wl_48, wl_57, wl_59, wl_60, wl_61, wl_62, wl_65, wl_90, wl_97, wl_99, wl_100, wl_121, wl_122, wl_140, wl_142, wl_143, wl_145, wl_147, wl_160, wl_161, wl_162, wl_242, wl_380, wl_400, wl_420, wl_820, wl_1340, wl_5480, wl_9999, true_and, and_true, true_or, or_true, if_true, if_false, and_self, or_self, false_and, and_false, false_or, or_false, not_true_eq_false, not_false_eq_true, Int.reduceEq, Int.reduceLT, Int.reduceLE, Int.reduceToNat, Int.reduceAdd, Int.reduceMul, Int.reduceSub, Int.reduceMod, Int.reduceDiv, Int.reduceNeg, Nat.reduceEqDiff, sm_rd_ok, sm_rd_ok2, sm_wt_ok, sm_cp_ok, Option.isSome_some, Option.getD_some, w_cont, Option.toList_some, Option.toList_none, List.cons_append, List.nil_append, kk_80 H, hM]
        refine s2 _ ?_
        unfold prS
        rw [if_neg ho, n1 one ho b1.1]
    have s0 : ∀ v : Int, v = (if one = -1 then 0 else 1) → sm_wp (d + 7) 185 10 [some (.inr (some 79)), some (.inl a), some (.inl b), some (.inl one), some (.inl other), none, none, none] [.inl v] (Z, Rf, K, n, z) Q = if ¬ t.1 = -1 ∧ t.1 ≤ prS M one + prS M other then Q none (Z, Rf, K, n, z) else sm_wp (d + 7) 185 103 [some (.inr (some 79)), some (.inl a), some (.inl b), some (.inl one), some (.inl other), some (.inl (mnS one other)), some (.inl (prS M one + prS M other)), none] [] (Z, Rf, K, n, z) Q := by
      intro v hv
      rw [b185_10, wr_id (by omega) (by omega)]
      by_cases ho : other = -1
      · rw [if_pos ho, b185_16]
        exact s1 _ _ (by unfold mnS; rw [hv, if_pos ho])
      · rw [if_neg ho, b185_20]
        exact s1 _ _ (by unfold mnS; rw [hv, if_neg ho])
    rw [ce185, b185_0, wr_id (by omega) (by omega)]
    by_cases ho : one = -1
    · rw [if_pos ho, b185_5]
      exact s0 _ (by rw [if_pos ho])
    · rw [if_neg ho, b185_9]
      exact s0 _ (by rw [if_neg ho])
  by_cases hq : ¬ t.1 = -1 ∧ t.1 ≤ prS M one + prS M other
  · refine ⟨Z, ?_, frU_refl Z, fun Q => by rw [head, if_pos hq]⟩
    unfold tp1
    rw [if_pos hq]
    exact ht
  · obtain ⟨Z1, a1, a2, a3, a4, a5, q1⟩ := m_out (d := d + 6) (n := n) (z := z) H hM
    let M2 := pdS (pdS M one 1) other 1
    have o2 : ∀ k, (k < 120 ∨ 220 ≤ k) → M2 k = M k := fun k hk => by show pdS (pdS M one 1) other 1 k = _; rw [pdS_o b2.2 hk, pdS_o b1.2 hk]
    have i2 : invF M2 := invF_cg (fun k hk => o2 k (by omega)) hi.1
    have w2 : swS M2 := swS_cg (fun k hk => o2 k (by omega)) hi.2.1
    obtain ⟨Z2, c1, c2, q2⟩ : ∃ Z2, Z2 80 = M2 ∧ (∀ a, a ≠ 80 → Z2 a = Z1 a) ∧ ∀ l5 l6 Q, sm_wp (d + 7) 185 107 [some (.inr (some 79)), some (.inl a), some (.inl b), some (.inl one), some (.inl other), l5, l6, none] [] (Z1, Rf, K, n, z) Q = sm_wp (d + 7) 185 139 [some (.inr (some 79)), some (.inl a), some (.inl b), some (.inl one), some (.inl other), l5, l6, none] [] (Z2, Rf, K, n, z) Q := by
      have two : ∀ (Y : Nat → Nat → Int), Y 80 = pdS M one 1 → (∀ a, a ≠ 80 → Y a = Z1 a) → ∃ Z2, Z2 80 = M2 ∧ (∀ a, a ≠ 80 → Z2 a = Z1 a) ∧ ∀ l5 l6 Q, sm_wp (d + 7) 185 122 [some (.inr (some 79)), some (.inl a), some (.inl b), some (.inl one), some (.inl other), l5, l6, none] [] (Y, Rf, K, n, z) Q = sm_wp (d + 7) 185 139 [some (.inr (some 79)), some (.inl a), some (.inl b), some (.inl one), some (.inl other), l5, l6, none] [] (Z2, Rf, K, n, z) Q := by
        intro Y y1 y2
        by_cases ho : other = -1
        · refine ⟨Y, ?_, y2, fun l5 l6 Q => ?_⟩
          · rw [y1]
            show _ = pdS (pdS M one 1) other 1
            conv => rhs; unfold pdS
            rw [if_pos ho]
            rfl
          · rw [b185_122, wr_id (by omega) (by omega), if_pos ho]
        · refine ⟨sm_u Y 80 (120 + other.toNat) 1, ?_, fun a ha => by rw [sm_u_row ha, y2 a ha], fun l5 l6 Q => ?_⟩
          · rw [sm_u_mU, y1]
            funext k
            show _ = pdS (pdS M one 1) other 1 k
            rw [pdS_k (c := other)]
            unfold mU
            by_cases hk : k = 120 + other.toNat
            · rw [if_pos hk, if_pos ⟨ho, hk⟩]
            · rw [if_neg hk, if_neg (fun g => hk g.2)]
          · rw [b185_122, wr_id (by omega) (by omega), if_neg ho, b185_128, kk_79 H, rr_79_0 H]
            simp (disch := omega) only [wr_id, wr_b2i, wr_wr, b2i_eq0, b2i_eq1, b2i_01, sm_rem_eq, sm_div_eq, wl_m2, wl_m1, wl_0, wl_1, wl_2, wl_3, wl_4, wl_5, wl_6, wl_7, wl_8, wl_9, wl_10, wl_12, wl_13, wl_14, wl_16, wl_20, wl_21, wl_22, wl_23, wl_32, wl_36, wl_40, wl_41, wl_42, wl_43, wl_44, wl_45, wl_46, wl_47, wl_48, wl_57, wl_59, wl_60, wl_61, wl_62, wl_65, wl_90, wl_97, wl_99, wl_100, wl_121, wl_122, wl_140, wl_142, wl_143, wl_145, wl_147, wl_160, wl_161, wl_162, wl_242, wl_380, wl_400, wl_420, wl_820, wl_1340, wl_5480, wl_9999, true_and, and_true, true_or, or_true, if_true, if_false, and_self, or_self, false_and, and_false, false_or, or_false, not_true_eq_false, not_false_eq_true, Int.reduceEq, Int.reduceLT, Int.reduceLE, Int.reduceToNat, Int.reduceAdd, Int.reduceMul, Int.reduceSub, Int.reduceMod, Int.reduceDiv, Int.reduceNeg, Nat.reduceEqDiff, sm_rd_ok, sm_rd_ok2, sm_wt_ok, sm_cp_ok, Option.isSome_some, Option.getD_some, w_cont, Option.toList_some, Option.toList_none, List.cons_append, List.nil_append, kk_80 H]
            rw [n2 other ho b2.1]
      by_cases ho : one = -1
      · obtain ⟨Z2, y1, y2, y3⟩ := two Z1 (by rw [a1]; unfold pdS; rw [if_pos ho]) (fun _ _ => rfl)
        refine ⟨Z2, y1, y2, fun l5 l6 Q => ?_⟩
        rw [b185_107, wr_id (by omega) (by omega), if_pos ho]
        exact y3 l5 l6 Q
      · obtain ⟨Z2, y1, y2, y3⟩ := two (sm_u Z1 80 (120 + one.toNat) 1) (by rw [sm_u_mU, a1]; unfold pdS; rw [if_neg ho]) (fun a ha => sm_u_row ha)
        refine ⟨Z2, y1, y2, fun l5 l6 Q => ?_⟩
        rw [b185_107, wr_id (by omega) (by omega), if_neg ho, b185_112, kk_79 H, rr_79_0 H]
        simp (disch := omega) only [wr_id, wr_b2i, wr_wr, b2i_eq0, b2i_eq1, b2i_01, sm_rem_eq, sm_div_eq, wl_m2, wl_m1, wl_0, wl_1, wl_2, wl_3, wl_4, wl_5, wl_6, wl_7, wl_8, wl_9, wl_10, wl_12, wl_13, wl_14, wl_16, wl_20, wl_21, wl_22, wl_23, wl_32, wl_36, wl_40, wl_41, wl_42, wl_43, wl_44, wl_45, wl_46, wl_47, wl_48, wl_57, wl_59, wl_60, wl_61, wl_62, wl_65, wl_90, wl_97, wl_99, wl_100, wl_121, wl_122, wl_140, wl_142, wl_143, wl_145, wl_147, wl_160, wl_161, wl_162, wl_242, wl_380, wl_400, wl_420, wl_820, wl_1340, wl_5480, wl_9999, true_and, and_true, true_or, or_true, if_true, if_false, and_self, or_self, false_and, and_false, false_or, or_false, not_true_eq_false, not_false_eq_true, Int.reduceEq, Int.reduceLT, Int.reduceLE, Int.reduceToNat, Int.reduceAdd, Int.reduceMul, Int.reduceSub, Int.reduceMod, Int.reduceDiv, Int.reduceNeg, Nat.reduceEqDiff, sm_rd_ok, sm_rd_ok2, sm_wt_ok, sm_cp_ok, Option.isSome_some, Option.getD_some, w_cont, Option.toList_some, Option.toList_none, List.cons_append, List.nil_append, kk_80 H]
        rw [n2 one ho b1.1]
        exact y3 l5 l6 Q
    obtain ⟨Z3, d1, _, d3, q3⟩ := m_allFly (d := d) (n := n) (z := z) H (th := true) c1 i2 w2 (by rw [c2 79 (by decide), a3]; rfl)
    obtain ⟨ai, ag⟩ := allS_inv (th := true) i2 w2
    obtain ⟨Z4, e1, _, e3, e4, q4⟩ := m_laysCounties (d := d + 2) (n := n) (z := z) H d1 ai.1 ai.2.1
    have hnb := nmS_bd (M := allS true M2) ai.1
    have hu := agU_allS i2 w2
    have r82 : Z4 82 = Z1 82 := by
      rw [e3 82 (by decide) (by decide) (by decide), d3 82 (by decide) (by decide) (by decide) (by decide) (by decide) (by decide) (by decide), c2 82 (by decide)]
    obtain ⟨Z5, g1, g2, g3, g4, q5⟩ := m_back (d := d + 6) (n := n) (z := z) (Z := Z4) (M := M) H (fun k hk => by rw [r82]; exact a2 k hk) (fun k hk => by rw [e3 80 (by decide) (by decide) (by decide), d1, hu k hk, o2 k (by omega)])
    have fU : frU Z Z5 := ⟨fun a ha => by
      by_cases h80 : a = 80
      · rw [h80, g1, hM]
      · rw [g4 a (by omega) h80, e3 a (by omega) (by omega) (by omega), d3 a h80 (by omega) (by omega) (by omega) (by omega) (by omega) (by omega), c2 a h80, a5 a (by omega) (by omega)], fun j hj => by
      by_cases hj6 : j = 6
      · rw [hj6, g2, h6]
      · rw [g3 j hj6, e4 j (by omega), d3 79 (by decide) (by decide) (by decide) (by decide) (by decide) (by decide) (by decide), c2 79 (by decide), a4 j hj6]⟩
    have s79 : ∀ j, j ≠ 6 → j ≠ 30 → Z5 79 j = Z 79 j := fun j h1 h2 => by
      rw [g3 j h1, e4 j h2, d3 79 (by decide) (by decide) (by decide) (by decide) (by decide) (by decide) (by decide), c2 79 (by decide), a4 j h1]
    have body : ∀ Q, sm_wp (d + 7) 185 103 [some (.inr (some 79)), some (.inl a), some (.inl b), some (.inl one), some (.inl other), some (.inl (mnS one other)), some (.inl (prS M one + prS M other)), none] [] (Z, Rf, K, n, z) Q = if nmP M one other a.toNat = nmP M one other b.toNat then sm_wp (d + 7) 185 179 [some (.inr (some 79)), some (.inl a), some (.inl b), some (.inl one), some (.inl other), some (.inl (mnS one other)), some (.inl (prS M one + prS M other)), some (.inl 1)] [] (Z5, Rf, K, n, z) Q else Q none (Z5, Rf, K, n, z) := by
      intro Q
      have ea := e1 a.toNat (by omega)
      have eb := e1 b.toNat (by omega)
      have ha2 := hnb a.toNat (by omega)
      have hb2 := hnb b.toNat (by omega)
      have fa : Z4 93 a.toNat = nmP M one other a.toNat := ea
      have fb : Z4 93 b.toNat = nmP M one other b.toNat := eb
      have ga : -1 ≤ nmP M one other a.toNat ∧ nmP M one other a.toNat < 100 := ha2
      have gb : -1 ≤ nmP M one other b.toNat ∧ nmP M one other b.toNat < 100 := hb2
      rw [b185_103, kk_79 H]
      simp only [wr_id, wr_b2i, wr_wr, b2i_eq0, b2i_eq1, b2i_01, sm_rem_eq, sm_div_eq, wl_m2, wl_m1, wl_0, wl_1, wl_2, wl_3, wl_4, wl_5, wl_6, wl_7, wl_8, wl_9, wl_10, wl_12, wl_13, wl_14, wl_16, wl_20, wl_21, wl_22, wl_23, wl_32, wl_36, wl_40, wl_41, wl_42, wl_43, wl_44, wl_45, wl_46, wl_47, wl_48, wl_57, wl_59, wl_60, wl_61, wl_62, wl_65, wl_90, wl_97, wl_99, wl_100, wl_121, wl_122, wl_140, wl_142, wl_143, wl_145, wl_147, wl_160, wl_161, wl_162, wl_242, wl_380, wl_400, wl_420, wl_820, wl_1340, wl_5480, wl_9999, true_and, and_true, true_or, or_true, if_true, if_false, and_self, or_self, false_and, and_false, false_or, or_false, not_true_eq_false, not_false_eq_true, Int.reduceEq, Int.reduceLT, Int.reduceLE, Int.reduceToNat, Int.reduceAdd, Int.reduceMul, Int.reduceSub, Int.reduceMod, Int.reduceDiv, Int.reduceNeg, Nat.reduceEqDiff, sm_rd_ok, sm_rd_ok2, sm_wt_ok, sm_cp_ok, Option.isSome_some, Option.getD_some, w_cont, Option.toList_some, Option.toList_none, List.cons_append, List.nil_append]
      refine (q1 _).trans ?_
      rw [w_cont]
      simp only [wr_id, wr_b2i, wr_wr, b2i_eq0, b2i_eq1, b2i_01, sm_rem_eq, sm_div_eq, wl_m2, wl_m1, wl_0, wl_1, wl_2, wl_3, wl_4, wl_5, wl_6, wl_7, wl_8, wl_9, wl_10, wl_12, wl_13, wl_14, wl_16, wl_20, wl_21, wl_22, wl_23, wl_32, wl_36, wl_40, wl_41, wl_42, wl_43, wl_44, wl_45, wl_46, wl_47, wl_48, wl_57, wl_59, wl_60, wl_61, wl_62, wl_65, wl_90, wl_97, wl_99, wl_100, wl_121, wl_122, wl_140, wl_142, wl_143, wl_145, wl_147, wl_160, wl_161, wl_162, wl_242, wl_380, wl_400, wl_420, wl_820, wl_1340, wl_5480, wl_9999, true_and, and_true, true_or, or_true, if_true, if_false, and_self, or_self, false_and, and_false, false_or, or_false, not_true_eq_false, not_false_eq_true, Int.reduceEq, Int.reduceLT, Int.reduceLE, Int.reduceToNat, Int.reduceAdd, Int.reduceMul, Int.reduceSub, Int.reduceMod, Int.reduceDiv, Int.reduceNeg, Nat.reduceEqDiff, sm_rd_ok, sm_rd_ok2, sm_wt_ok, sm_cp_ok, Option.isSome_some, Option.getD_some, w_cont, Option.toList_some, Option.toList_none, List.cons_append, List.nil_append]
      refine (q2 _ _ Q).trans ?_
      rw [b185_139, kk_79 H]
      simp only [wr_id, wr_b2i, wr_wr, b2i_eq0, b2i_eq1, b2i_01, sm_rem_eq, sm_div_eq, wl_m2, wl_m1, wl_0, wl_1, wl_2, wl_3, wl_4, wl_5, wl_6, wl_7, wl_8, wl_9, wl_10, wl_12, wl_13, wl_14, wl_16, wl_20, wl_21, wl_22, wl_23, wl_32, wl_36, wl_40, wl_41, wl_42, wl_43, wl_44, wl_45, wl_46, wl_47, wl_48, wl_57, wl_59, wl_60, wl_61, wl_62, wl_65, wl_90, wl_97, wl_99, wl_100, wl_121, wl_122, wl_140, wl_142, wl_143, wl_145, wl_147, wl_160, wl_161, wl_162, wl_242, wl_380, wl_400, wl_420, wl_820, wl_1340, wl_5480, wl_9999, true_and, and_true, true_or, or_true, if_true, if_false, and_self, or_self, false_and, and_false, false_or, or_false, not_true_eq_false, not_false_eq_true, Int.reduceEq, Int.reduceLT, Int.reduceLE, Int.reduceToNat, Int.reduceAdd, Int.reduceMul, Int.reduceSub, Int.reduceMod, Int.reduceDiv, Int.reduceNeg, Nat.reduceEqDiff, sm_rd_ok, sm_rd_ok2, sm_wt_ok, sm_cp_ok, Option.isSome_some, Option.getD_some, w_cont, Option.toList_some, Option.toList_none, List.cons_append, List.nil_append]
      refine (q3 _).trans ?_
      rw [w_cont]
      simp only [wr_id, wr_b2i, wr_wr, b2i_eq0, b2i_eq1, b2i_01, sm_rem_eq, sm_div_eq, wl_m2, wl_m1, wl_0, wl_1, wl_2, wl_3, wl_4, wl_5, wl_6, wl_7, wl_8, wl_9, wl_10, wl_12, wl_13, wl_14, wl_16, wl_20, wl_21, wl_22, wl_23, wl_32, wl_36, wl_40, wl_41, wl_42, wl_43, wl_44, wl_45, wl_46, wl_47, wl_48, wl_57, wl_59, wl_60, wl_61, wl_62, wl_65, wl_90, wl_97, wl_99, wl_100, wl_121, wl_122, wl_140, wl_142, wl_143, wl_145, wl_147, wl_160, wl_161, wl_162, wl_242, wl_380, wl_400, wl_420, wl_820, wl_1340, wl_5480, wl_9999, true_and, and_true, true_or, or_true, if_true, if_false, and_self, or_self, false_and, and_false, false_or, or_false, not_true_eq_false, not_false_eq_true, Int.reduceEq, Int.reduceLT, Int.reduceLE, Int.reduceToNat, Int.reduceAdd, Int.reduceMul, Int.reduceSub, Int.reduceMod, Int.reduceDiv, Int.reduceNeg, Nat.reduceEqDiff, sm_rd_ok, sm_rd_ok2, sm_wt_ok, sm_cp_ok, Option.isSome_some, Option.getD_some, w_cont, Option.toList_some, Option.toList_none, List.cons_append, List.nil_append]
      rw [b185_143, kk_79 H]
      simp only [wr_id, wr_b2i, wr_wr, b2i_eq0, b2i_eq1, b2i_01, sm_rem_eq, sm_div_eq, wl_m2, wl_m1, wl_0, wl_1, wl_2, wl_3, wl_4, wl_5, wl_6, wl_7, wl_8, wl_9, wl_10, wl_12, wl_13, wl_14, wl_16, wl_20, wl_21, wl_22, wl_23, wl_32, wl_36, wl_40, wl_41, wl_42, wl_43, wl_44, wl_45, wl_46, wl_47, wl_48, wl_57, wl_59, wl_60, wl_61, wl_62, wl_65, wl_90, wl_97, wl_99, wl_100, wl_121, wl_122, wl_140, wl_142, wl_143, wl_145, wl_147, wl_160, wl_161, wl_162, wl_242, wl_380, wl_400, wl_420, wl_820, wl_1340, wl_5480, wl_9999, true_and, and_true, true_or, or_true, if_true, if_false, and_self, or_self, false_and, and_false, false_or, or_false, not_true_eq_false, not_false_eq_true, Int.reduceEq, Int.reduceLT, Int.reduceLE, Int.reduceToNat, Int.reduceAdd, Int.reduceMul, Int.reduceSub, Int.reduceMod, Int.reduceDiv, Int.reduceNeg, Nat.reduceEqDiff, sm_rd_ok, sm_rd_ok2, sm_wt_ok, sm_cp_ok, Option.isSome_some, Option.getD_some, w_cont, Option.toList_some, Option.toList_none, List.cons_append, List.nil_append]
      refine (q4 _).trans ?_
      rw [w_cont]
      simp only [wr_id, wr_b2i, wr_wr, b2i_eq0, b2i_eq1, b2i_01, sm_rem_eq, sm_div_eq, wl_m2, wl_m1, wl_0, wl_1, wl_2, wl_3, wl_4, wl_5, wl_6, wl_7, wl_8, wl_9, wl_10, wl_12, wl_13, wl_14, wl_16, wl_20, wl_21, wl_22, wl_23, wl_32, wl_36, wl_40, wl_41, wl_42, wl_43, wl_44, wl_45, wl_46, wl_47, wl_48, wl_57, wl_59, wl_60, wl_61, wl_62, wl_65, wl_90, wl_97, wl_99, wl_100, wl_121, wl_122, wl_140, wl_142, wl_143, wl_145, wl_147, wl_160, wl_161, wl_162, wl_242, wl_380, wl_400, wl_420, wl_820, wl_1340, wl_5480, wl_9999, true_and, and_true, true_or, or_true, if_true, if_false, and_self, or_self, false_and, and_false, false_or, or_false, not_true_eq_false, not_false_eq_true, Int.reduceEq, Int.reduceLT, Int.reduceLE, Int.reduceToNat, Int.reduceAdd, Int.reduceMul, Int.reduceSub, Int.reduceMod, Int.reduceDiv, Int.reduceNeg, Nat.reduceEqDiff, sm_rd_ok, sm_rd_ok2, sm_wt_ok, sm_cp_ok, Option.isSome_some, Option.getD_some, w_cont, Option.toList_some, Option.toList_none, List.cons_append, List.nil_append]
      rw [b185_147, kk_79 H, rr_79_28 H]
      simp (disch := omega) only [wr_id, wr_b2i, wr_wr, b2i_eq0, b2i_eq1, b2i_01, sm_rem_eq, sm_div_eq, wl_m2, wl_m1, wl_0, wl_1, wl_2, wl_3, wl_4, wl_5, wl_6, wl_7, wl_8, wl_9, wl_10, wl_12, wl_13, wl_14, wl_16, wl_20, wl_21, wl_22, wl_23, wl_32, wl_36, wl_40, wl_41, wl_42, wl_43, wl_44, wl_45, wl_46, wl_47, wl_48, wl_57, wl_59, wl_60, wl_61, wl_62, wl_65, wl_90, wl_97, wl_99, wl_100, wl_121, wl_122, wl_140, wl_142, wl_143, wl_145, wl_147, wl_160, wl_161, wl_162, wl_242, wl_380, wl_400, wl_420, wl_820, wl_1340, wl_5480, wl_9999, true_and, and_true, true_or, or_true, if_true, if_false, and_self, or_self, false_and, and_false, false_or, or_false, not_true_eq_false, not_false_eq_true, Int.reduceEq, Int.reduceLT, Int.reduceLE, Int.reduceToNat, Int.reduceAdd, Int.reduceMul, Int.reduceSub, Int.reduceMod, Int.reduceDiv, Int.reduceNeg, Nat.reduceEqDiff, sm_rd_ok, sm_rd_ok2, sm_wt_ok, sm_cp_ok, Option.isSome_some, Option.getD_some, w_cont, Option.toList_some, Option.toList_none, List.cons_append, List.nil_append, kk_93 H, fa, fb]
      have lst : ∀ v : Int, sm_wp (d + 7) 185 167 [some (.inr (some 79)), some (.inl a), some (.inl b), some (.inl one), some (.inl other), some (.inl (mnS one other)), some (.inl (prS M one + prS M other)), none] [.inl v] (Z4, Rf, K, n, z) Q = sm_wp (d + 7) 185 173 [some (.inr (some 79)), some (.inl a), some (.inl b), some (.inl one), some (.inl other), some (.inl (mnS one other)), some (.inl (prS M one + prS M other)), some (.inl v)] [] (Z5, Rf, K, n, z) Q := by
        intro v
        rw [b185_167, kk_79 H]
        simp only [wr_id, wr_b2i, wr_wr, b2i_eq0, b2i_eq1, b2i_01, sm_rem_eq, sm_div_eq, wl_m2, wl_m1, wl_0, wl_1, wl_2, wl_3, wl_4, wl_5, wl_6, wl_7, wl_8, wl_9, wl_10, wl_12, wl_13, wl_14, wl_16, wl_20, wl_21, wl_22, wl_23, wl_32, wl_36, wl_40, wl_41, wl_42, wl_43, wl_44, wl_45, wl_46, wl_47, wl_48, wl_57, wl_59, wl_60, wl_61, wl_62, wl_65, wl_90, wl_97, wl_99, wl_100, wl_121, wl_122, wl_140, wl_142, wl_143, wl_145, wl_147, wl_160, wl_161, wl_162, wl_242, wl_380, wl_400, wl_420, wl_820, wl_1340, wl_5480, wl_9999, true_and, and_true, true_or, or_true, if_true, if_false, and_self, or_self, false_and, and_false, false_or, or_false, not_true_eq_false, not_false_eq_true, Int.reduceEq, Int.reduceLT, Int.reduceLE, Int.reduceToNat, Int.reduceAdd, Int.reduceMul, Int.reduceSub, Int.reduceMod, Int.reduceDiv, Int.reduceNeg, Nat.reduceEqDiff, sm_rd_ok, sm_rd_ok2, sm_wt_ok, sm_cp_ok, Option.isSome_some, Option.getD_some, w_cont, Option.toList_some, Option.toList_none, List.cons_append, List.nil_append]
        refine (q5 _).trans ?_
        rw [w_cont]
        simp only [wr_id, wr_b2i, wr_wr, b2i_eq0, b2i_eq1, b2i_01, sm_rem_eq, sm_div_eq, wl_m2, wl_m1, wl_0, wl_1, wl_2, wl_3, wl_4, wl_5, wl_6, wl_7, wl_8, wl_9, wl_10, wl_12, wl_13, wl_14, wl_16, wl_20, wl_21, wl_22, wl_23, wl_32, wl_36, wl_40, wl_41, wl_42, wl_43, wl_44, wl_45, wl_46, wl_47, wl_48, wl_57, wl_59, wl_60, wl_61, wl_62, wl_65, wl_90, wl_97, wl_99, wl_100, wl_121, wl_122, wl_140, wl_142, wl_143, wl_145, wl_147, wl_160, wl_161, wl_162, wl_242, wl_380, wl_400, wl_420, wl_820, wl_1340, wl_5480, wl_9999, true_and, and_true, true_or, or_true, if_true, if_false, and_self, or_self, false_and, and_false, false_or, or_false, not_true_eq_false, not_false_eq_true, Int.reduceEq, Int.reduceLT, Int.reduceLE, Int.reduceToNat, Int.reduceAdd, Int.reduceMul, Int.reduceSub, Int.reduceMod, Int.reduceDiv, Int.reduceNeg, Nat.reduceEqDiff, sm_rd_ok, sm_rd_ok2, sm_wt_ok, sm_cp_ok, Option.isSome_some, Option.getD_some, w_cont, Option.toList_some, Option.toList_none, List.cons_append, List.nil_append]
      by_cases hn : nmP M one other a.toNat = nmP M one other b.toNat
      · rw [if_pos hn, if_pos hn, b185_162, lst, b185_173]
        simp only [wr_id, wr_b2i, wr_wr, b2i_eq0, b2i_eq1, b2i_01, sm_rem_eq, sm_div_eq, wl_m2, wl_m1, wl_0, wl_1, wl_2, wl_3, wl_4, wl_5, wl_6, wl_7, wl_8, wl_9, wl_10, wl_12, wl_13, wl_14, wl_16, wl_20, wl_21, wl_22, wl_23, wl_32, wl_36, wl_40, wl_41, wl_42, wl_43, wl_44, wl_45, wl_46, wl_47, wl_48, wl_57, wl_59, wl_60, wl_61, wl_62, wl_65, wl_90, wl_97, wl_99, wl_100, wl_121, wl_122, wl_140, wl_142, wl_143, wl_145, wl_147, wl_160, wl_161, wl_162, wl_242, wl_380, wl_400, wl_420, wl_820, wl_1340, wl_5480, wl_9999, true_and, and_true, true_or, or_true, if_true, if_false, and_self, or_self, false_and, and_false, false_or, or_false, not_true_eq_false, not_false_eq_true, Int.reduceEq, Int.reduceLT, Int.reduceLE, Int.reduceToNat, Int.reduceAdd, Int.reduceMul, Int.reduceSub, Int.reduceMod, Int.reduceDiv, Int.reduceNeg, Nat.reduceEqDiff, sm_rd_ok, sm_rd_ok2, sm_wt_ok, sm_cp_ok, Option.isSome_some, Option.getD_some, w_cont, Option.toList_some, Option.toList_none, List.cons_append, List.nil_append]
      · rw [if_neg hn, if_neg hn, b185_166, lst, b185_173]
        simp only [wr_id, wr_b2i, wr_wr, b2i_eq0, b2i_eq1, b2i_01, sm_rem_eq, sm_div_eq, wl_m2, wl_m1, wl_0, wl_1, wl_2, wl_3, wl_4, wl_5, wl_6, wl_7, wl_8, wl_9, wl_10, wl_12, wl_13, wl_14, wl_16, wl_20, wl_21, wl_22, wl_23, wl_32, wl_36, wl_40, wl_41, wl_42, wl_43, wl_44, wl_45, wl_46, wl_47, wl_48, wl_57, wl_59, wl_60, wl_61, wl_62, wl_65, wl_90, wl_97, wl_99, wl_100, wl_121, wl_122, wl_140, wl_142, wl_143, wl_145, wl_147, wl_160, wl_161, wl_162, wl_242, wl_380, wl_400, wl_420, wl_820, wl_1340, wl_5480, wl_9999, true_and, and_true, true_or, or_true, if_true, if_false, and_self, or_self, false_and, and_false, false_or, or_false, not_true_eq_false, not_false_eq_true, Int.reduceEq, Int.reduceLT, Int.reduceLE, Int.reduceToNat, Int.reduceAdd, Int.reduceMul, Int.reduceSub, Int.reduceMod, Int.reduceDiv, Int.reduceNeg, Nat.reduceEqDiff, sm_rd_ok, sm_rd_ok2, sm_wt_ok, sm_cp_ok, Option.isSome_some, Option.getD_some, w_cont, Option.toList_some, Option.toList_none, List.cons_append, List.nil_append]
        rw [b185_178]
    by_cases hn : nmP M one other a.toNat = nmP M one other b.toNat
    · have et : tp1 M a b one other t = (prS M one + prS M other, mnS one other, one, other) := by unfold tp1; rw [if_neg hq, if_pos hn]
      rw [et]
      refine ⟨sm_u (sm_u (sm_u (sm_u Z5 79 31 (prS M one + prS M other)) 79 32 (mnS one other)) 79 33 one) 79 34 other, ⟨?_, fun _ => ⟨?_, ?_, ?_, mb.1, Int.le_refl _⟩, Or.inr (by show 0 ≤ prS M one + prS M other ∧ prS M one + prS M other ≤ 198; omega)⟩, frU_trans fU ⟨fun a ha => ?_, fun j hj => ?_⟩, fun Q => ?_⟩
      · simp [sm_u]
      · simp [sm_u]
      · simp [sm_u]
      · simp [sm_u]
      · rw [sm_u_row (by omega), sm_u_row (by omega), sm_u_row (by omega), sm_u_row (by omega)]
      · rw [sm_u_eq, if_neg (by omega), sm_u_eq, if_neg (by omega), sm_u_eq, if_neg (by omega), sm_u_eq, if_neg (by omega)]
      · rw [head, if_neg hq, body, if_pos hn, b185_179, kk_79 H]
        simp only [wr_id, wr_b2i, wr_wr, b2i_eq0, b2i_eq1, b2i_01, sm_rem_eq, sm_div_eq, wl_m2, wl_m1, wl_0, wl_1, wl_2, wl_3, wl_4, wl_5, wl_6, wl_7, wl_8, wl_9, wl_10, wl_12, wl_13, wl_14, wl_16, wl_20, wl_21, wl_22, wl_23, wl_32, wl_36, wl_40, wl_41, wl_42, wl_43, wl_44, wl_45, wl_46, wl_47, wl_48, wl_57, wl_59, wl_60, wl_61, wl_62, wl_65, wl_90, wl_97, wl_99, wl_100, wl_121, wl_122, wl_140, wl_142, wl_143, wl_145, wl_147, wl_160, wl_161, wl_162, wl_242, wl_380, wl_400, wl_420, wl_820, wl_1340, wl_5480, wl_9999, true_and, and_true, true_or, or_true, if_true, if_false, and_self, or_self, false_and, and_false, false_or, or_false, not_true_eq_false, not_false_eq_true, Int.reduceEq, Int.reduceLT, Int.reduceLE, Int.reduceToNat, Int.reduceAdd, Int.reduceMul, Int.reduceSub, Int.reduceMod, Int.reduceDiv, Int.reduceNeg, Nat.reduceEqDiff, sm_rd_ok, sm_rd_ok2, sm_wt_ok, sm_cp_ok, Option.isSome_some, Option.getD_some, w_cont, Option.toList_some, Option.toList_none, List.cons_append, List.nil_append]
    · have et : tp1 M a b one other t = t := by unfold tp1; rw [if_neg hq, if_neg hn]
      rw [et]
      refine ⟨Z5, ?_, fU, fun Q => ?_⟩
      · unfold rQn at ht ⊢
        rw [s79 31 (by decide) (by decide), s79 32 (by decide) (by decide), s79 33 (by decide) (by decide), s79 34 (by decide) (by decide)]
        exact ht
      · rw [head, if_neg hq, body, if_neg hn]
theorem m_isFree (H : sm_sh Rf K) {M : Nat → Int} (hM : Z 80 = M) (hi : invD M) {c : Nat} (hc : c < 100) : sm_call (d + 3) 186 [.inr (some 79), .inl (c : Int)] (Z, Rf, K, n, z) Q = Q (some (.inl (b2i (decide (isC (M 0) (M 1) (c : Int) = true ∧ M (120 + c) = 0))))) (Z, Rf, K, n, z) := by
  have hsz := szM_of hi hM
  have hp := hi.2.2.2.1 c hc
  have n1 : (120 + (c : Int)).toNat = 120 + c := by omega
  rw [ce186, b186_0, kk_79 H, m_isCell H hsz (by unfold aI; omega), w_cont, hM]
  simp only [wr_id, wr_b2i, wr_wr, b2i_eq0, b2i_eq1, b2i_01, sm_rem_eq, sm_div_eq, wl_m2, wl_m1, wl_0, wl_1, wl_2, wl_3, wl_4, wl_5, wl_6, wl_7, wl_8, wl_9, wl_10, wl_12, wl_13, wl_14, wl_16, wl_20, wl_21, wl_22, wl_23, wl_32, wl_36, wl_40, wl_41, wl_42, wl_43, wl_44, wl_45, wl_46, wl_47, wl_48, wl_57, wl_59, wl_60, wl_61, wl_62, wl_65, wl_90, wl_97, wl_99, wl_100, wl_121, wl_122, wl_140, wl_142, wl_143, wl_145, wl_147, wl_160, wl_161, wl_162, wl_242, wl_380, wl_400, wl_420, wl_820, wl_1340, wl_5480, wl_9999, true_and, and_true, true_or, or_true, if_true, if_false, and_self, or_self, false_and, and_false, false_or, or_false, not_true_eq_false, not_false_eq_true, Int.reduceEq, Int.reduceLT, Int.reduceLE, Int.reduceToNat, Int.reduceAdd, Int.reduceMul, Int.reduceSub, Int.reduceMod, Int.reduceDiv, Int.reduceNeg, Nat.reduceEqDiff, sm_rd_ok, sm_rd_ok2, sm_wt_ok, sm_cp_ok, Option.isSome_some, Option.getD_some, w_cont, Option.toList_some, Option.toList_none, List.cons_append, List.nil_append]
  rw [b186_5]
  simp only [wr_id, wr_b2i, wr_wr, b2i_eq0, b2i_eq1, b2i_01, sm_rem_eq, sm_div_eq, wl_m2, wl_m1, wl_0, wl_1, wl_2, wl_3, wl_4, wl_5, wl_6, wl_7, wl_8, wl_9, wl_10, wl_12, wl_13, wl_14, wl_16, wl_20, wl_21, wl_22, wl_23, wl_32, wl_36, wl_40, wl_41, wl_42, wl_43, wl_44, wl_45, wl_46, wl_47, wl_48, wl_57, wl_59, wl_60, wl_61, wl_62, wl_65, wl_90, wl_97, wl_99, wl_100, wl_121, wl_122, wl_140, wl_142, wl_143, wl_145, wl_147, wl_160, wl_161, wl_162, wl_242, wl_380, wl_400, wl_420, wl_820, wl_1340, wl_5480, wl_9999, true_and, and_true, true_or, or_true, if_true, if_false, and_self, or_self, false_and, and_false, false_or, or_false, not_true_eq_false, not_false_eq_true, Int.reduceEq, Int.reduceLT, Int.reduceLE, Int.reduceToNat, Int.reduceAdd, Int.reduceMul, Int.reduceSub, Int.reduceMod, Int.reduceDiv, Int.reduceNeg, Nat.reduceEqDiff, sm_rd_ok, sm_rd_ok2, sm_wt_ok, sm_cp_ok, Option.isSome_some, Option.getD_some, w_cont, Option.toList_some, Option.toList_none, List.cons_append, List.nil_append]
  by_cases h1 : isC (M 0) (M 1) (c : Int) = true
  · rw [if_neg (by rw [h1]; decide), b186_8, kk_79 H, rr_79_0 H]
    simp (disch := omega) only [wr_id, wr_b2i, wr_wr, b2i_eq0, b2i_eq1, b2i_01, sm_rem_eq, sm_div_eq, wl_m2, wl_m1, wl_0, wl_1, wl_2, wl_3, wl_4, wl_5, wl_6, wl_7, wl_8, wl_9, wl_10, wl_12, wl_13, wl_14, wl_16, wl_20, wl_21, wl_22, wl_23, wl_32, wl_36, wl_40, wl_41, wl_42, wl_43, wl_44, wl_45, wl_46, wl_47, wl_48, wl_57, wl_59, wl_60, wl_61, wl_62, wl_65, wl_90, wl_97, wl_99, wl_100, wl_121, wl_122, wl_140, wl_142, wl_143, wl_145, wl_147, wl_160, wl_161, wl_162, wl_242, wl_380, wl_400, wl_420, wl_820, wl_1340, wl_5480, wl_9999, true_and, and_true, true_or, or_true, if_true, if_false, and_self, or_self, false_and, and_false, false_or, or_false, not_true_eq_false, not_false_eq_true, Int.reduceEq, Int.reduceLT, Int.reduceLE, Int.reduceToNat, Int.reduceAdd, Int.reduceMul, Int.reduceSub, Int.reduceMod, Int.reduceDiv, Int.reduceNeg, Nat.reduceEqDiff, sm_rd_ok, sm_rd_ok2, sm_wt_ok, sm_cp_ok, Option.isSome_some, Option.getD_some, w_cont, Option.toList_some, Option.toList_none, List.cons_append, List.nil_append, kk_80 H, hM, n1]
    by_cases h0 : M (120 + c) = 0
    · rw [if_pos h0, b186_20, b186_25, decide_eq_true ⟨h1, h0⟩]
      simp only [wr_id, wr_b2i, wr_wr, b2i_eq0, b2i_eq1, b2i_01, sm_rem_eq, sm_div_eq, wl_m2, wl_m1, wl_0, wl_1, wl_2, wl_3, wl_4, wl_5, wl_6, wl_7, wl_8, wl_9, wl_10, wl_12, wl_13, wl_14, wl_16, wl_20, wl_21, wl_22, wl_23, wl_32, wl_36, wl_40, wl_41, wl_42, wl_43, wl_44, wl_45, wl_46, wl_47, wl_48, wl_57, wl_59, wl_60, wl_61, wl_62, wl_65, wl_90, wl_97, wl_99, wl_100, wl_121, wl_122, wl_140, wl_142, wl_143, wl_145, wl_147, wl_160, wl_161, wl_162, wl_242, wl_380, wl_400, wl_420, wl_820, wl_1340, wl_5480, wl_9999, true_and, and_true, true_or, or_true, if_true, if_false, and_self, or_self, false_and, and_false, false_or, or_false, not_true_eq_false, not_false_eq_true, Int.reduceEq, Int.reduceLT, Int.reduceLE, Int.reduceToNat, Int.reduceAdd, Int.reduceMul, Int.reduceSub, Int.reduceMod, Int.reduceDiv, Int.reduceNeg, Nat.reduceEqDiff, sm_rd_ok, sm_rd_ok2, sm_wt_ok, sm_cp_ok, Option.isSome_some, Option.getD_some, w_cont, Option.toList_some, Option.toList_none, List.cons_append, List.nil_append]
      rfl
    · rw [if_neg h0, b186_24, b186_25, decide_eq_false (fun g => h0 g.2)]
      simp only [wr_id, wr_b2i, wr_wr, b2i_eq0, b2i_eq1, b2i_01, sm_rem_eq, sm_div_eq, wl_m2, wl_m1, wl_0, wl_1, wl_2, wl_3, wl_4, wl_5, wl_6, wl_7, wl_8, wl_9, wl_10, wl_12, wl_13, wl_14, wl_16, wl_20, wl_21, wl_22, wl_23, wl_32, wl_36, wl_40, wl_41, wl_42, wl_43, wl_44, wl_45, wl_46, wl_47, wl_48, wl_57, wl_59, wl_60, wl_61, wl_62, wl_65, wl_90, wl_97, wl_99, wl_100, wl_121, wl_122, wl_140, wl_142, wl_143, wl_145, wl_147, wl_160, wl_161, wl_162, wl_242, wl_380, wl_400, wl_420, wl_820, wl_1340, wl_5480, wl_9999, true_and, and_true, true_or, or_true, if_true, if_false, and_self, or_self, false_and, and_false, false_or, or_false, not_true_eq_false, not_false_eq_true, Int.reduceEq, Int.reduceLT, Int.reduceLE, Int.reduceToNat, Int.reduceAdd, Int.reduceMul, Int.reduceSub, Int.reduceMod, Int.reduceDiv, Int.reduceNeg, Nat.reduceEqDiff, sm_rd_ok, sm_rd_ok2, sm_wt_ok, sm_cp_ok, Option.isSome_some, Option.getD_some, w_cont, Option.toList_some, Option.toList_none, List.cons_append, List.nil_append]
      rfl
  · rw [if_pos (Bool.eq_false_iff.2 h1), b186_24, b186_25, decide_eq_false (fun g => h1 g.1)]
    simp only [wr_id, wr_b2i, wr_wr, b2i_eq0, b2i_eq1, b2i_01, sm_rem_eq, sm_div_eq, wl_m2, wl_m1, wl_0, wl_1, wl_2, wl_3, wl_4, wl_5, wl_6, wl_7, wl_8, wl_9, wl_10, wl_12, wl_13, wl_14, wl_16, wl_20, wl_21, wl_22, wl_23, wl_32, wl_36, wl_40, wl_41, wl_42, wl_43, wl_44, wl_45, wl_46, wl_47, wl_48, wl_57, wl_59, wl_60, wl_61, wl_62, wl_65, wl_90, wl_97, wl_99, wl_100, wl_121, wl_122, wl_140, wl_142, wl_143, wl_145, wl_147, wl_160, wl_161, wl_162, wl_242, wl_380, wl_400, wl_420, wl_820, wl_1340, wl_5480, wl_9999, true_and, and_true, true_or, or_true, if_true, if_false, and_self, or_self, false_and, and_false, false_or, or_false, not_true_eq_false, not_false_eq_true, Int.reduceEq, Int.reduceLT, Int.reduceLE, Int.reduceToNat, Int.reduceAdd, Int.reduceMul, Int.reduceSub, Int.reduceMod, Int.reduceDiv, Int.reduceNeg, Nat.reduceEqDiff, sm_rd_ok, sm_rd_ok2, sm_wt_ok, sm_cp_ok, Option.isSome_some, Option.getD_some, w_cont, Option.toList_some, Option.toList_none, List.cons_append, List.nil_append]
    rfl
theorem m_sg_loop (H : sm_sh Rf K) {M : Nat → Int} (hi : invD M) {a b : Int} (ha : 0 ≤ a ∧ a < 100) (hb : 0 ≤ b ∧ b < 100) {l3 l5 : Option sm_V} : ∀ (k i : Nat) (Z : Nat → Nat → Int) (t : pnT), i + k = 100 → Z 80 = M → Z 79 6 = 0 → rQn Z t 1 → ∃ Z', rQn Z' (sgR M a b (frL M k i) t) 1 ∧ frU Z Z' ∧ ∀ Q, sm_wp (d + 8) 187 74 [some (.inr (some 79)), some (.inl a), some (.inl b), l3, some (.inl (i : Int)), l5] [] (Z, Rf, K, n, z) Q = sm_wp (d + 8) 187 105 [some (.inr (some 79)), some (.inl a), some (.inl b), l3, some (.inl 100), l5] [] (Z', Rf, K, n, z) Q := by
  intro k
  induction k with
  | zero =>
    intro i Z t hik hM h6 ht
    have : i = 100 := by omega
    refine ⟨Z, ht, frU_refl Z, fun Q => ?_⟩
    rw [b187_74, wr_id (by omega) (by omega), if_pos (by omega), this]
    rfl
  | succ k ih =>
    intro i Z t hik hM h6 ht
    have head : ∀ Q, sm_wp (d + 8) 187 74 [some (.inr (some 79)), some (.inl a), some (.inl b), l3, some (.inl (i : Int)), l5] [] (Z, Rf, K, n, z) Q = if isC (M 0) (M 1) (i : Int) = true ∧ M (120 + i) = 0 then sm_wp (d + 8) 187 90 [some (.inr (some 79)), some (.inl a), some (.inl b), l3, some (.inl (i : Int)), l5] [] (Z, Rf, K, n, z) Q else sm_wp (d + 8) 187 74 [some (.inr (some 79)), some (.inl a), some (.inl b), l3, some (.inl ((i + 1 : Nat) : Int)), l5] [] (Z, Rf, K, n, z) Q := by
      intro Q
      rw [b187_74, wr_id (by omega) (by omega), if_neg (by omega), b187_81, kk_79 H, m_isFree (d := d + 4) H hM hi (by omega), w_cont]
      simp only [wr_id, wr_b2i, wr_wr, b2i_eq0, b2i_eq1, b2i_01, sm_rem_eq, sm_div_eq, wl_m2, wl_m1, wl_0, wl_1, wl_2, wl_3, wl_4, wl_5, wl_6, wl_7, wl_8, wl_9, wl_10, wl_12, wl_13, wl_14, wl_16, wl_20, wl_21, wl_22, wl_23, wl_32, wl_36, wl_40, wl_41, wl_42, wl_43, wl_44, wl_45, wl_46, wl_47, wl_48, wl_57, wl_59, wl_60, wl_61, wl_62, wl_65, wl_90, wl_97, wl_99, wl_100, wl_121, wl_122, wl_140, wl_142, wl_143, wl_145, wl_147, wl_160, wl_161, wl_162, wl_242, wl_380, wl_400, wl_420, wl_820, wl_1340, wl_5480, wl_9999, true_and, and_true, true_or, or_true, if_true, if_false, and_self, or_self, false_and, and_false, false_or, or_false, not_true_eq_false, not_false_eq_true, Int.reduceEq, Int.reduceLT, Int.reduceLE, Int.reduceToNat, Int.reduceAdd, Int.reduceMul, Int.reduceSub, Int.reduceMod, Int.reduceDiv, Int.reduceNeg, Nat.reduceEqDiff, sm_rd_ok, sm_rd_ok2, sm_wt_ok, sm_cp_ok, Option.isSome_some, Option.getD_some, w_cont, Option.toList_some, Option.toList_none, List.cons_append, List.nil_append]
      rw [b187_87]
      simp only [wr_id, wr_b2i, wr_wr, b2i_eq0, b2i_eq1, b2i_01, sm_rem_eq, sm_div_eq, wl_m2, wl_m1, wl_0, wl_1, wl_2, wl_3, wl_4, wl_5, wl_6, wl_7, wl_8, wl_9, wl_10, wl_12, wl_13, wl_14, wl_16, wl_20, wl_21, wl_22, wl_23, wl_32, wl_36, wl_40, wl_41, wl_42, wl_43, wl_44, wl_45, wl_46, wl_47, wl_48, wl_57, wl_59, wl_60, wl_61, wl_62, wl_65, wl_90, wl_97, wl_99, wl_100, wl_121, wl_122, wl_140, wl_142, wl_143, wl_145, wl_147, wl_160, wl_161, wl_162, wl_242, wl_380, wl_400, wl_420, wl_820, wl_1340, wl_5480, wl_9999, true_and, and_true, true_or, or_true, if_true, if_false, and_self, or_self, false_and, and_false, false_or, or_false, not_true_eq_false, not_false_eq_true, Int.reduceEq, Int.reduceLT, Int.reduceLE, Int.reduceToNat, Int.reduceAdd, Int.reduceMul, Int.reduceSub, Int.reduceMod, Int.reduceDiv, Int.reduceNeg, Nat.reduceEqDiff, sm_rd_ok, sm_rd_ok2, sm_wt_ok, sm_cp_ok, Option.isSome_some, Option.getD_some, w_cont, Option.toList_some, Option.toList_none, List.cons_append, List.nil_append, decide_eq_false_iff_not]
      by_cases hc : isC (M 0) (M 1) (i : Int) = true ∧ M (120 + i) = 0
      · rw [if_neg (fun g => g hc), if_pos hc]
      · rw [if_pos hc, if_neg hc, b187_99, show (i : Int) + 1 = ((i + 1 : Nat) : Int) by omega]
    simp only [frL]
    by_cases hc : isC (M 0) (M 1) (i : Int) = true ∧ M (120 + i) = 0
    · rw [if_pos hc]
      have em : mnS (i : Int) (-1) = 1 := by unfold mnS; rw [if_neg (by omega), if_pos rfl]; rfl
      obtain ⟨Z1, t1, f1, q1⟩ := m_tries (d := d) (n := n) (z := z) H hM hi h6 ha hb (one := (i : Int)) (other := -1) (by omega) (by omega) (t := t) (by rw [em]; exact ht)
      rw [em] at t1
      obtain ⟨Z2, t2, f2, q2⟩ := ih (i + 1) Z1 _ (by omega) (by rw [f1.1 80 (by omega)]; exact hM) (by rw [f1.2 6 (by omega)]; exact h6) t1
      refine ⟨Z2, t2, frU_trans f1 f2, fun Q => ?_⟩
      rw [head, if_pos hc, b187_90, kk_79 H]
      simp only [wr_id, wr_b2i, wr_wr, b2i_eq0, b2i_eq1, b2i_01, sm_rem_eq, sm_div_eq, wl_m2, wl_m1, wl_0, wl_1, wl_2, wl_3, wl_4, wl_5, wl_6, wl_7, wl_8, wl_9, wl_10, wl_12, wl_13, wl_14, wl_16, wl_20, wl_21, wl_22, wl_23, wl_32, wl_36, wl_40, wl_41, wl_42, wl_43, wl_44, wl_45, wl_46, wl_47, wl_48, wl_57, wl_59, wl_60, wl_61, wl_62, wl_65, wl_90, wl_97, wl_99, wl_100, wl_121, wl_122, wl_140, wl_142, wl_143, wl_145, wl_147, wl_160, wl_161, wl_162, wl_242, wl_380, wl_400, wl_420, wl_820, wl_1340, wl_5480, wl_9999, true_and, and_true, true_or, or_true, if_true, if_false, and_self, or_self, false_and, and_false, false_or, or_false, not_true_eq_false, not_false_eq_true, Int.reduceEq, Int.reduceLT, Int.reduceLE, Int.reduceToNat, Int.reduceAdd, Int.reduceMul, Int.reduceSub, Int.reduceMod, Int.reduceDiv, Int.reduceNeg, Nat.reduceEqDiff, sm_rd_ok, sm_rd_ok2, sm_wt_ok, sm_cp_ok, Option.isSome_some, Option.getD_some, w_cont, Option.toList_some, Option.toList_none, List.cons_append, List.nil_append]
      refine (q1 _).trans ?_
      rw [w_cont]
      simp only [wr_id, wr_b2i, wr_wr, b2i_eq0, b2i_eq1, b2i_01, sm_rem_eq, sm_div_eq, wl_m2, wl_m1, wl_0, wl_1, wl_2, wl_3, wl_4, wl_5, wl_6, wl_7, wl_8, wl_9, wl_10, wl_12, wl_13, wl_14, wl_16, wl_20, wl_21, wl_22, wl_23, wl_32, wl_36, wl_40, wl_41, wl_42, wl_43, wl_44, wl_45, wl_46, wl_47, wl_48, wl_57, wl_59, wl_60, wl_61, wl_62, wl_65, wl_90, wl_97, wl_99, wl_100, wl_121, wl_122, wl_140, wl_142, wl_143, wl_145, wl_147, wl_160, wl_161, wl_162, wl_242, wl_380, wl_400, wl_420, wl_820, wl_1340, wl_5480, wl_9999, true_and, and_true, true_or, or_true, if_true, if_false, and_self, or_self, false_and, and_false, false_or, or_false, not_true_eq_false, not_false_eq_true, Int.reduceEq, Int.reduceLT, Int.reduceLE, Int.reduceToNat, Int.reduceAdd, Int.reduceMul, Int.reduceSub, Int.reduceMod, Int.reduceDiv, Int.reduceNeg, Nat.reduceEqDiff, sm_rd_ok, sm_rd_ok2, sm_wt_ok, sm_cp_ok, Option.isSome_some, Option.getD_some, w_cont, Option.toList_some, Option.toList_none, List.cons_append, List.nil_append]
      rw [b187_99, show (i : Int) + 1 = ((i + 1 : Nat) : Int) by omega]
      exact q2 Q
    · rw [if_neg hc]
      obtain ⟨Z2, t2, f2, q2⟩ := ih (i + 1) Z t (by omega) hM h6 ht
      refine ⟨Z2, t2, f2, fun Q => ?_⟩
      rw [head, if_neg hc]
      exact q2 Q
theorem m_ip_loop (H : sm_sh Rf K) {M : Nat → Int} (hi : invD M) {a b : Int} (ha : 0 ≤ a ∧ a < 100) (hb : 0 ≤ b ∧ b < 100) {l3 : Option sm_V} (c : Nat) (hc : c < 100) : ∀ (k j : Nat) (Z : Nat → Nat → Int) (t : pnT), j + k = 100 → Z 80 = M → Z 79 6 = 0 → rQn Z t 2 → ∃ Z', rQn Z' (if isC (M 0) (M 1) (c : Int) = true ∧ M (120 + c) = 0 then ipR M a b c (frL M k j) t else t) 2 ∧ frU Z Z' ∧ ∀ Q, sm_wp (d + 8) 187 121 [some (.inr (some 79)), some (.inl a), some (.inl b), l3, some (.inl (c : Int)), some (.inl (j : Int))] [] (Z, Rf, K, n, z) Q = sm_wp (d + 8) 187 162 [some (.inr (some 79)), some (.inl a), some (.inl b), l3, some (.inl (c : Int)), some (.inl 100)] [] (Z', Rf, K, n, z) Q := by
  intro k
  induction k with
  | zero =>
    intro j Z t hik hM h6 ht
    have : j = 100 := by omega
    refine ⟨Z, ?_, frU_refl Z, fun Q => ?_⟩
    · simp only [frL, ipR]
      rw [ite_self]
      exact ht
    · rw [b187_121, wr_id (by omega) (by omega), if_pos (by omega), this]
      rfl
  | succ k ih =>
    intro j Z t hik hM h6 ht
    have head : ∀ Q, sm_wp (d + 8) 187 121 [some (.inr (some 79)), some (.inl a), some (.inl b), l3, some (.inl (c : Int)), some (.inl (j : Int))] [] (Z, Rf, K, n, z) Q = if (isC (M 0) (M 1) (c : Int) = true ∧ M (120 + c) = 0) ∧ isC (M 0) (M 1) (j : Int) = true ∧ M (120 + j) = 0 then sm_wp (d + 8) 187 146 [some (.inr (some 79)), some (.inl a), some (.inl b), l3, some (.inl (c : Int)), some (.inl (j : Int))] [] (Z, Rf, K, n, z) Q else sm_wp (d + 8) 187 121 [some (.inr (some 79)), some (.inl a), some (.inl b), l3, some (.inl (c : Int)), some (.inl ((j + 1 : Nat) : Int))] [] (Z, Rf, K, n, z) Q := by
      intro Q
      rw [b187_121, wr_id (by omega) (by omega), if_neg (by omega), b187_128, kk_79 H, m_isFree (d := d + 4) H hM hi hc, w_cont]
      simp only [wr_id, wr_b2i, wr_wr, b2i_eq0, b2i_eq1, b2i_01, sm_rem_eq, sm_div_eq, wl_m2, wl_m1, wl_0, wl_1, wl_2, wl_3, wl_4, wl_5, wl_6, wl_7, wl_8, wl_9, wl_10, wl_12, wl_13, wl_14, wl_16, wl_20, wl_21, wl_22, wl_23, wl_32, wl_36, wl_40, wl_41, wl_42, wl_43, wl_44, wl_45, wl_46, wl_47, wl_48, wl_57, wl_59, wl_60, wl_61, wl_62, wl_65, wl_90, wl_97, wl_99, wl_100, wl_121, wl_122, wl_140, wl_142, wl_143, wl_145, wl_147, wl_160, wl_161, wl_162, wl_242, wl_380, wl_400, wl_420, wl_820, wl_1340, wl_5480, wl_9999, true_and, and_true, true_or, or_true, if_true, if_false, and_self, or_self, false_and, and_false, false_or, or_false, not_true_eq_false, not_false_eq_true, Int.reduceEq, Int.reduceLT, Int.reduceLE, Int.reduceToNat, Int.reduceAdd, Int.reduceMul, Int.reduceSub, Int.reduceMod, Int.reduceDiv, Int.reduceNeg, Nat.reduceEqDiff, sm_rd_ok, sm_rd_ok2, sm_wt_ok, sm_cp_ok, Option.isSome_some, Option.getD_some, w_cont, Option.toList_some, Option.toList_none, List.cons_append, List.nil_append]
      rw [b187_134]
      simp only [wr_id, wr_b2i, wr_wr, b2i_eq0, b2i_eq1, b2i_01, sm_rem_eq, sm_div_eq, wl_m2, wl_m1, wl_0, wl_1, wl_2, wl_3, wl_4, wl_5, wl_6, wl_7, wl_8, wl_9, wl_10, wl_12, wl_13, wl_14, wl_16, wl_20, wl_21, wl_22, wl_23, wl_32, wl_36, wl_40, wl_41, wl_42, wl_43, wl_44, wl_45, wl_46, wl_47, wl_48, wl_57, wl_59, wl_60, wl_61, wl_62, wl_65, wl_90, wl_97, wl_99, wl_100, wl_121, wl_122, wl_140, wl_142, wl_143, wl_145, wl_147, wl_160, wl_161, wl_162, wl_242, wl_380, wl_400, wl_420, wl_820, wl_1340, wl_5480, wl_9999, true_and, and_true, true_or, or_true, if_true, if_false, and_self, or_self, false_and, and_false, false_or, or_false, not_true_eq_false, not_false_eq_true, Int.reduceEq, Int.reduceLT, Int.reduceLE, Int.reduceToNat, Int.reduceAdd, Int.reduceMul, Int.reduceSub, Int.reduceMod, Int.reduceDiv, Int.reduceNeg, Nat.reduceEqDiff, sm_rd_ok, sm_rd_ok2, sm_wt_ok, sm_cp_ok, Option.isSome_some, Option.getD_some, w_cont, Option.toList_some, Option.toList_none, List.cons_append, List.nil_append, decide_eq_false_iff_not]
      by_cases h1 : isC (M 0) (M 1) (c : Int) = true ∧ M (120 + c) = 0
      · rw [if_neg (fun g => g h1), b187_137, kk_79 H, m_isFree (d := d + 4) H hM hi (by omega), w_cont]
        simp only [wr_id, wr_b2i, wr_wr, b2i_eq0, b2i_eq1, b2i_01, sm_rem_eq, sm_div_eq, wl_m2, wl_m1, wl_0, wl_1, wl_2, wl_3, wl_4, wl_5, wl_6, wl_7, wl_8, wl_9, wl_10, wl_12, wl_13, wl_14, wl_16, wl_20, wl_21, wl_22, wl_23, wl_32, wl_36, wl_40, wl_41, wl_42, wl_43, wl_44, wl_45, wl_46, wl_47, wl_48, wl_57, wl_59, wl_60, wl_61, wl_62, wl_65, wl_90, wl_97, wl_99, wl_100, wl_121, wl_122, wl_140, wl_142, wl_143, wl_145, wl_147, wl_160, wl_161, wl_162, wl_242, wl_380, wl_400, wl_420, wl_820, wl_1340, wl_5480, wl_9999, true_and, and_true, true_or, or_true, if_true, if_false, and_self, or_self, false_and, and_false, false_or, or_false, not_true_eq_false, not_false_eq_true, Int.reduceEq, Int.reduceLT, Int.reduceLE, Int.reduceToNat, Int.reduceAdd, Int.reduceMul, Int.reduceSub, Int.reduceMod, Int.reduceDiv, Int.reduceNeg, Nat.reduceEqDiff, sm_rd_ok, sm_rd_ok2, sm_wt_ok, sm_cp_ok, Option.isSome_some, Option.getD_some, w_cont, Option.toList_some, Option.toList_none, List.cons_append, List.nil_append]
        rw [b187_143]
        simp only [wr_id, wr_b2i, wr_wr, b2i_eq0, b2i_eq1, b2i_01, sm_rem_eq, sm_div_eq, wl_m2, wl_m1, wl_0, wl_1, wl_2, wl_3, wl_4, wl_5, wl_6, wl_7, wl_8, wl_9, wl_10, wl_12, wl_13, wl_14, wl_16, wl_20, wl_21, wl_22, wl_23, wl_32, wl_36, wl_40, wl_41, wl_42, wl_43, wl_44, wl_45, wl_46, wl_47, wl_48, wl_57, wl_59, wl_60, wl_61, wl_62, wl_65, wl_90, wl_97, wl_99, wl_100, wl_121, wl_122, wl_140, wl_142, wl_143, wl_145, wl_147, wl_160, wl_161, wl_162, wl_242, wl_380, wl_400, wl_420, wl_820, wl_1340, wl_5480, wl_9999, true_and, and_true, true_or, or_true, if_true, if_false, and_self, or_self, false_and, and_false, false_or, or_false, not_true_eq_false, not_false_eq_true, Int.reduceEq, Int.reduceLT, Int.reduceLE, Int.reduceToNat, Int.reduceAdd, Int.reduceMul, Int.reduceSub, Int.reduceMod, Int.reduceDiv, Int.reduceNeg, Nat.reduceEqDiff, sm_rd_ok, sm_rd_ok2, sm_wt_ok, sm_cp_ok, Option.isSome_some, Option.getD_some, w_cont, Option.toList_some, Option.toList_none, List.cons_append, List.nil_append, decide_eq_false_iff_not]
        by_cases h2 : isC (M 0) (M 1) (j : Int) = true ∧ M (120 + j) = 0
        · rw [if_neg (fun g => g h2), if_pos ⟨h1, h2⟩]
        · rw [if_pos h2, if_neg (fun g => h2 g.2), b187_156, show (j : Int) + 1 = ((j + 1 : Nat) : Int) by omega]
      · rw [if_pos h1, if_neg (fun g => h1 g.1), b187_156, show (j : Int) + 1 = ((j + 1 : Nat) : Int) by omega]
    by_cases h1 : isC (M 0) (M 1) (c : Int) = true ∧ M (120 + c) = 0
    · rw [if_pos h1]
      simp only [frL]
      by_cases h2 : isC (M 0) (M 1) (j : Int) = true ∧ M (120 + j) = 0
      · rw [if_pos h2]
        have em : mnS (c : Int) (j : Int) = 2 := by unfold mnS; rw [if_neg (by omega), if_neg (by omega)]; rfl
        obtain ⟨Z1, t1, f1, q1⟩ := m_tries (d := d) (n := n) (z := z) H hM hi h6 ha hb (one := (c : Int)) (other := (j : Int)) (by omega) (by omega) (t := t) (by rw [em]; exact ht)
        rw [em] at t1
        obtain ⟨Z2, t2, f2, q2⟩ := ih (j + 1) Z1 _ (by omega) (by rw [f1.1 80 (by omega)]; exact hM) (by rw [f1.2 6 (by omega)]; exact h6) t1
        rw [if_pos h1] at t2
        refine ⟨Z2, t2, frU_trans f1 f2, fun Q => ?_⟩
        rw [head, if_pos ⟨h1, h2⟩, b187_146, kk_79 H]
        simp only [wr_id, wr_b2i, wr_wr, b2i_eq0, b2i_eq1, b2i_01, sm_rem_eq, sm_div_eq, wl_m2, wl_m1, wl_0, wl_1, wl_2, wl_3, wl_4, wl_5, wl_6, wl_7, wl_8, wl_9, wl_10, wl_12, wl_13, wl_14, wl_16, wl_20, wl_21, wl_22, wl_23, wl_32, wl_36, wl_40, wl_41, wl_42, wl_43, wl_44, wl_45, wl_46, wl_47, wl_48, wl_57, wl_59, wl_60, wl_61, wl_62, wl_65, wl_90, wl_97, wl_99, wl_100, wl_121, wl_122, wl_140, wl_142, wl_143, wl_145, wl_147, wl_160, wl_161, wl_162, wl_242, wl_380, wl_400, wl_420, wl_820, wl_1340, wl_5480, wl_9999, true_and, and_true, true_or, or_true, if_true, if_false, and_self, or_self, false_and, and_false, false_or, or_false, not_true_eq_false, not_false_eq_true, Int.reduceEq, Int.reduceLT, Int.reduceLE, Int.reduceToNat, Int.reduceAdd, Int.reduceMul, Int.reduceSub, Int.reduceMod, Int.reduceDiv, Int.reduceNeg, Nat.reduceEqDiff, sm_rd_ok, sm_rd_ok2, sm_wt_ok, sm_cp_ok, Option.isSome_some, Option.getD_some, w_cont, Option.toList_some, Option.toList_none, List.cons_append, List.nil_append]
        refine (q1 _).trans ?_
        rw [w_cont]
        simp only [wr_id, wr_b2i, wr_wr, b2i_eq0, b2i_eq1, b2i_01, sm_rem_eq, sm_div_eq, wl_m2, wl_m1, wl_0, wl_1, wl_2, wl_3, wl_4, wl_5, wl_6, wl_7, wl_8, wl_9, wl_10, wl_12, wl_13, wl_14, wl_16, wl_20, wl_21, wl_22, wl_23, wl_32, wl_36, wl_40, wl_41, wl_42, wl_43, wl_44, wl_45, wl_46, wl_47, wl_48, wl_57, wl_59, wl_60, wl_61, wl_62, wl_65, wl_90, wl_97, wl_99, wl_100, wl_121, wl_122, wl_140, wl_142, wl_143, wl_145, wl_147, wl_160, wl_161, wl_162, wl_242, wl_380, wl_400, wl_420, wl_820, wl_1340, wl_5480, wl_9999, true_and, and_true, true_or, or_true, if_true, if_false, and_self, or_self, false_and, and_false, false_or, or_false, not_true_eq_false, not_false_eq_true, Int.reduceEq, Int.reduceLT, Int.reduceLE, Int.reduceToNat, Int.reduceAdd, Int.reduceMul, Int.reduceSub, Int.reduceMod, Int.reduceDiv, Int.reduceNeg, Nat.reduceEqDiff, sm_rd_ok, sm_rd_ok2, sm_wt_ok, sm_cp_ok, Option.isSome_some, Option.getD_some, w_cont, Option.toList_some, Option.toList_none, List.cons_append, List.nil_append]
        rw [b187_156, show (j : Int) + 1 = ((j + 1 : Nat) : Int) by omega]
        exact q2 Q
      · rw [if_neg h2]
        obtain ⟨Z2, t2, f2, q2⟩ := ih (j + 1) Z t (by omega) hM h6 ht
        rw [if_pos h1] at t2
        refine ⟨Z2, t2, f2, fun Q => ?_⟩
        rw [head, if_neg (fun g => h2 g.2)]
        exact q2 Q
    · obtain ⟨Z2, t2, f2, q2⟩ := ih (j + 1) Z t (by omega) hM h6 ht
      rw [if_neg h1] at t2 ⊢
      refine ⟨Z2, t2, f2, fun Q => ?_⟩
      rw [head, if_neg (fun g => h1 g.1)]
      exact q2 Q
theorem m_pr_loop (H : sm_sh Rf K) {M : Nat → Int} (hi : invD M) {a b : Int} (ha : 0 ≤ a ∧ a < 100) (hb : 0 ≤ b ∧ b < 100) {l3 : Option sm_V} : ∀ (k i : Nat) (Z : Nat → Nat → Int) (t : pnT) (l5 : Option sm_V), i + k = 100 → Z 80 = M → Z 79 6 = 0 → rQn Z t 2 → ∃ Z' l5', rQn Z' (prR M a b (frL M k i) t) 2 ∧ frU Z Z' ∧ ∀ Q, sm_wp (d + 8) 187 108 [some (.inr (some 79)), some (.inl a), some (.inl b), l3, some (.inl (i : Int)), l5] [] (Z, Rf, K, n, z) Q = sm_wp (d + 8) 187 168 [some (.inr (some 79)), some (.inl a), some (.inl b), l3, some (.inl 100), l5'] [] (Z', Rf, K, n, z) Q := by
  intro k
  induction k with
  | zero =>
    intro i Z t l5 hik hM h6 ht
    have : i = 100 := by omega
    refine ⟨Z, l5, ht, frU_refl Z, fun Q => ?_⟩
    rw [b187_108, wr_id (by omega) (by omega), if_pos (by omega), this]
    rfl
  | succ k ih =>
    intro i Z t l5 hik hM h6 ht
    obtain ⟨Z1, t1, f1, q1⟩ := m_ip_loop (d := d) (n := n) (z := z) (l3 := l3) H hi ha hb i (by omega) k (i + 1) Z t (by omega) hM h6 ht
    obtain ⟨Z2, l5', t2, f2, q2⟩ := ih (i + 1) Z1 _ (some (.inl 100)) (by omega) (by rw [f1.1 80 (by omega)]; exact hM) (by rw [f1.2 6 (by omega)]; exact h6) t1
    refine ⟨Z2, l5', ?_, frU_trans f1 f2, fun Q => ?_⟩
    · simp only [frL]
      by_cases hc : isC (M 0) (M 1) (i : Int) = true ∧ M (120 + i) = 0
      · rw [if_pos hc] at t2 ⊢
        exact t2
      · rw [if_neg hc] at t2 ⊢
        exact t2
    · rw [b187_108, wr_id (by omega) (by omega), if_neg (by omega), b187_115, show (i : Int) + 1 = ((i + 1 : Nat) : Int) by omega]
      refine (q1 Q).trans ?_
      rw [b187_162, show (i : Int) + 1 = ((i + 1 : Nat) : Int) by omega]
      exact q2 Q
theorem m_plan (H : sm_sh Rf K) {M : Nat → Int} (hM : Z 80 = M) (hi : invD M) (h6 : Z 79 6 = 0) {a b w : Int} (ha : aI a) (hb : aI b) (hw : aI w) : ∃ Z', frU Z Z' ∧ ∀ Q, sm_call (d + 8) 187 [.inr (some 79), .inl a, .inl b, .inl w] (Z, Rf, K, n, z) Q = Q (some (.inl (if isC (M 0) (M 1) a = true ∧ isC (M 0) (M 1) b = true ∧ ¬ a = b ∧ (0 ≤ w ∧ w ≤ 3) ∧ M 0 * M 1 ≤ 36 then plw (plS M a b) w else -1))) (Z', Rf, K, n, z) := by
  have hsz := szM_of hi hM
  have hs := hi.1.1
  unfold szN at hs
  have hm1 : 0 ≤ M 0 * M 1 := Int.mul_nonneg (by omega) (by omega)
  have hm2 : M 0 * M 1 ≤ 10 * 10 := Int.mul_le_mul hs.1.2 hs.2.2 (by omega) (by omega)
  have ha' := ha
  have hb' := hb
  unfold aI at ha' hb' hw
  have head : ∀ Q, sm_call (d + 8) 187 [.inr (some 79), .inl a, .inl b, .inl w] (Z, Rf, K, n, z) Q = if isC (M 0) (M 1) a = true ∧ isC (M 0) (M 1) b = true ∧ ¬ a = b ∧ (0 ≤ w ∧ w ≤ 3) ∧ M 0 * M 1 ≤ 36 then sm_wp (d + 8) 187 50 [some (.inr (some 79)), some (.inl a), some (.inl b), some (.inl w), none, none] [] (Z, Rf, K, n, z) Q else Q (some (.inl (-1))) (Z, Rf, K, n, z) := by
    intro Q
    rw [ce187, b187_0, kk_79 H, m_isCell H hsz ha, w_cont, hM]
    simp only [wr_id, wr_b2i, wr_wr, b2i_eq0, b2i_eq1, b2i_01, sm_rem_eq, sm_div_eq, wl_m2, wl_m1, wl_0, wl_1, wl_2, wl_3, wl_4, wl_5, wl_6, wl_7, wl_8, wl_9, wl_10, wl_12, wl_13, wl_14, wl_16, wl_20, wl_21, wl_22, wl_23, wl_32, wl_36, wl_40, wl_41, wl_42, wl_43, wl_44, wl_45, wl_46, wl_47, wl_48, wl_57, wl_59, wl_60, wl_61, wl_62, wl_65, wl_90, wl_97, wl_99, wl_100, wl_121, wl_122, wl_140, wl_142, wl_143, wl_145, wl_147, wl_160, wl_161, wl_162, wl_242, wl_380, wl_400, wl_420, wl_820, wl_1340, wl_5480, wl_9999, true_and, and_true, true_or, or_true, if_true, if_false, and_self, or_self, false_and, and_false, false_or, or_false, not_true_eq_false, not_false_eq_true, Int.reduceEq, Int.reduceLT, Int.reduceLE, Int.reduceToNat, Int.reduceAdd, Int.reduceMul, Int.reduceSub, Int.reduceMod, Int.reduceDiv, Int.reduceNeg, Nat.reduceEqDiff, sm_rd_ok, sm_rd_ok2, sm_wt_ok, sm_cp_ok, Option.isSome_some, Option.getD_some, w_cont, Option.toList_some, Option.toList_none, List.cons_append, List.nil_append]
    rw [b187_5]
    simp only [wr_id, wr_b2i, wr_wr, b2i_eq0, b2i_eq1, b2i_01, sm_rem_eq, sm_div_eq, wl_m2, wl_m1, wl_0, wl_1, wl_2, wl_3, wl_4, wl_5, wl_6, wl_7, wl_8, wl_9, wl_10, wl_12, wl_13, wl_14, wl_16, wl_20, wl_21, wl_22, wl_23, wl_32, wl_36, wl_40, wl_41, wl_42, wl_43, wl_44, wl_45, wl_46, wl_47, wl_48, wl_57, wl_59, wl_60, wl_61, wl_62, wl_65, wl_90, wl_97, wl_99, wl_100, wl_121, wl_122, wl_140, wl_142, wl_143, wl_145, wl_147, wl_160, wl_161, wl_162, wl_242, wl_380, wl_400, wl_420, wl_820, wl_1340, wl_5480, wl_9999, true_and, and_true, true_or, or_true, if_true, if_false, and_self, or_self, false_and, and_false, false_or, or_false, not_true_eq_false, not_false_eq_true, Int.reduceEq, Int.reduceLT, Int.reduceLE, Int.reduceToNat, Int.reduceAdd, Int.reduceMul, Int.reduceSub, Int.reduceMod, Int.reduceDiv, Int.reduceNeg, Nat.reduceEqDiff, sm_rd_ok, sm_rd_ok2, sm_wt_ok, sm_cp_ok, Option.isSome_some, Option.getD_some, w_cont, Option.toList_some, Option.toList_none, List.cons_append, List.nil_append]
    by_cases h1 : isC (M 0) (M 1) a = true
    · rw [if_neg (by rw [h1]; decide), b187_8, kk_79 H, m_isCell H hsz hb, w_cont, hM]
      simp only [wr_id, wr_b2i, wr_wr, b2i_eq0, b2i_eq1, b2i_01, sm_rem_eq, sm_div_eq, wl_m2, wl_m1, wl_0, wl_1, wl_2, wl_3, wl_4, wl_5, wl_6, wl_7, wl_8, wl_9, wl_10, wl_12, wl_13, wl_14, wl_16, wl_20, wl_21, wl_22, wl_23, wl_32, wl_36, wl_40, wl_41, wl_42, wl_43, wl_44, wl_45, wl_46, wl_47, wl_48, wl_57, wl_59, wl_60, wl_61, wl_62, wl_65, wl_90, wl_97, wl_99, wl_100, wl_121, wl_122, wl_140, wl_142, wl_143, wl_145, wl_147, wl_160, wl_161, wl_162, wl_242, wl_380, wl_400, wl_420, wl_820, wl_1340, wl_5480, wl_9999, true_and, and_true, true_or, or_true, if_true, if_false, and_self, or_self, false_and, and_false, false_or, or_false, not_true_eq_false, not_false_eq_true, Int.reduceEq, Int.reduceLT, Int.reduceLE, Int.reduceToNat, Int.reduceAdd, Int.reduceMul, Int.reduceSub, Int.reduceMod, Int.reduceDiv, Int.reduceNeg, Nat.reduceEqDiff, sm_rd_ok, sm_rd_ok2, sm_wt_ok, sm_cp_ok, Option.isSome_some, Option.getD_some, w_cont, Option.toList_some, Option.toList_none, List.cons_append, List.nil_append]
      rw [b187_13]
      simp only [wr_id, wr_b2i, wr_wr, b2i_eq0, b2i_eq1, b2i_01, sm_rem_eq, sm_div_eq, wl_m2, wl_m1, wl_0, wl_1, wl_2, wl_3, wl_4, wl_5, wl_6, wl_7, wl_8, wl_9, wl_10, wl_12, wl_13, wl_14, wl_16, wl_20, wl_21, wl_22, wl_23, wl_32, wl_36, wl_40, wl_41, wl_42, wl_43, wl_44, wl_45, wl_46, wl_47, wl_48, wl_57, wl_59, wl_60, wl_61, wl_62, wl_65, wl_90, wl_97, wl_99, wl_100, wl_121, wl_122, wl_140, wl_142, wl_143, wl_145, wl_147, wl_160, wl_161, wl_162, wl_242, wl_380, wl_400, wl_420, wl_820, wl_1340, wl_5480, wl_9999, true_and, and_true, true_or, or_true, if_true, if_false, and_self, or_self, false_and, and_false, false_or, or_false, not_true_eq_false, not_false_eq_true, Int.reduceEq, Int.reduceLT, Int.reduceLE, Int.reduceToNat, Int.reduceAdd, Int.reduceMul, Int.reduceSub, Int.reduceMod, Int.reduceDiv, Int.reduceNeg, Nat.reduceEqDiff, sm_rd_ok, sm_rd_ok2, sm_wt_ok, sm_cp_ok, Option.isSome_some, Option.getD_some, w_cont, Option.toList_some, Option.toList_none, List.cons_append, List.nil_append]
      by_cases h2 : isC (M 0) (M 1) b = true
      · rw [if_neg (by rw [h2]; decide), b187_16, wr_id ha'.1 ha'.2, wr_id hb'.1 hb'.2]
        by_cases h3 : a = b
        · rw [if_pos h3, if_neg (fun g => g.2.2.1 h3), b187_48]
        · rw [if_neg h3, b187_21, kk_79 H, rr_79_0 H]
          simp (disch := omega) only [wr_id, wr_b2i, wr_wr, b2i_eq0, b2i_eq1, b2i_01, sm_rem_eq, sm_div_eq, wl_m2, wl_m1, wl_0, wl_1, wl_2, wl_3, wl_4, wl_5, wl_6, wl_7, wl_8, wl_9, wl_10, wl_12, wl_13, wl_14, wl_16, wl_20, wl_21, wl_22, wl_23, wl_32, wl_36, wl_40, wl_41, wl_42, wl_43, wl_44, wl_45, wl_46, wl_47, wl_48, wl_57, wl_59, wl_60, wl_61, wl_62, wl_65, wl_90, wl_97, wl_99, wl_100, wl_121, wl_122, wl_140, wl_142, wl_143, wl_145, wl_147, wl_160, wl_161, wl_162, wl_242, wl_380, wl_400, wl_420, wl_820, wl_1340, wl_5480, wl_9999, true_and, and_true, true_or, or_true, if_true, if_false, and_self, or_self, false_and, and_false, false_or, or_false, not_true_eq_false, not_false_eq_true, Int.reduceEq, Int.reduceLT, Int.reduceLE, Int.reduceToNat, Int.reduceAdd, Int.reduceMul, Int.reduceSub, Int.reduceMod, Int.reduceDiv, Int.reduceNeg, Nat.reduceEqDiff, sm_rd_ok, sm_rd_ok2, sm_wt_ok, sm_cp_ok, Option.isSome_some, Option.getD_some, w_cont, Option.toList_some, Option.toList_none, List.cons_append, List.nil_append, kk_80 H, hM]
          by_cases h5 : M 0 * M 1 ≤ 36
          · rw [if_neg (by omega), b187_39, m_isIn hw (by omega) (by omega), w_cont]
            simp only [wr_id, wr_b2i, wr_wr, b2i_eq0, b2i_eq1, b2i_01, sm_rem_eq, sm_div_eq, wl_m2, wl_m1, wl_0, wl_1, wl_2, wl_3, wl_4, wl_5, wl_6, wl_7, wl_8, wl_9, wl_10, wl_12, wl_13, wl_14, wl_16, wl_20, wl_21, wl_22, wl_23, wl_32, wl_36, wl_40, wl_41, wl_42, wl_43, wl_44, wl_45, wl_46, wl_47, wl_48, wl_57, wl_59, wl_60, wl_61, wl_62, wl_65, wl_90, wl_97, wl_99, wl_100, wl_121, wl_122, wl_140, wl_142, wl_143, wl_145, wl_147, wl_160, wl_161, wl_162, wl_242, wl_380, wl_400, wl_420, wl_820, wl_1340, wl_5480, wl_9999, true_and, and_true, true_or, or_true, if_true, if_false, and_self, or_self, false_and, and_false, false_or, or_false, not_true_eq_false, not_false_eq_true, Int.reduceEq, Int.reduceLT, Int.reduceLE, Int.reduceToNat, Int.reduceAdd, Int.reduceMul, Int.reduceSub, Int.reduceMod, Int.reduceDiv, Int.reduceNeg, Nat.reduceEqDiff, sm_rd_ok, sm_rd_ok2, sm_wt_ok, sm_cp_ok, Option.isSome_some, Option.getD_some, w_cont, Option.toList_some, Option.toList_none, List.cons_append, List.nil_append]
            rw [b187_45]
            simp only [wr_id, wr_b2i, wr_wr, b2i_eq0, b2i_eq1, b2i_01, sm_rem_eq, sm_div_eq, wl_m2, wl_m1, wl_0, wl_1, wl_2, wl_3, wl_4, wl_5, wl_6, wl_7, wl_8, wl_9, wl_10, wl_12, wl_13, wl_14, wl_16, wl_20, wl_21, wl_22, wl_23, wl_32, wl_36, wl_40, wl_41, wl_42, wl_43, wl_44, wl_45, wl_46, wl_47, wl_48, wl_57, wl_59, wl_60, wl_61, wl_62, wl_65, wl_90, wl_97, wl_99, wl_100, wl_121, wl_122, wl_140, wl_142, wl_143, wl_145, wl_147, wl_160, wl_161, wl_162, wl_242, wl_380, wl_400, wl_420, wl_820, wl_1340, wl_5480, wl_9999, true_and, and_true, true_or, or_true, if_true, if_false, and_self, or_self, false_and, and_false, false_or, or_false, not_true_eq_false, not_false_eq_true, Int.reduceEq, Int.reduceLT, Int.reduceLE, Int.reduceToNat, Int.reduceAdd, Int.reduceMul, Int.reduceSub, Int.reduceMod, Int.reduceDiv, Int.reduceNeg, Nat.reduceEqDiff, sm_rd_ok, sm_rd_ok2, sm_wt_ok, sm_cp_ok, Option.isSome_some, Option.getD_some, w_cont, Option.toList_some, Option.toList_none, List.cons_append, List.nil_append, isInB, decide_eq_false_iff_not]
            by_cases h4 : 0 ≤ w ∧ w ≤ 3
            · rw [if_neg (fun g => g h4), if_pos ⟨h1, h2, h3, h4, h5⟩]
            · rw [if_pos h4, if_neg (fun g => h4 g.2.2.2.1), b187_48]
          · rw [if_pos (by omega), if_neg (fun g => h5 g.2.2.2.2), b187_48]
      · rw [if_pos (Bool.eq_false_iff.2 h2), if_neg (fun g => h2 g.2.1), b187_48]
    · rw [if_pos (Bool.eq_false_iff.2 h1), if_neg (fun g => h1 g.1), b187_48]
  by_cases hc : isC (M 0) (M 1) a = true ∧ isC (M 0) (M 1) b = true ∧ ¬ a = b ∧ (0 ≤ w ∧ w ≤ 3) ∧ M 0 * M 1 ≤ 36
  · have ba := isC_bd hc.1
    have bb := isC_bd hc.2.1
    have em : mnS (-1) (-1) = 0 := rfl
    obtain ⟨Z1, t1, f1, q1⟩ := m_tries (d := d) (n := n) (z := z) (Z := sm_u Z 79 31 (-1)) (M := M) H (by rw [sm_u_row (by decide)]; exact hM) hi (by rw [sm_u_eq, if_neg (by decide)]; exact h6) ba bb (one := -1) (other := -1) (by omega) (by omega) (t := (-1, 0, 0, 0)) ⟨by rw [sm_u_self], fun g => absurd rfl g, Or.inl rfl⟩
    have f1' : frU Z Z1 := frU_trans ⟨fun a ha => by rw [sm_u_row (by omega)], fun j hj => by rw [sm_u_eq, if_neg (by omega)]⟩ f1
    have lt100 : ∀ c ∈ frL M 100 0, c < 100 := fun c hc => frC1_bd (frL_mem 100 0 c hc)
    have tail : ∀ Z2, frU Z Z2 → rQn Z2 (plS M a b) 2 → ∀ l4 l5 Q, sm_wp (d + 8) 187 168 [some (.inr (some 79)), some (.inl a), some (.inl b), some (.inl w), l4, l5] [] (Z2, Rf, K, n, z) Q = Q (some (.inl (plw (plS M a b) w))) (Z2, Rf, K, n, z) := by
      intro Z2 f2 t2 l4 l5 Q
      have hb3 := t2.2.2
      rw [b187_168, kk_79 H, t2.1]
      simp only [wr_id, wr_b2i, wr_wr, b2i_eq0, b2i_eq1, b2i_01, sm_rem_eq, sm_div_eq, wl_m2, wl_m1, wl_0, wl_1, wl_2, wl_3, wl_4, wl_5, wl_6, wl_7, wl_8, wl_9, wl_10, wl_12, wl_13, wl_14, wl_16, wl_20, wl_21, wl_22, wl_23, wl_32, wl_36, wl_40, wl_41, wl_42, wl_43, wl_44, wl_45, wl_46, wl_47, wl_48, wl_57, wl_59, wl_60, wl_61, wl_62, wl_65, wl_90, wl_97, wl_99, wl_100, wl_121, wl_122, wl_140, wl_142, wl_143, wl_145, wl_147, wl_160, wl_161, wl_162, wl_242, wl_380, wl_400, wl_420, wl_820, wl_1340, wl_5480, wl_9999, true_and, and_true, true_or, or_true, if_true, if_false, and_self, or_self, false_and, and_false, false_or, or_false, not_true_eq_false, not_false_eq_true, Int.reduceEq, Int.reduceLT, Int.reduceLE, Int.reduceToNat, Int.reduceAdd, Int.reduceMul, Int.reduceSub, Int.reduceMod, Int.reduceDiv, Int.reduceNeg, Nat.reduceEqDiff, sm_rd_ok, sm_rd_ok2, sm_wt_ok, sm_cp_ok, Option.isSome_some, Option.getD_some, w_cont, Option.toList_some, Option.toList_none, List.cons_append, List.nil_append]
      rw [wr_id (by omega) (by omega)]
      unfold plw
      by_cases h : (plS M a b).1 = -1
      · rw [if_pos h, if_pos h, b187_176]
      · obtain ⟨z2, z3, z4, _⟩ := t2.2.1 h
        rw [if_neg h, if_neg h, b187_178, wr_id hw.1 hw.2]
        by_cases w0 : w = 0
        · rw [if_pos w0, if_pos w0, b187_182, kk_79 H, t2.1, b187_217]
          simp only [wr_id, wr_b2i, wr_wr, b2i_eq0, b2i_eq1, b2i_01, sm_rem_eq, sm_div_eq, wl_m2, wl_m1, wl_0, wl_1, wl_2, wl_3, wl_4, wl_5, wl_6, wl_7, wl_8, wl_9, wl_10, wl_12, wl_13, wl_14, wl_16, wl_20, wl_21, wl_22, wl_23, wl_32, wl_36, wl_40, wl_41, wl_42, wl_43, wl_44, wl_45, wl_46, wl_47, wl_48, wl_57, wl_59, wl_60, wl_61, wl_62, wl_65, wl_90, wl_97, wl_99, wl_100, wl_121, wl_122, wl_140, wl_142, wl_143, wl_145, wl_147, wl_160, wl_161, wl_162, wl_242, wl_380, wl_400, wl_420, wl_820, wl_1340, wl_5480, wl_9999, true_and, and_true, true_or, or_true, if_true, if_false, and_self, or_self, false_and, and_false, false_or, or_false, not_true_eq_false, not_false_eq_true, Int.reduceEq, Int.reduceLT, Int.reduceLE, Int.reduceToNat, Int.reduceAdd, Int.reduceMul, Int.reduceSub, Int.reduceMod, Int.reduceDiv, Int.reduceNeg, Nat.reduceEqDiff, sm_rd_ok, sm_rd_ok2, sm_wt_ok, sm_cp_ok, Option.isSome_some, Option.getD_some, w_cont, Option.toList_some, Option.toList_none, List.cons_append, List.nil_append]
        · rw [if_neg w0, if_neg w0, b187_189, wr_id hw.1 hw.2]
          by_cases w1 : w = 1
          · rw [if_pos w1, if_pos w1, b187_194, kk_79 H, z2, b187_217]
            simp only [wr_id, wr_b2i, wr_wr, b2i_eq0, b2i_eq1, b2i_01, sm_rem_eq, sm_div_eq, wl_m2, wl_m1, wl_0, wl_1, wl_2, wl_3, wl_4, wl_5, wl_6, wl_7, wl_8, wl_9, wl_10, wl_12, wl_13, wl_14, wl_16, wl_20, wl_21, wl_22, wl_23, wl_32, wl_36, wl_40, wl_41, wl_42, wl_43, wl_44, wl_45, wl_46, wl_47, wl_48, wl_57, wl_59, wl_60, wl_61, wl_62, wl_65, wl_90, wl_97, wl_99, wl_100, wl_121, wl_122, wl_140, wl_142, wl_143, wl_145, wl_147, wl_160, wl_161, wl_162, wl_242, wl_380, wl_400, wl_420, wl_820, wl_1340, wl_5480, wl_9999, true_and, and_true, true_or, or_true, if_true, if_false, and_self, or_self, false_and, and_false, false_or, or_false, not_true_eq_false, not_false_eq_true, Int.reduceEq, Int.reduceLT, Int.reduceLE, Int.reduceToNat, Int.reduceAdd, Int.reduceMul, Int.reduceSub, Int.reduceMod, Int.reduceDiv, Int.reduceNeg, Nat.reduceEqDiff, sm_rd_ok, sm_rd_ok2, sm_wt_ok, sm_cp_ok, Option.isSome_some, Option.getD_some, w_cont, Option.toList_some, Option.toList_none, List.cons_append, List.nil_append]
          · rw [if_neg w1, if_neg w1, b187_201, wr_id hw.1 hw.2]
            by_cases w2 : w = 2
            · rw [if_pos w2, if_pos w2, b187_206, kk_79 H, z3, b187_217]
              simp only [wr_id, wr_b2i, wr_wr, b2i_eq0, b2i_eq1, b2i_01, sm_rem_eq, sm_div_eq, wl_m2, wl_m1, wl_0, wl_1, wl_2, wl_3, wl_4, wl_5, wl_6, wl_7, wl_8, wl_9, wl_10, wl_12, wl_13, wl_14, wl_16, wl_20, wl_21, wl_22, wl_23, wl_32, wl_36, wl_40, wl_41, wl_42, wl_43, wl_44, wl_45, wl_46, wl_47, wl_48, wl_57, wl_59, wl_60, wl_61, wl_62, wl_65, wl_90, wl_97, wl_99, wl_100, wl_121, wl_122, wl_140, wl_142, wl_143, wl_145, wl_147, wl_160, wl_161, wl_162, wl_242, wl_380, wl_400, wl_420, wl_820, wl_1340, wl_5480, wl_9999, true_and, and_true, true_or, or_true, if_true, if_false, and_self, or_self, false_and, and_false, false_or, or_false, not_true_eq_false, not_false_eq_true, Int.reduceEq, Int.reduceLT, Int.reduceLE, Int.reduceToNat, Int.reduceAdd, Int.reduceMul, Int.reduceSub, Int.reduceMod, Int.reduceDiv, Int.reduceNeg, Nat.reduceEqDiff, sm_rd_ok, sm_rd_ok2, sm_wt_ok, sm_cp_ok, Option.isSome_some, Option.getD_some, w_cont, Option.toList_some, Option.toList_none, List.cons_append, List.nil_append]
            · rw [if_neg w2, if_neg w2, b187_213, kk_79 H, z4, b187_217]
              simp only [wr_id, wr_b2i, wr_wr, b2i_eq0, b2i_eq1, b2i_01, sm_rem_eq, sm_div_eq, wl_m2, wl_m1, wl_0, wl_1, wl_2, wl_3, wl_4, wl_5, wl_6, wl_7, wl_8, wl_9, wl_10, wl_12, wl_13, wl_14, wl_16, wl_20, wl_21, wl_22, wl_23, wl_32, wl_36, wl_40, wl_41, wl_42, wl_43, wl_44, wl_45, wl_46, wl_47, wl_48, wl_57, wl_59, wl_60, wl_61, wl_62, wl_65, wl_90, wl_97, wl_99, wl_100, wl_121, wl_122, wl_140, wl_142, wl_143, wl_145, wl_147, wl_160, wl_161, wl_162, wl_242, wl_380, wl_400, wl_420, wl_820, wl_1340, wl_5480, wl_9999, true_and, and_true, true_or, or_true, if_true, if_false, and_self, or_self, false_and, and_false, false_or, or_false, not_true_eq_false, not_false_eq_true, Int.reduceEq, Int.reduceLT, Int.reduceLE, Int.reduceToNat, Int.reduceAdd, Int.reduceMul, Int.reduceSub, Int.reduceMod, Int.reduceDiv, Int.reduceNeg, Nat.reduceEqDiff, sm_rd_ok, sm_rd_ok2, sm_wt_ok, sm_cp_ok, Option.isSome_some, Option.getD_some, w_cont, Option.toList_some, Option.toList_none, List.cons_append, List.nil_append]
    by_cases h0 : (tp1 M a b (-1) (-1) (-1, 0, 0, 0)).1 = -1
    · obtain ⟨Z2, t2, f2, q2⟩ := m_sg_loop (d := d) (n := n) (z := z) (l3 := some (.inl w)) (l5 := none) H hi ba bb 100 0 Z1 _ (by omega) (by rw [f1'.1 80 (by omega)]; exact hM) (by rw [f1'.2 6 (by omega)]; exact h6) (rQn_le t1 (by rw [em]; decide))
      obtain ⟨Z3, l5', t3, f3, q3⟩ := m_pr_loop (d := d) (n := n) (z := z) (l3 := some (.inl w)) H hi ba bb 100 0 Z2 _ none (by omega) (by rw [f2.1 80 (by omega), f1'.1 80 (by omega)]; exact hM) (by rw [f2.2 6 (by omega), f1'.2 6 (by omega)]; exact h6) (rQn_le t2 (by decide))
      have fA := frU_trans f1' (frU_trans f2 f3)
      refine ⟨Z3, fA, fun Q => ?_⟩
      rw [head, if_pos hc, if_pos hc, b187_50, kk_79 H]
      simp only [wr_id, wr_b2i, wr_wr, b2i_eq0, b2i_eq1, b2i_01, sm_rem_eq, sm_div_eq, wl_m2, wl_m1, wl_0, wl_1, wl_2, wl_3, wl_4, wl_5, wl_6, wl_7, wl_8, wl_9, wl_10, wl_12, wl_13, wl_14, wl_16, wl_20, wl_21, wl_22, wl_23, wl_32, wl_36, wl_40, wl_41, wl_42, wl_43, wl_44, wl_45, wl_46, wl_47, wl_48, wl_57, wl_59, wl_60, wl_61, wl_62, wl_65, wl_90, wl_97, wl_99, wl_100, wl_121, wl_122, wl_140, wl_142, wl_143, wl_145, wl_147, wl_160, wl_161, wl_162, wl_242, wl_380, wl_400, wl_420, wl_820, wl_1340, wl_5480, wl_9999, true_and, and_true, true_or, or_true, if_true, if_false, and_self, or_self, false_and, and_false, false_or, or_false, not_true_eq_false, not_false_eq_true, Int.reduceEq, Int.reduceLT, Int.reduceLE, Int.reduceToNat, Int.reduceAdd, Int.reduceMul, Int.reduceSub, Int.reduceMod, Int.reduceDiv, Int.reduceNeg, Nat.reduceEqDiff, sm_rd_ok, sm_rd_ok2, sm_wt_ok, sm_cp_ok, Option.isSome_some, Option.getD_some, w_cont, Option.toList_some, Option.toList_none, List.cons_append, List.nil_append]
      refine (q1 _).trans ?_
      rw [w_cont]
      simp only [wr_id, wr_b2i, wr_wr, b2i_eq0, b2i_eq1, b2i_01, sm_rem_eq, sm_div_eq, wl_m2, wl_m1, wl_0, wl_1, wl_2, wl_3, wl_4, wl_5, wl_6, wl_7, wl_8, wl_9, wl_10, wl_12, wl_13, wl_14, wl_16, wl_20, wl_21, wl_22, wl_23, wl_32, wl_36, wl_40, wl_41, wl_42, wl_43, wl_44, wl_45, wl_46, wl_47, wl_48, wl_57, wl_59, wl_60, wl_61, wl_62, wl_65, wl_90, wl_97, wl_99, wl_100, wl_121, wl_122, wl_140, wl_142, wl_143, wl_145, wl_147, wl_160, wl_161, wl_162, wl_242, wl_380, wl_400, wl_420, wl_820, wl_1340, wl_5480, wl_9999, true_and, and_true, true_or, or_true, if_true, if_false, and_self, or_self, false_and, and_false, false_or, or_false, not_true_eq_false, not_false_eq_true, Int.reduceEq, Int.reduceLT, Int.reduceLE, Int.reduceToNat, Int.reduceAdd, Int.reduceMul, Int.reduceSub, Int.reduceMod, Int.reduceDiv, Int.reduceNeg, Nat.reduceEqDiff, sm_rd_ok, sm_rd_ok2, sm_wt_ok, sm_cp_ok, Option.isSome_some, Option.getD_some, w_cont, Option.toList_some, Option.toList_none, List.cons_append, List.nil_append]
      rw [b187_63, kk_79 H, t1.1, h0]
      simp only [wr_id, wr_b2i, wr_wr, b2i_eq0, b2i_eq1, b2i_01, sm_rem_eq, sm_div_eq, wl_m2, wl_m1, wl_0, wl_1, wl_2, wl_3, wl_4, wl_5, wl_6, wl_7, wl_8, wl_9, wl_10, wl_12, wl_13, wl_14, wl_16, wl_20, wl_21, wl_22, wl_23, wl_32, wl_36, wl_40, wl_41, wl_42, wl_43, wl_44, wl_45, wl_46, wl_47, wl_48, wl_57, wl_59, wl_60, wl_61, wl_62, wl_65, wl_90, wl_97, wl_99, wl_100, wl_121, wl_122, wl_140, wl_142, wl_143, wl_145, wl_147, wl_160, wl_161, wl_162, wl_242, wl_380, wl_400, wl_420, wl_820, wl_1340, wl_5480, wl_9999, true_and, and_true, true_or, or_true, if_true, if_false, and_self, or_self, false_and, and_false, false_or, or_false, not_true_eq_false, not_false_eq_true, Int.reduceEq, Int.reduceLT, Int.reduceLE, Int.reduceToNat, Int.reduceAdd, Int.reduceMul, Int.reduceSub, Int.reduceMod, Int.reduceDiv, Int.reduceNeg, Nat.reduceEqDiff, sm_rd_ok, sm_rd_ok2, sm_wt_ok, sm_cp_ok, Option.isSome_some, Option.getD_some, w_cont, Option.toList_some, Option.toList_none, List.cons_append, List.nil_append]
      rw [b187_71]
      refine (q2 Q).trans ?_
      rw [b187_105]
      refine (q3 Q).trans ?_
      exact tail Z3 fA t3 _ _ Q
    · have e0 : (tp1 M a b (-1) (-1) (-1, 0, 0, 0)).1 = 0 := by
        unfold tp1 at h0 ⊢
        rw [if_neg (fun g => g.1 rfl)] at h0 ⊢
        by_cases hn : nmP M (-1) (-1) a.toNat = nmP M (-1) (-1) b.toNat
        · rw [if_pos hn]
          rfl
        · rw [if_neg hn] at h0
          exact absurd rfl h0
      have ep : plS M a b = tp1 M a b (-1) (-1) (-1, 0, 0, 0) := by
        unfold plS
        rw [sgR_stay hi e0 _ lt100, prR_stay hi e0 _ lt100]
      refine ⟨Z1, f1', fun Q => ?_⟩
      rw [head, if_pos hc, if_pos hc, b187_50, kk_79 H]
      simp only [wr_id, wr_b2i, wr_wr, b2i_eq0, b2i_eq1, b2i_01, sm_rem_eq, sm_div_eq, wl_m2, wl_m1, wl_0, wl_1, wl_2, wl_3, wl_4, wl_5, wl_6, wl_7, wl_8, wl_9, wl_10, wl_12, wl_13, wl_14, wl_16, wl_20, wl_21, wl_22, wl_23, wl_32, wl_36, wl_40, wl_41, wl_42, wl_43, wl_44, wl_45, wl_46, wl_47, wl_48, wl_57, wl_59, wl_60, wl_61, wl_62, wl_65, wl_90, wl_97, wl_99, wl_100, wl_121, wl_122, wl_140, wl_142, wl_143, wl_145, wl_147, wl_160, wl_161, wl_162, wl_242, wl_380, wl_400, wl_420, wl_820, wl_1340, wl_5480, wl_9999, true_and, and_true, true_or, or_true, if_true, if_false, and_self, or_self, false_and, and_false, false_or, or_false, not_true_eq_false, not_false_eq_true, Int.reduceEq, Int.reduceLT, Int.reduceLE, Int.reduceToNat, Int.reduceAdd, Int.reduceMul, Int.reduceSub, Int.reduceMod, Int.reduceDiv, Int.reduceNeg, Nat.reduceEqDiff, sm_rd_ok, sm_rd_ok2, sm_wt_ok, sm_cp_ok, Option.isSome_some, Option.getD_some, w_cont, Option.toList_some, Option.toList_none, List.cons_append, List.nil_append]
      refine (q1 _).trans ?_
      rw [w_cont]
      simp only [wr_id, wr_b2i, wr_wr, b2i_eq0, b2i_eq1, b2i_01, sm_rem_eq, sm_div_eq, wl_m2, wl_m1, wl_0, wl_1, wl_2, wl_3, wl_4, wl_5, wl_6, wl_7, wl_8, wl_9, wl_10, wl_12, wl_13, wl_14, wl_16, wl_20, wl_21, wl_22, wl_23, wl_32, wl_36, wl_40, wl_41, wl_42, wl_43, wl_44, wl_45, wl_46, wl_47, wl_48, wl_57, wl_59, wl_60, wl_61, wl_62, wl_65, wl_90, wl_97, wl_99, wl_100, wl_121, wl_122, wl_140, wl_142, wl_143, wl_145, wl_147, wl_160, wl_161, wl_162, wl_242, wl_380, wl_400, wl_420, wl_820, wl_1340, wl_5480, wl_9999, true_and, and_true, true_or, or_true, if_true, if_false, and_self, or_self, false_and, and_false, false_or, or_false, not_true_eq_false, not_false_eq_true, Int.reduceEq, Int.reduceLT, Int.reduceLE, Int.reduceToNat, Int.reduceAdd, Int.reduceMul, Int.reduceSub, Int.reduceMod, Int.reduceDiv, Int.reduceNeg, Nat.reduceEqDiff, sm_rd_ok, sm_rd_ok2, sm_wt_ok, sm_cp_ok, Option.isSome_some, Option.getD_some, w_cont, Option.toList_some, Option.toList_none, List.cons_append, List.nil_append]
      rw [b187_63, kk_79 H, t1.1, e0]
      simp only [wr_id, wr_b2i, wr_wr, b2i_eq0, b2i_eq1, b2i_01, sm_rem_eq, sm_div_eq, wl_m2, wl_m1, wl_0, wl_1, wl_2, wl_3, wl_4, wl_5, wl_6, wl_7, wl_8, wl_9, wl_10, wl_12, wl_13, wl_14, wl_16, wl_20, wl_21, wl_22, wl_23, wl_32, wl_36, wl_40, wl_41, wl_42, wl_43, wl_44, wl_45, wl_46, wl_47, wl_48, wl_57, wl_59, wl_60, wl_61, wl_62, wl_65, wl_90, wl_97, wl_99, wl_100, wl_121, wl_122, wl_140, wl_142, wl_143, wl_145, wl_147, wl_160, wl_161, wl_162, wl_242, wl_380, wl_400, wl_420, wl_820, wl_1340, wl_5480, wl_9999, true_and, and_true, true_or, or_true, if_true, if_false, and_self, or_self, false_and, and_false, false_or, or_false, not_true_eq_false, not_false_eq_true, Int.reduceEq, Int.reduceLT, Int.reduceLE, Int.reduceToNat, Int.reduceAdd, Int.reduceMul, Int.reduceSub, Int.reduceMod, Int.reduceDiv, Int.reduceNeg, Nat.reduceEqDiff, sm_rd_ok, sm_rd_ok2, sm_wt_ok, sm_cp_ok, Option.isSome_some, Option.getD_some, w_cont, Option.toList_some, Option.toList_none, List.cons_append, List.nil_append]
      exact tail Z1 f1' (by rw [ep]; exact rQn_le t1 (by rw [em]; decide)) _ _ Q
  · refine ⟨Z, frU_refl Z, fun Q => ?_⟩
    rw [head, if_neg hc, if_neg hc]
end PLAN3
