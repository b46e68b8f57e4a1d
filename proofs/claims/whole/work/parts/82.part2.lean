section PART2
variable {d n z : Nat} {Rf : Nat → Nat → Option Nat} {K : Nat → Nat × Nat} {Z : Nat → Nat → Int} {Q : Option sm_V → sm_S → Prop} {w h : Int} {T : Nat → Int}
theorem pwU_row {Z : Nat → Nat → Int} {r : Nat} {F : Nat → Int} {s p c : Int} (hF : ∀ k, k < 400 → Z r k = F k) (h1 : (4 * p + s).toNat < 400) (h2 : (4 * c + (s + 2) % 4).toNat < 400) : ∀ k, k < 400 → sm_u (sm_u Z r (4 * p + s).toNat (Z r (4 * p + s).toNat + 1)) r (4 * c + (s + 2) % 4).toNat (sm_u Z r (4 * p + s).toNat (Z r (4 * p + s).toNat + 1) r (4 * c + (s + 2) % 4).toNat - 1) r k = pwU F s p c k := by
  intro k hk
  have e : ∀ k, k < 400 → sm_u Z r (4 * p + s).toNat (Z r (4 * p + s).toNat + 1) r k = mU F (4 * p + s).toNat (F (4 * p + s).toNat + 1) k := by
    intro k hk
    rw [sm_u_eq]
    unfold mU
    by_cases hk2 : k = (4 * p + s).toNat
    · rw [if_pos hk2, if_pos hk2, hF _ h1]
    · rw [if_neg hk2, if_neg hk2, hF k hk]
  rw [sm_u_eq]
  unfold pwU
  by_cases hk2 : k = (4 * c + (s + 2) % 4).toNat
  · rw [if_pos hk2, e _ h2]
    conv => rhs; unfold mU
    rw [if_pos hk2]
    rfl
  · rw [if_neg hk2, e k hk]
    conv => rhs; unfold mU
    rw [if_neg hk2]
    rfl
theorem c_kw_loop (H : sm_sh Rf K) {F0 : Nat → Int} {a : Nat} {st : spT} (hf : wfB w h F0 a st) (ha : a < 100) (l2 : Option sm_V) : ∀ (f i cnt : Nat) (F : Nat → Int) (Z : Nat → Nat → Int) (l5 l6 : Option sm_V), i ≤ f → i < st.2.2 → cnt + f ≤ 100 → sm_zs Z → (∀ c, c < 100 → ¬ st.1 c = -1 → Z 72 c = if c = a then 0 else st.1 c) → (∀ k, k < 400 → Z 71 k = F k) → ∃ Z', (∀ k, k < 400 → Z' 71 k = pwR st.1 a f (st.2.1 i) F k) ∧ (∀ q, q ≠ 71 → Z' q = Z q) ∧ ∀ Q, sm_wp d 28 5 [some (.inr (some 70)), some (.inl (a : Int)), l2, some (.inl (st.2.1 i)), some (.inl (cnt : Int)), l5, l6] [] (Z, Rf, K, n, z) Q = Q none (Z', Rf, K, n, z) := by
  have stop : ∀ (i cnt : Nat) (Z : Nat → Nat → Int) (l5 l6 : Option sm_V), st.2.1 i = (a : Int) → cnt ≤ 100 → ∀ Q, sm_wp d 28 5 [some (.inr (some 70)), some (.inl (a : Int)), l2, some (.inl (st.2.1 i)), some (.inl (cnt : Int)), l5, l6] [] (Z, Rf, K, n, z) Q = Q none (Z, Rf, K, n, z) := by
    intro i cnt Z l5 l6 hia hcnt Q
    rw [b28_5]
    by_cases h1 : (100 : Int) ≤ wr (cnt : Int)
    · rw [if_pos h1, b28_112]
    · rw [if_neg h1, b28_12, hia, if_pos rfl, b28_112]
  intro f
  induction f with
  | zero =>
    intro i cnt F Z l5 l6 hif hi hcnt hz hcb hF
    have hi0 : i = 0 := by omega
    refine ⟨Z, hF, fun _ _ => rfl, fun Q => ?_⟩
    exact stop i cnt Z l5 l6 (by rw [hi0]; exact hf.2.2.2.1.1) (by omega) Q
  | succ f ih =>
    intro i cnt F Z l5 l6 hif hi hcnt hz hcb hF
    rcases Nat.eq_zero_or_pos i with h0 | h1
    · have hia : st.2.1 i = (a : Int) := by rw [h0]; exact hf.2.2.2.1.1
      refine ⟨Z, ?_, fun _ _ => rfl, fun Q => stop i cnt Z l5 l6 hia (by omega) Q⟩
      simp only [pwR]
      rw [if_pos hia]
      exact hF
    · obtain ⟨hs, hia, j, hj, e, _⟩ := wfB_pre hf h1 hi
      have hbi := isC_bd (hf.1 i hi).1
      have hbj := isC_bd (hf.1 j (by omega)).1
      have hne := (hf.1 i hi).2
      have e72 : Z 72 (st.2.1 i).toNat = st.1 (st.2.1 i).toNat := by
        rw [hcb _ (by omega) hne, if_neg (by omega)]
      obtain ⟨s, hsd⟩ : ∃ s, s = st.1 (st.2.1 i).toNat := ⟨_, rfl⟩
      rw [← hsd] at hs e e72
      obtain ⟨c, hcd⟩ : ∃ c, c = st.2.1 i := ⟨_, rfl⟩
      rw [← hcd] at hbi hia e72 e
      have ezd := zDX hz hs
      have hsa : sm_and (s + 2) 3 = (s + 2) % 4 := by rw [and_3, wr_id (by omega) (by omega)]
      obtain ⟨p, hpd⟩ : ∃ p, p = c - dX s - dY s * 10 := ⟨_, rfl⟩
      have hpj : p = st.2.1 j := by rw [hpd, e]
      let Z1 := sm_u (sm_u Z 71 (4 * p + s).toNat (Z 71 (4 * p + s).toNat + 1)) 71 (4 * c + (s + 2) % 4).toNat (sm_u Z 71 (4 * p + s).toNat (Z 71 (4 * p + s).toNat + 1) 71 (4 * c + (s + 2) % 4).toNat - 1)
      have r1 : ∀ q, q ≠ 71 → Z1 q = Z q := fun q hq => by show sm_u _ _ _ _ q = _; rw [sm_u_row hq, sm_u_row hq]
      obtain ⟨Z2, g1, g2, g3⟩ := ih j (cnt + 1) (pwU F s p c) Z1 (some (.inl s)) (some (.inl p)) (by omega) (by omega) (by omega) (zs_fr hz (fun q hq => r1 q (by omega))) (fun c hc h => by rw [r1 72 (by decide)]; exact hcb c hc h) (pwU_row hF (by omega) (by omega))
      refine ⟨Z2, ?_, fun q hq => by rw [g2 q hq, r1 q hq], fun Q => ?_⟩
      · simp only [pwR]
        rw [← hcd, if_neg hia]
        rw [← hcd] at hsd
        rw [← hsd, ← hpd, hpj]
        rw [hpj] at g1
        exact g1
      · rw [← hcd, b28_5, wr_id (by omega) (by omega), if_neg (by omega), b28_12, wr_id (by omega) (by omega), wr_id (by omega) (by omega), if_neg hia, b28_17, kk_70 H, rr_70_1 H]
        simp (disch := omega) only [wr_id, wr_b2i, wr_wr, b2i_eq0, b2i_eq1, b2i_01, sm_rem_eq, sm_div_eq, wl_m2, wl_m1, wl_0, wl_1, wl_2, wl_3, wl_4, wl_5, wl_6, wl_7, wl_8, wl_9, wl_10, wl_12, wl_13, wl_14, wl_16, wl_20, wl_21, wl_22, wl_23, wl_32, wl_36, wl_40, wl_41, wl_42, wl_43, wl_44, wl_45, wl_46, wl_47, wl_48, wl_57, wl_59, wl_60, wl_61, wl_62, wl_65, wl_90, wl_97, wl_99, wl_100, wl_121, wl_122, wl_140, wl_142, wl_143, wl_145, wl_147, wl_160, wl_161, wl_162, wl_242, wl_380, wl_400, wl_420, wl_820, wl_1340, wl_5480, wl_9999, true_and, and_true, true_or, or_true, if_true, if_false, and_self, or_self, false_and, and_false, false_or, or_false, not_true_eq_false, not_false_eq_true, Int.reduceEq, Int.reduceLT, Int.reduceLE, Int.reduceToNat, Int.reduceAdd, Int.reduceMul, Int.reduceSub, Int.reduceMod, Int.reduceDiv, Int.reduceNeg, Nat.reduceEqDiff, sm_rd_ok, sm_rd_ok2, sm_wt_ok, sm_cp_ok, Option.isSome_some, Option.getD_some, w_cont, Option.toList_some, Option.toList_none, List.cons_append, List.nil_append, kk_72 H, e72]
        rw [if_neg (by omega), b28_27, kk_70 H, rr_70_1 H]
        simp (disch := omega) only [wr_id, wr_b2i, wr_wr, b2i_eq0, b2i_eq1, b2i_01, sm_rem_eq, sm_div_eq, wl_m2, wl_m1, wl_0, wl_1, wl_2, wl_3, wl_4, wl_5, wl_6, wl_7, wl_8, wl_9, wl_10, wl_12, wl_13, wl_14, wl_16, wl_20, wl_21, wl_22, wl_23, wl_32, wl_36, wl_40, wl_41, wl_42, wl_43, wl_44, wl_45, wl_46, wl_47, wl_48, wl_57, wl_59, wl_60, wl_61, wl_62, wl_65, wl_90, wl_97, wl_99, wl_100, wl_121, wl_122, wl_140, wl_142, wl_143, wl_145, wl_147, wl_160, wl_161, wl_162, wl_242, wl_380, wl_400, wl_420, wl_820, wl_1340, wl_5480, wl_9999, true_and, and_true, true_or, or_true, if_true, if_false, and_self, or_self, false_and, and_false, false_or, or_false, not_true_eq_false, not_false_eq_true, Int.reduceEq, Int.reduceLT, Int.reduceLE, Int.reduceToNat, Int.reduceAdd, Int.reduceMul, Int.reduceSub, Int.reduceMod, Int.reduceDiv, Int.reduceNeg, Nat.reduceEqDiff, sm_rd_ok, sm_rd_ok2, sm_wt_ok, sm_cp_ok, Option.isSome_some, Option.getD_some, w_cont, Option.toList_some, Option.toList_none, List.cons_append, List.nil_append, kk_72 H, e72, ks_0 H, ks_1 H, ezd.1, ezd.2, ← hpd]
        rw [if_neg (by omega), b28_60, wr_id (by omega) (by omega), if_pos (by omega), b28_68, kk_70 H, rr_70_0 H, hsa]
        simp only [wr_id, wr_b2i, wr_wr, b2i_eq0, b2i_eq1, b2i_01, sm_rem_eq, sm_div_eq, wl_m2, wl_m1, wl_0, wl_1, wl_2, wl_3, wl_4, wl_5, wl_6, wl_7, wl_8, wl_9, wl_10, wl_12, wl_13, wl_14, wl_16, wl_20, wl_21, wl_22, wl_23, wl_32, wl_36, wl_40, wl_41, wl_42, wl_43, wl_44, wl_45, wl_46, wl_47, wl_48, wl_57, wl_59, wl_60, wl_61, wl_62, wl_65, wl_90, wl_97, wl_99, wl_100, wl_121, wl_122, wl_140, wl_142, wl_143, wl_145, wl_147, wl_160, wl_161, wl_162, wl_242, wl_380, wl_400, wl_420, wl_820, wl_1340, wl_5480, wl_9999, true_and, and_true, true_or, or_true, if_true, if_false, and_self, or_self, false_and, and_false, false_or, or_false, not_true_eq_false, not_false_eq_true, Int.reduceEq, Int.reduceLT, Int.reduceLE, Int.reduceToNat, Int.reduceAdd, Int.reduceMul, Int.reduceSub, Int.reduceMod, Int.reduceDiv, Int.reduceNeg, Nat.reduceEqDiff, sm_rd_ok, sm_rd_ok2, sm_wt_ok, sm_cp_ok, Option.isSome_some, Option.getD_some, w_cont, Option.toList_some, Option.toList_none, List.cons_append, List.nil_append]
        rw [show p * 4 + s = 4 * p + s by omega, show c * 4 + (s + 2) % 4 = 4 * c + (s + 2) % 4 by omega]
        simp (disch := omega) only [wr_id, wr_b2i, wr_wr, b2i_eq0, b2i_eq1, b2i_01, sm_rem_eq, sm_div_eq, wl_m2, wl_m1, wl_0, wl_1, wl_2, wl_3, wl_4, wl_5, wl_6, wl_7, wl_8, wl_9, wl_10, wl_12, wl_13, wl_14, wl_16, wl_20, wl_21, wl_22, wl_23, wl_32, wl_36, wl_40, wl_41, wl_42, wl_43, wl_44, wl_45, wl_46, wl_47, wl_48, wl_57, wl_59, wl_60, wl_61, wl_62, wl_65, wl_90, wl_97, wl_99, wl_100, wl_121, wl_122, wl_140, wl_142, wl_143, wl_145, wl_147, wl_160, wl_161, wl_162, wl_242, wl_380, wl_400, wl_420, wl_820, wl_1340, wl_5480, wl_9999, true_and, and_true, true_or, or_true, if_true, if_false, and_self, or_self, false_and, and_false, false_or, or_false, not_true_eq_false, not_false_eq_true, Int.reduceEq, Int.reduceLT, Int.reduceLE, Int.reduceToNat, Int.reduceAdd, Int.reduceMul, Int.reduceSub, Int.reduceMod, Int.reduceDiv, Int.reduceNeg, Nat.reduceEqDiff, sm_rd_ok, sm_rd_ok2, sm_wt_ok, sm_cp_ok, Option.isSome_some, Option.getD_some, w_cont, Option.toList_some, Option.toList_none, List.cons_append, List.nil_append, kk_71 H]
        rw [show (cnt : Int) + 1 = ((cnt + 1 : Nat) : Int) by omega]
        rw [← hpj] at g3
        exact g3 Q
theorem c_cy_loop (H : sm_sh Rf K) (hs : (2 ≤ w ∧ w ≤ 10) ∧ 2 ≤ h ∧ h ≤ 10) {a b : Nat} (ha : isC w h (a : Int) = true) (hb : b < 100) (hab : ¬ a = b) (hT : ∀ k, k < 242 → -1 ≤ T k ∧ T k ≤ 7) : ∀ (f m : Nat) (F : Nat → Int) (Z : Nat → Nat → Int), m + f = 4 → flI F a m → sm_zs Z → (Z 1 0 = w ∧ Z 1 1 = h) → (∀ k, k < 242 → Z 22 k = T k) → (∀ k, k < 400 → Z 71 k = F k) → ∃ Z', frT Z Z' ∧ ∀ Q, sm_wp (d + 4) 25 11 [some (.inr (some 70)), some (.inr (some 1)), some (.inl (a : Int)), some (.inl (b : Int)), some (.inl (m : Int))] [] (Z, Rf, K, n, z) Q = Q (some (.inl (waR w h T a b f F (m : Int)))) (Z', Rf, K, n, z) := by
  have hba := isC_bd ha
  intro f
  induction f with
  | zero =>
    intro m F Z hm hF hz hw h22 h71
    refine ⟨Z, frT_refl Z, fun Q => ?_⟩
    rw [b25_11, wr_id (by omega) (by omega), if_pos (by omega), b25_39]
    rfl
  | succ f ih =>
    intro m F Z hm hF hz hw h22 h71
    have hp : pcP Z w h T F := ⟨hz, hw, fun k hk => ⟨h22 k hk, hT k hk⟩, fun k hk => ⟨h71 k hk, (hF.1 k hk).1, by have := (hF.1 k hk).2; omega⟩⟩
    obtain ⟨Z1, s1, f1, q1⟩ := c_findWay (d := d) (n := n) (z := z) H hs ha hb hp
    have fr1 : frT Z Z1 := ⟨fun q hq => f1 q (by omega) (by omega), by rw [f1 59 (by decide) (by decide)], by rw [f1 67 (by decide) (by decide)]⟩
    obtain ⟨wfm, hmc⟩ := pmR_wf (T := T) (F := F) (b := b) hs.1.2 hs.2.2 100 0 (pb0 a) (pb0_wf ha)
    have hgr : ∀ k, ¬ (stW w h T F a b).1 k = -1 → (pbR w h T F 100 0 (pb0 a)).1 k = (stW w h T F a b).1 k := by
      intro k hk
      rcases hmc with e | e
      · show _ = (pmR w h T F b 100 0 (pb0 a)).1 k
        rw [e]
      · exact e.2.2.2 k hk
    have hiff : (pbR w h T F 100 0 (pb0 a)).1 b = -1 ↔ (stW w h T F a b).1 b = -1 := by
      constructor
      · intro g
        rcases hmc with e | e
        · show (pmR w h T F b 100 0 (pb0 a)).1 b = -1
          rw [e]
          exact g
        · exact absurd (by rw [← e.2.2.2 b e.1]; exact g) e.1
      · intro g
        rcases hmc with e | e
        · have g' : (pmR w h T F b 100 0 (pb0 a)).1 b = -1 := g
          rw [e] at g'
          exact g'
        · exact absurd g e.1
    have head : ∀ Q, sm_wp (d + 4) 25 11 [some (.inr (some 70)), some (.inr (some 1)), some (.inl (a : Int)), some (.inl (b : Int)), some (.inl (m : Int))] [] (Z, Rf, K, n, z) Q = if (stW w h T F a b).1 b = -1 then Q (some (.inl (m : Int))) (Z1, Rf, K, n, z) else sm_wp (d + 4) 25 27 [some (.inr (some 70)), some (.inr (some 1)), some (.inl (a : Int)), some (.inl (b : Int)), some (.inl (m : Int))] [] (Z1, Rf, K, n, z) Q := by
      intro Q
      rw [b25_11, wr_id (by omega) (by omega), if_neg (by omega), b25_17, kk_70 H]
      simp only [wr_id, wr_b2i, wr_wr, b2i_eq0, b2i_eq1, b2i_01, sm_rem_eq, sm_div_eq, wl_m2, wl_m1, wl_0, wl_1, wl_2, wl_3, wl_4, wl_5, wl_6, wl_7, wl_8, wl_9, wl_10, wl_12, wl_13, wl_14, wl_16, wl_20, wl_21, wl_22, wl_23, wl_32, wl_36, wl_40, wl_41, wl_42, wl_43, wl_44, wl_45, wl_46, wl_47, wl_48, wl_57, wl_59, wl_60, wl_61, wl_62, wl_65, wl_90, wl_97, wl_99, wl_100, wl_121, wl_122, wl_140, wl_142, wl_143, wl_145, wl_147, wl_160, wl_161, wl_162, wl_242, wl_380, wl_400, wl_420, wl_820, wl_1340, wl_5480, wl_9999, true_and, and_true, true_or, or_true, if_true, if_false, and_self, or_self, false_and, and_false, false_or, or_false, not_true_eq_false, not_false_eq_true, Int.reduceEq, Int.reduceLT, Int.reduceLE, Int.reduceToNat, Int.reduceAdd, Int.reduceMul, Int.reduceSub, Int.reduceMod, Int.reduceDiv, Int.reduceNeg, Nat.reduceEqDiff, sm_rd_ok, sm_rd_ok2, sm_wt_ok, sm_cp_ok, Option.isSome_some, Option.getD_some, w_cont, Option.toList_some, Option.toList_none, List.cons_append, List.nil_append]
      refine (q1 _).trans ?_
      rw [w_cont]
      simp only [wr_id, wr_b2i, wr_wr, b2i_eq0, b2i_eq1, b2i_01, sm_rem_eq, sm_div_eq, wl_m2, wl_m1, wl_0, wl_1, wl_2, wl_3, wl_4, wl_5, wl_6, wl_7, wl_8, wl_9, wl_10, wl_12, wl_13, wl_14, wl_16, wl_20, wl_21, wl_22, wl_23, wl_32, wl_36, wl_40, wl_41, wl_42, wl_43, wl_44, wl_45, wl_46, wl_47, wl_48, wl_57, wl_59, wl_60, wl_61, wl_62, wl_65, wl_90, wl_97, wl_99, wl_100, wl_121, wl_122, wl_140, wl_142, wl_143, wl_145, wl_147, wl_160, wl_161, wl_162, wl_242, wl_380, wl_400, wl_420, wl_820, wl_1340, wl_5480, wl_9999, true_and, and_true, true_or, or_true, if_true, if_false, and_self, or_self, false_and, and_false, false_or, or_false, not_true_eq_false, not_false_eq_true, Int.reduceEq, Int.reduceLT, Int.reduceLE, Int.reduceToNat, Int.reduceAdd, Int.reduceMul, Int.reduceSub, Int.reduceMod, Int.reduceDiv, Int.reduceNeg, Nat.reduceEqDiff, sm_rd_ok, sm_rd_ok2, sm_wt_ok, sm_cp_ok, Option.isSome_some, Option.getD_some, w_cont, Option.toList_some, Option.toList_none, List.cons_append, List.nil_append]
      rw [b25_24]
      by_cases hn : (stW w h T F a b).1 b = -1
      · rw [if_pos (hiff.2 hn), if_pos hn]
        simp only [wr_id, wr_b2i, wr_wr, b2i_eq0, b2i_eq1, b2i_01, sm_rem_eq, sm_div_eq, wl_m2, wl_m1, wl_0, wl_1, wl_2, wl_3, wl_4, wl_5, wl_6, wl_7, wl_8, wl_9, wl_10, wl_12, wl_13, wl_14, wl_16, wl_20, wl_21, wl_22, wl_23, wl_32, wl_36, wl_40, wl_41, wl_42, wl_43, wl_44, wl_45, wl_46, wl_47, wl_48, wl_57, wl_59, wl_60, wl_61, wl_62, wl_65, wl_90, wl_97, wl_99, wl_100, wl_121, wl_122, wl_140, wl_142, wl_143, wl_145, wl_147, wl_160, wl_161, wl_162, wl_242, wl_380, wl_400, wl_420, wl_820, wl_1340, wl_5480, wl_9999, true_and, and_true, true_or, or_true, if_true, if_false, and_self, or_self, false_and, and_false, false_or, or_false, not_true_eq_false, not_false_eq_true, Int.reduceEq, Int.reduceLT, Int.reduceLE, Int.reduceToNat, Int.reduceAdd, Int.reduceMul, Int.reduceSub, Int.reduceMod, Int.reduceDiv, Int.reduceNeg, Nat.reduceEqDiff, sm_rd_ok, sm_rd_ok2, sm_wt_ok, sm_cp_ok, Option.isSome_some, Option.getD_some, w_cont, Option.toList_some, Option.toList_none, List.cons_append, List.nil_append]
        rw [b25_39]
      · rw [if_neg (fun g => hn (hiff.1 g)), if_neg hn]
        simp only [wr_id, wr_b2i, wr_wr, b2i_eq0, b2i_eq1, b2i_01, sm_rem_eq, sm_div_eq, wl_m2, wl_m1, wl_0, wl_1, wl_2, wl_3, wl_4, wl_5, wl_6, wl_7, wl_8, wl_9, wl_10, wl_12, wl_13, wl_14, wl_16, wl_20, wl_21, wl_22, wl_23, wl_32, wl_36, wl_40, wl_41, wl_42, wl_43, wl_44, wl_45, wl_46, wl_47, wl_48, wl_57, wl_59, wl_60, wl_61, wl_62, wl_65, wl_90, wl_97, wl_99, wl_100, wl_121, wl_122, wl_140, wl_142, wl_143, wl_145, wl_147, wl_160, wl_161, wl_162, wl_242, wl_380, wl_400, wl_420, wl_820, wl_1340, wl_5480, wl_9999, true_and, and_true, true_or, or_true, if_true, if_false, and_self, or_self, false_and, and_false, false_or, or_false, not_true_eq_false, not_false_eq_true, Int.reduceEq, Int.reduceLT, Int.reduceLE, Int.reduceToNat, Int.reduceAdd, Int.reduceMul, Int.reduceSub, Int.reduceMod, Int.reduceDiv, Int.reduceNeg, Nat.reduceEqDiff, sm_rd_ok, sm_rd_ok2, sm_wt_ok, sm_cp_ok, Option.isSome_some, Option.getD_some, w_cont, Option.toList_some, Option.toList_none, List.cons_append, List.nil_append]
    simp only [waR]
    by_cases hn : (stW w h T F a b).1 b = -1
    · refine ⟨Z1, fr1, fun Q => ?_⟩
      rw [head, if_pos hn, if_pos hn]
    · obtain ⟨i, h1, h2, h3⟩ := stW_ix hs.1.2 hs.2.2 ha hb hn
      obtain ⟨Z2, g1, g2, g3⟩ := c_kw_loop (d := d + 3) (n := n) (z := z) H wfm (by omega) (some (.inl (b : Int))) 99 i 0 F Z1 none none h3 h1 (by omega) (zs_frT fr1 hz) (fun c hc hcn => by rw [s1.1 c hc, hgr c hcn]; rfl) (fun k hk => by rw [f1 71 (by decide) (by decide)]; exact h71 k hk)
      have h2' : (pmR w h T F b 100 0 (pb0 a)).2.1 i = (b : Int) := h2
      have fr2 : frT Z Z2 := frT_trans fr1 ⟨fun q hq => g2 q (by omega), by rw [g2 59 (by decide)], by rw [g2 67 (by decide)]⟩
      obtain ⟨Z3, f3, q3⟩ := ih (m + 1) (paW w h T F a b) Z2 (by omega) (paW_fl hs.1.2 hs.2.2 ha hb hab hn hF) (zs_frT fr2 hz) (by rw [fr2.1 1 (by omega)]; exact hw) (fun k hk => by rw [fr2.1 22 (by omega)]; exact h22 k hk) (fun k hk => by rw [g1 k hk, h2']; rfl)
      refine ⟨Z3, frT_trans fr2 f3, fun Q => ?_⟩
      rw [h2'] at g3
      rw [head, if_neg hn, if_neg hn, b25_27, kk_70 H]
      simp only [wr_id, wr_b2i, wr_wr, b2i_eq0, b2i_eq1, b2i_01, sm_rem_eq, sm_div_eq, wl_m2, wl_m1, wl_0, wl_1, wl_2, wl_3, wl_4, wl_5, wl_6, wl_7, wl_8, wl_9, wl_10, wl_12, wl_13, wl_14, wl_16, wl_20, wl_21, wl_22, wl_23, wl_32, wl_36, wl_40, wl_41, wl_42, wl_43, wl_44, wl_45, wl_46, wl_47, wl_48, wl_57, wl_59, wl_60, wl_61, wl_62, wl_65, wl_90, wl_97, wl_99, wl_100, wl_121, wl_122, wl_140, wl_142, wl_143, wl_145, wl_147, wl_160, wl_161, wl_162, wl_242, wl_380, wl_400, wl_420, wl_820, wl_1340, wl_5480, wl_9999, true_and, and_true, true_or, or_true, if_true, if_false, and_self, or_self, false_and, and_false, false_or, or_false, not_true_eq_false, not_false_eq_true, Int.reduceEq, Int.reduceLT, Int.reduceLE, Int.reduceToNat, Int.reduceAdd, Int.reduceMul, Int.reduceSub, Int.reduceMod, Int.reduceDiv, Int.reduceNeg, Nat.reduceEqDiff, sm_rd_ok, sm_rd_ok2, sm_wt_ok, sm_cp_ok, Option.isSome_some, Option.getD_some, w_cont, Option.toList_some, Option.toList_none, List.cons_append, List.nil_append]
      rw [ce28, b28_0]
      refine (g3 _).trans ?_
      rw [w_cont]
      simp only [wr_id, wr_b2i, wr_wr, b2i_eq0, b2i_eq1, b2i_01, sm_rem_eq, sm_div_eq, wl_m2, wl_m1, wl_0, wl_1, wl_2, wl_3, wl_4, wl_5, wl_6, wl_7, wl_8, wl_9, wl_10, wl_12, wl_13, wl_14, wl_16, wl_20, wl_21, wl_22, wl_23, wl_32, wl_36, wl_40, wl_41, wl_42, wl_43, wl_44, wl_45, wl_46, wl_47, wl_48, wl_57, wl_59, wl_60, wl_61, wl_62, wl_65, wl_90, wl_97, wl_99, wl_100, wl_121, wl_122, wl_140, wl_142, wl_143, wl_145, wl_147, wl_160, wl_161, wl_162, wl_242, wl_380, wl_400, wl_420, wl_820, wl_1340, wl_5480, wl_9999, true_and, and_true, true_or, or_true, if_true, if_false, and_self, or_self, false_and, and_false, false_or, or_false, not_true_eq_false, not_false_eq_true, Int.reduceEq, Int.reduceLT, Int.reduceLE, Int.reduceToNat, Int.reduceAdd, Int.reduceMul, Int.reduceSub, Int.reduceMod, Int.reduceDiv, Int.reduceNeg, Nat.reduceEqDiff, sm_rd_ok, sm_rd_ok2, sm_wt_ok, sm_cp_ok, Option.isSome_some, Option.getD_some, w_cont, Option.toList_some, Option.toList_none, List.cons_append, List.nil_append]
      rw [b25_33, show (m : Int) + 1 = ((m + 1 : Nat) : Int) by omega]
      exact q3 Q
def paS (M : Nat → Int) (a b : Int) : Int := if isC (M 0) (M 1) a = true ∧ isC (M 0) (M 1) b = true ∧ ¬ a = b then waR (M 0) (M 1) (fun j => M (850 + j)) a.toNat b.toNat 4 (fun _ => 0) 0 else -1
theorem fl0 (a : Nat) : flI (fun _ => 0) a 0 := ⟨fun k hk => ⟨(by decide : (0 : Int) ≤ 1), (by decide : -(100 * ((0 : Nat) : Int)) ≤ (0 : Int))⟩, rfl⟩
theorem c_part (H : sm_sh Rf K) (hz : sm_zs Z) {M : Nat → Int} (hi : invD M) (hr : rD Z Rf K M 1) {a b : Int} (ha : aI a) (hb : aI b) : ∃ Z', frT Z Z' ∧ ∀ Q, sm_call (d + 5) 109 [.inr (some 0), .inl a, .inl b] (Z, Rf, K, n, z) Q = Q (some (.inl (paS M a b))) (Z', Rf, K, n, z) := by
  have hsz := szC_of hi hr
  have hs := hi.1.1
  unfold szN at hs
  have ha' := ha
  have hb' := hb
  unfold aI at ha' hb'
  have head : ∀ Q, sm_call (d + 5) 109 [.inr (some 0), .inl a, .inl b] (Z, Rf, K, n, z) Q = if isC (M 0) (M 1) a = true ∧ isC (M 0) (M 1) b = true ∧ ¬ a = b then sm_wp (d + 5) 109 29 [some (.inr (some 0)), some (.inl a), some (.inl b)] [] (Z, Rf, K, n, z) Q else Q (some (.inl (-1))) (Z, Rf, K, n, z) := by
    intro Q
    rw [ce109, b109_0, kk_0 H, rr_0_0 H]
    simp only [wr_id, wr_b2i, wr_wr, b2i_eq0, b2i_eq1, b2i_01, sm_rem_eq, sm_div_eq, wl_m2, wl_m1, wl_0, wl_1, wl_2, wl_3, wl_4, wl_5, wl_6, wl_7, wl_8, wl_9, wl_10, wl_12, wl_13, wl_14, wl_16, wl_20, wl_21, wl_22, wl_23, wl_32, wl_36, wl_40, wl_41, wl_42, wl_43, wl_44, wl_45, wl_46, wl_47, wl_48, wl_57, wl_59, wl_60, wl_61, wl_62, wl_65, wl_90, wl_97, wl_99, wl_100, wl_121, wl_122, wl_140, wl_142, wl_143, wl_145, wl_147, wl_160, wl_161, wl_162, wl_242, wl_380, wl_400, wl_420, wl_820, wl_1340, wl_5480, wl_9999, true_and, and_true, true_or, or_true, if_true, if_false, and_self, or_self, false_and, and_false, false_or, or_false, not_true_eq_false, not_false_eq_true, Int.reduceEq, Int.reduceLT, Int.reduceLE, Int.reduceToNat, Int.reduceAdd, Int.reduceMul, Int.reduceSub, Int.reduceMod, Int.reduceDiv, Int.reduceNeg, Nat.reduceEqDiff, sm_rd_ok, sm_rd_ok2, sm_wt_ok, sm_cp_ok, Option.isSome_some, Option.getD_some, w_cont, Option.toList_some, Option.toList_none, List.cons_append, List.nil_append, kk_1 H]
    rw [c_hasCell (by rw [kk_1 H]) hsz.1 hsz.2 ha, w_cont, hr.1.1, hr.1.2.1]
    simp only [wr_id, wr_b2i, wr_wr, b2i_eq0, b2i_eq1, b2i_01, sm_rem_eq, sm_div_eq, wl_m2, wl_m1, wl_0, wl_1, wl_2, wl_3, wl_4, wl_5, wl_6, wl_7, wl_8, wl_9, wl_10, wl_12, wl_13, wl_14, wl_16, wl_20, wl_21, wl_22, wl_23, wl_32, wl_36, wl_40, wl_41, wl_42, wl_43, wl_44, wl_45, wl_46, wl_47, wl_48, wl_57, wl_59, wl_60, wl_61, wl_62, wl_65, wl_90, wl_97, wl_99, wl_100, wl_121, wl_122, wl_140, wl_142, wl_143, wl_145, wl_147, wl_160, wl_161, wl_162, wl_242, wl_380, wl_400, wl_420, wl_820, wl_1340, wl_5480, wl_9999, true_and, and_true, true_or, or_true, if_true, if_false, and_self, or_self, false_and, and_false, false_or, or_false, not_true_eq_false, not_false_eq_true, Int.reduceEq, Int.reduceLT, Int.reduceLE, Int.reduceToNat, Int.reduceAdd, Int.reduceMul, Int.reduceSub, Int.reduceMod, Int.reduceDiv, Int.reduceNeg, Nat.reduceEqDiff, sm_rd_ok, sm_rd_ok2, sm_wt_ok, sm_cp_ok, Option.isSome_some, Option.getD_some, w_cont, Option.toList_some, Option.toList_none, List.cons_append, List.nil_append]
    rw [b109_8]
    simp only [wr_id, wr_b2i, wr_wr, b2i_eq0, b2i_eq1, b2i_01, sm_rem_eq, sm_div_eq, wl_m2, wl_m1, wl_0, wl_1, wl_2, wl_3, wl_4, wl_5, wl_6, wl_7, wl_8, wl_9, wl_10, wl_12, wl_13, wl_14, wl_16, wl_20, wl_21, wl_22, wl_23, wl_32, wl_36, wl_40, wl_41, wl_42, wl_43, wl_44, wl_45, wl_46, wl_47, wl_48, wl_57, wl_59, wl_60, wl_61, wl_62, wl_65, wl_90, wl_97, wl_99, wl_100, wl_121, wl_122, wl_140, wl_142, wl_143, wl_145, wl_147, wl_160, wl_161, wl_162, wl_242, wl_380, wl_400, wl_420, wl_820, wl_1340, wl_5480, wl_9999, true_and, and_true, true_or, or_true, if_true, if_false, and_self, or_self, false_and, and_false, false_or, or_false, not_true_eq_false, not_false_eq_true, Int.reduceEq, Int.reduceLT, Int.reduceLE, Int.reduceToNat, Int.reduceAdd, Int.reduceMul, Int.reduceSub, Int.reduceMod, Int.reduceDiv, Int.reduceNeg, Nat.reduceEqDiff, sm_rd_ok, sm_rd_ok2, sm_wt_ok, sm_cp_ok, Option.isSome_some, Option.getD_some, w_cont, Option.toList_some, Option.toList_none, List.cons_append, List.nil_append]
    by_cases h1 : isC (M 0) (M 1) a = true
    · rw [if_neg (by rw [h1]; decide), b109_11, kk_0 H, rr_0_0 H]
      simp only [wr_id, wr_b2i, wr_wr, b2i_eq0, b2i_eq1, b2i_01, sm_rem_eq, sm_div_eq, wl_m2, wl_m1, wl_0, wl_1, wl_2, wl_3, wl_4, wl_5, wl_6, wl_7, wl_8, wl_9, wl_10, wl_12, wl_13, wl_14, wl_16, wl_20, wl_21, wl_22, wl_23, wl_32, wl_36, wl_40, wl_41, wl_42, wl_43, wl_44, wl_45, wl_46, wl_47, wl_48, wl_57, wl_59, wl_60, wl_61, wl_62, wl_65, wl_90, wl_97, wl_99, wl_100, wl_121, wl_122, wl_140, wl_142, wl_143, wl_145, wl_147, wl_160, wl_161, wl_162, wl_242, wl_380, wl_400, wl_420, wl_820, wl_1340, wl_5480, wl_9999, true_and, and_true, true_or, or_true, if_true, if_false, and_self, or_self, false_and, and_false, false_or, or_false, not_true_eq_false, not_false_eq_true, Int.reduceEq, Int.reduceLT, Int.reduceLE, Int.reduceToNat, Int.reduceAdd, Int.reduceMul, Int.reduceSub, Int.reduceMod, Int.reduceDiv, Int.reduceNeg, Nat.reduceEqDiff, sm_rd_ok, sm_rd_ok2, sm_wt_ok, sm_cp_ok, Option.isSome_some, Option.getD_some, w_cont, Option.toList_some, Option.toList_none, List.cons_append, List.nil_append, kk_1 H]
      rw [c_hasCell (by rw [kk_1 H]) hsz.1 hsz.2 hb, w_cont, hr.1.1, hr.1.2.1]
      simp only [wr_id, wr_b2i, wr_wr, b2i_eq0, b2i_eq1, b2i_01, sm_rem_eq, sm_div_eq, wl_m2, wl_m1, wl_0, wl_1, wl_2, wl_3, wl_4, wl_5, wl_6, wl_7, wl_8, wl_9, wl_10, wl_12, wl_13, wl_14, wl_16, wl_20, wl_21, wl_22, wl_23, wl_32, wl_36, wl_40, wl_41, wl_42, wl_43, wl_44, wl_45, wl_46, wl_47, wl_48, wl_57, wl_59, wl_60, wl_61, wl_62, wl_65, wl_90, wl_97, wl_99, wl_100, wl_121, wl_122, wl_140, wl_142, wl_143, wl_145, wl_147, wl_160, wl_161, wl_162, wl_242, wl_380, wl_400, wl_420, wl_820, wl_1340, wl_5480, wl_9999, true_and, and_true, true_or, or_true, if_true, if_false, and_self, or_self, false_and, and_false, false_or, or_false, not_true_eq_false, not_false_eq_true, Int.reduceEq, Int.reduceLT, Int.reduceLE, Int.reduceToNat, Int.reduceAdd, Int.reduceMul, Int.reduceSub, Int.reduceMod, Int.reduceDiv, Int.reduceNeg, Nat.reduceEqDiff, sm_rd_ok, sm_rd_ok2, sm_wt_ok, sm_cp_ok, Option.isSome_some, Option.getD_some, w_cont, Option.toList_some, Option.toList_none, List.cons_append, List.nil_append]
      rw [b109_19]
      simp only [wr_id, wr_b2i, wr_wr, b2i_eq0, b2i_eq1, b2i_01, sm_rem_eq, sm_div_eq, wl_m2, wl_m1, wl_0, wl_1, wl_2, wl_3, wl_4, wl_5, wl_6, wl_7, wl_8, wl_9, wl_10, wl_12, wl_13, wl_14, wl_16, wl_20, wl_21, wl_22, wl_23, wl_32, wl_36, wl_40, wl_41, wl_42, wl_43, wl_44, wl_45, wl_46, wl_47, wl_48, wl_57, wl_59, wl_60, wl_61, wl_62, wl_65, wl_90, wl_97, wl_99, wl_100, wl_121, wl_122, wl_140, wl_142, wl_143, wl_145, wl_147, wl_160, wl_161, wl_162, wl_242, wl_380, wl_400, wl_420, wl_820, wl_1340, wl_5480, wl_9999, true_and, and_true, true_or, or_true, if_true, if_false, and_self, or_self, false_and, and_false, false_or, or_false, not_true_eq_false, not_false_eq_true, Int.reduceEq, Int.reduceLT, Int.reduceLE, Int.reduceToNat, Int.reduceAdd, Int.reduceMul, Int.reduceSub, Int.reduceMod, Int.reduceDiv, Int.reduceNeg, Nat.reduceEqDiff, sm_rd_ok, sm_rd_ok2, sm_wt_ok, sm_cp_ok, Option.isSome_some, Option.getD_some, w_cont, Option.toList_some, Option.toList_none, List.cons_append, List.nil_append]
      by_cases h2 : isC (M 0) (M 1) b = true
      · rw [if_neg (by rw [h2]; decide), b109_22, wr_id ha'.1 ha'.2, wr_id hb'.1 hb'.2]
        by_cases h3 : a = b
        · rw [if_pos h3, if_neg (fun g => g.2.2 h3), b109_27]
        · rw [if_neg h3, if_pos ⟨h1, h2, h3⟩]
      · rw [if_pos (Bool.eq_false_iff.2 h2), if_neg (fun g => h2 g.2.1), b109_27]
    · rw [if_pos (Bool.eq_false_iff.2 h1), if_neg (fun g => h1 g.1), b109_27]
  unfold paS
  by_cases hc : isC (M 0) (M 1) a = true ∧ isC (M 0) (M 1) b = true ∧ ¬ a = b
  · have ba := isC_bd hc.1
    have bb := isC_bd hc.2.1
    have ea : ((a.toNat : Nat) : Int) = a := by omega
    have eb : ((b.toNat : Nat) : Int) = b := by omega
    have r0 : ∀ q, q ≠ 71 → sm_fr Z 71 0 400 0 q = Z q := fun q hq => funext (fun j => sm_fr_ne hq)
    obtain ⟨Z1, f1, q1⟩ := c_cy_loop (d := d) (n := n) (z := z) (T := fun j => M (850 + j)) (a := a.toNat) (b := b.toNat) H hs (by rw [ea]; exact hc.1) (by omega) (by omega) (fun k hk => hi.1.2.1 k hk) 4 0 (fun _ => 0) (sm_fr Z 71 0 400 0) (by omega) (fl0 _) (zs_fr hz (fun q hq => r0 q (by omega))) (by rw [r0 1 (by decide)]; exact ⟨hr.1.1, hr.1.2.1⟩) (fun k hk => by rw [r0 22 (by decide)]; exact hr.2.2.2.2.2.2.2.2.1 k hk) (fun k hk => by unfold sm_fr; rw [if_pos ⟨rfl, by omega, hk⟩])
    have fr0 : frT Z (sm_fr Z 71 0 400 0) := ⟨fun q hq => r0 q (by omega), by rw [r0 59 (by decide)], by rw [r0 67 (by decide)]⟩
    refine ⟨Z1, frT_trans fr0 f1, fun Q => ?_⟩
    rw [ea, eb] at q1
    rw [head, if_pos hc, if_pos hc, b109_29, kk_0 H, rr_0_0 H, rr_0_5 H]
    simp only [wr_id, wr_b2i, wr_wr, b2i_eq0, b2i_eq1, b2i_01, sm_rem_eq, sm_div_eq, wl_m2, wl_m1, wl_0, wl_1, wl_2, wl_3, wl_4, wl_5, wl_6, wl_7, wl_8, wl_9, wl_10, wl_12, wl_13, wl_14, wl_16, wl_20, wl_21, wl_22, wl_23, wl_32, wl_36, wl_40, wl_41, wl_42, wl_43, wl_44, wl_45, wl_46, wl_47, wl_48, wl_57, wl_59, wl_60, wl_61, wl_62, wl_65, wl_90, wl_97, wl_99, wl_100, wl_121, wl_122, wl_140, wl_142, wl_143, wl_145, wl_147, wl_160, wl_161, wl_162, wl_242, wl_380, wl_400, wl_420, wl_820, wl_1340, wl_5480, wl_9999, true_and, and_true, true_or, or_true, if_true, if_false, and_self, or_self, false_and, and_false, false_or, or_false, not_true_eq_false, not_false_eq_true, Int.reduceEq, Int.reduceLT, Int.reduceLE, Int.reduceToNat, Int.reduceAdd, Int.reduceMul, Int.reduceSub, Int.reduceMod, Int.reduceDiv, Int.reduceNeg, Nat.reduceEqDiff, sm_rd_ok, sm_rd_ok2, sm_wt_ok, sm_cp_ok, Option.isSome_some, Option.getD_some, w_cont, Option.toList_some, Option.toList_none, List.cons_append, List.nil_append, kk_70 H]
    rw [ce25, b25_0, kk_70 H, rr_70_0 H]
    simp only [wr_id, wr_b2i, wr_wr, b2i_eq0, b2i_eq1, b2i_01, sm_rem_eq, sm_div_eq, wl_m2, wl_m1, wl_0, wl_1, wl_2, wl_3, wl_4, wl_5, wl_6, wl_7, wl_8, wl_9, wl_10, wl_12, wl_13, wl_14, wl_16, wl_20, wl_21, wl_22, wl_23, wl_32, wl_36, wl_40, wl_41, wl_42, wl_43, wl_44, wl_45, wl_46, wl_47, wl_48, wl_57, wl_59, wl_60, wl_61, wl_62, wl_65, wl_90, wl_97, wl_99, wl_100, wl_121, wl_122, wl_140, wl_142, wl_143, wl_145, wl_147, wl_160, wl_161, wl_162, wl_242, wl_380, wl_400, wl_420, wl_820, wl_1340, wl_5480, wl_9999, true_and, and_true, true_or, or_true, if_true, if_false, and_self, or_self, false_and, and_false, false_or, or_false, not_true_eq_false, not_false_eq_true, Int.reduceEq, Int.reduceLT, Int.reduceLE, Int.reduceToNat, Int.reduceAdd, Int.reduceMul, Int.reduceSub, Int.reduceMod, Int.reduceDiv, Int.reduceNeg, Nat.reduceEqDiff, sm_rd_ok, sm_rd_ok2, sm_wt_ok, sm_cp_ok, Option.isSome_some, Option.getD_some, w_cont, Option.toList_some, Option.toList_none, List.cons_append, List.nil_append]
    rw [c_fill (kk_71 H) (by decide), w_cont]
    simp only [wr_id, wr_b2i, wr_wr, b2i_eq0, b2i_eq1, b2i_01, sm_rem_eq, sm_div_eq, wl_m2, wl_m1, wl_0, wl_1, wl_2, wl_3, wl_4, wl_5, wl_6, wl_7, wl_8, wl_9, wl_10, wl_12, wl_13, wl_14, wl_16, wl_20, wl_21, wl_22, wl_23, wl_32, wl_36, wl_40, wl_41, wl_42, wl_43, wl_44, wl_45, wl_46, wl_47, wl_48, wl_57, wl_59, wl_60, wl_61, wl_62, wl_65, wl_90, wl_97, wl_99, wl_100, wl_121, wl_122, wl_140, wl_142, wl_143, wl_145, wl_147, wl_160, wl_161, wl_162, wl_242, wl_380, wl_400, wl_420, wl_820, wl_1340, wl_5480, wl_9999, true_and, and_true, true_or, or_true, if_true, if_false, and_self, or_self, false_and, and_false, false_or, or_false, not_true_eq_false, not_false_eq_true, Int.reduceEq, Int.reduceLT, Int.reduceLE, Int.reduceToNat, Int.reduceAdd, Int.reduceMul, Int.reduceSub, Int.reduceMod, Int.reduceDiv, Int.reduceNeg, Nat.reduceEqDiff, sm_rd_ok, sm_rd_ok2, sm_wt_ok, sm_cp_ok, Option.isSome_some, Option.getD_some, w_cont, Option.toList_some, Option.toList_none, List.cons_append, List.nil_append]
    rw [b25_8]
    refine (q1 _).trans ?_
    rw [w_cont]
    simp only [wr_id, wr_b2i, wr_wr, b2i_eq0, b2i_eq1, b2i_01, sm_rem_eq, sm_div_eq, wl_m2, wl_m1, wl_0, wl_1, wl_2, wl_3, wl_4, wl_5, wl_6, wl_7, wl_8, wl_9, wl_10, wl_12, wl_13, wl_14, wl_16, wl_20, wl_21, wl_22, wl_23, wl_32, wl_36, wl_40, wl_41, wl_42, wl_43, wl_44, wl_45, wl_46, wl_47, wl_48, wl_57, wl_59, wl_60, wl_61, wl_62, wl_65, wl_90, wl_97, wl_99, wl_100, wl_121, wl_122, wl_140, wl_142, wl_143, wl_145, wl_147, wl_160, wl_161, wl_162, wl_242, wl_380, wl_400, wl_420, wl_820, wl_1340, wl_5480, wl_9999, true_and, and_true, true_or, or_true, if_true, if_false, and_self, or_self, false_and, and_false, false_or, or_false, not_true_eq_false, not_false_eq_true, Int.reduceEq, Int.reduceLT, Int.reduceLE, Int.reduceToNat, Int.reduceAdd, Int.reduceMul, Int.reduceSub, Int.reduceMod, Int.reduceDiv, Int.reduceNeg, Nat.reduceEqDiff, sm_rd_ok, sm_rd_ok2, sm_wt_ok, sm_cp_ok, Option.isSome_some, Option.getD_some, w_cont, Option.toList_some, Option.toList_none, List.cons_append, List.nil_append]
    rw [b109_42]
    rfl
  · refine ⟨Z, frT_refl Z, fun Q => ?_⟩
    rw [head, if_neg hc, if_neg hc]
end PART2
