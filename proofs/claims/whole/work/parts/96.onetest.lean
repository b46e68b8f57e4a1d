/-! One test, and the knot. -/
section ONET
variable {n z : Nat} {Rf : Nat → Nat → Option Nat} {K : Nat → Nat × Nat} {T : Nat → Int} {len : Nat}
theorem pM_D {Z : Nat → Nat → Int} {s : Nat} {ms : List (Int × Int)} {D : Int} (D' : Int) (hp : pM Z T len s ms D) : pM (sm_u Z 79 22 D') T len s ms D' := by
  obtain ⟨h1, h2, h3, h4, h5⟩ := hp
  refine ⟨zs_fr h1 (fun a ha => sm_u_row (by omega)), tpM_fr (sm_u_row (by decide)) (by rw [sm_u_eq, if_neg (by decide)]) h2, ?_, ⟨by rw [sm_u_eq, if_neg (by decide)]; exact h4.1, by rw [sm_u_row (by decide)]; exact h4.2.1, by rw [sm_u_eq, if_neg (by decide)]; exact h4.2.2⟩, sm_u_self⟩
  unfold lkA at h3 ⊢
  rw [sm_u_eq, if_neg (by decide), sm_u_eq, if_neg (by decide), sm_u_eq, if_neg (by decide), sm_u_eq, if_neg (by decide)]
  exact h3
theorem frP_D {Z : Nat → Nat → Int} (D' : Int) : frP Z (sm_u Z 79 22 D') := ⟨fun a q1 _ => sm_u_row q1, fun j hj => by rw [sm_u_eq, if_neg (by omega)]⟩
theorem lt_tk {Z : Nat → Nat → Int} {s : Nat} {ms : List (Int × Int)} {D : Int} (hp : pM Z T len s ms D) (h : ¬ tkS T len s = 0) : s < len := by
  have ht0 := tkS_0 (len := len) (s := s) hp.2.1.2.1
  rcases Nat.lt_or_ge s len with g | g
  · exact g
  · exact absurd (ht0.2.2.2 g) h
theorem m_cmp (H : sm_sh Rf K) {Dn d : Nat} (hD : Dn ≤ 8) {s : Nat} {ms : List (Int × Int)} {Z : Nat → Nat → Int} {rc pd : List Int} {ln tn br rt : Int} (hp : pM Z T len s ms (Dn : Int)) (hs : s ≤ len) (hms : ms.length ≤ s) (hcap : rc.length + pd.length + 1 ≤ s) (hpd : pd.length ≤ 3 * Dn + 2) (hd : hdL 4 pd) (h6 : ¬ tkS T len s = 6) (h140 : ¬ tkS T len s = 140) (l1 : Option sm_V) : ∃ Z' r, outc T len Z Z' s ms (Dn : Int) (rc, pd, 2, ln, tn, (Dn : Int), br, rt) (GB 3 11 rc pd Dn ln tn br (tyB (12 + 2 * Dn)) T len nt0) r ∧ ∀ Q, sm_wp (d + 11) 154 92 [some (.inr (some 79)), l1] [] (Z, Rf, K, n, z) Q = Q (some (.inl (b2i r))) (Z', Rf, K, n, z) := by
  have h4 := hp.2.1.2.2.2
  obtain ⟨Z1, r1, a1, a2⟩ := m_sum (d := d) (n := n) (z := z) (ln := ln) (tn := tn) (op := (Dn : Int)) (br := br) (rt := rt) (rt0 := 0) H hp hms (Or.inr ⟨rfl, h6, h140, rfl⟩) hcap (by omega) (hdL_mono (by decide) hd)
  have run : ∀ Q, sm_wp (d + 11) 154 92 [some (.inr (some 79)), l1] [] (Z, Rf, K, n, z) Q = sm_wp (d + 11) 154 96 [some (.inr (some 79)), l1] [.inl (b2i r1)] (Z1, Rf, K, n, z) Q := by
    intro Q
    rw [b154_92, kk_79 H]
    simp only [wr_id, wr_b2i, wr_wr, b2i_eq0, b2i_eq1, b2i_01, sm_rem_eq, sm_div_eq, wl_m2, wl_m1, wl_0, wl_1, wl_2, wl_3, wl_4, wl_5, wl_6, wl_7, wl_8, wl_9, wl_10, wl_12, wl_13, wl_14, wl_16, wl_20, wl_21, wl_22, wl_23, wl_32, wl_36, wl_40, wl_41, wl_42, wl_43, wl_44, wl_45, wl_46, wl_47, wl_48, wl_57, wl_59, wl_60, wl_61, wl_62, wl_65, wl_90, wl_97, wl_99, wl_100, wl_121, wl_122, wl_140, wl_142, wl_143, wl_145, wl_147, wl_160, wl_161, wl_162, wl_242, wl_380, wl_400, wl_420, wl_820, wl_1340, wl_5480, wl_9999, true_and, and_true, true_or, or_true, if_true, if_false, and_self, or_self, false_and, and_false, false_or, or_false, not_true_eq_false, not_false_eq_true, Int.reduceEq, Int.reduceLT, Int.reduceLE, Int.reduceToNat, Int.reduceAdd, Int.reduceMul, Int.reduceSub, Int.reduceMod, Int.reduceDiv, Int.reduceNeg, Nat.reduceEqDiff, sm_rd_ok, sm_rd_ok2, sm_wt_ok, sm_cp_ok, Option.isSome_some, Option.getD_some, w_cont, Option.toList_some, Option.toList_none, List.cons_append, List.nil_append]
    refine (a2 _).trans ?_
    rw [w_cont]
    rfl
  cases r1 with
  | false =>
    refine ⟨Z1, false, outc_fail (frP_refl Z) rch_refl a1, fun Q => ?_⟩
    rw [run, b154_96, if_pos (by decide), b154_99]
    simp only [wr_id, wr_b2i, wr_wr, b2i_eq0, b2i_eq1, b2i_01, sm_rem_eq, sm_div_eq, wl_m2, wl_m1, wl_0, wl_1, wl_2, wl_3, wl_4, wl_5, wl_6, wl_7, wl_8, wl_9, wl_10, wl_12, wl_13, wl_14, wl_16, wl_20, wl_21, wl_22, wl_23, wl_32, wl_36, wl_40, wl_41, wl_42, wl_43, wl_44, wl_45, wl_46, wl_47, wl_48, wl_57, wl_59, wl_60, wl_61, wl_62, wl_65, wl_90, wl_97, wl_99, wl_100, wl_121, wl_122, wl_140, wl_142, wl_143, wl_145, wl_147, wl_160, wl_161, wl_162, wl_242, wl_380, wl_400, wl_420, wl_820, wl_1340, wl_5480, wl_9999, true_and, and_true, true_or, or_true, if_true, if_false, and_self, or_self, false_and, and_false, false_or, or_false, not_true_eq_false, not_false_eq_true, Int.reduceEq, Int.reduceLT, Int.reduceLE, Int.reduceToNat, Int.reduceAdd, Int.reduceMul, Int.reduceSub, Int.reduceMod, Int.reduceDiv, Int.reduceNeg, Nat.reduceEqDiff, sm_rd_ok, sm_rd_ok2, sm_wt_ok, sm_cp_ok, Option.isSome_some, Option.getD_some, w_cont, Option.toList_some, Option.toList_none, List.cons_append, List.nil_append]
    rfl
  | true =>
    obtain ⟨c1, c2, _⟩ := a1
    obtain ⟨s1, new, cc, g1, g2, g3, g4, ops, rc1, ⟨g5, g5'⟩, g6, g7, g8, ⟨g9, g9'⟩, g10, g11⟩ := c2 rfl
    rw [g6] at g1
    have hlen : ops.length + rc1.length = new.length + rc.length := by
      have := congrArg List.length g7
      simpa using this
    have h16 := g4.2.2.1.2.1
    have ht0 := tkS_0 (len := len) (s := s1) hp.2.1.2.1
    have e := rdS_st (t := tkS T len s1) (v := vlS T len s1) (rc := rc1) (pd := ops ++ pd) (st := 5) (ln := ln) (tn := tn) (op := (Dn : Int)) (br := br) (rt := 0) (by rw [List.length_append]; omega)
    rw [if_neg (by decide), if_neg (by decide), if_neg (by decide), if_neg (by decide), if_neg (by decide), if_pos rfl] at e
    have eS := stl_o (op := (Dn : Int)) (rc := rc1) hd (lo := 5) (by decide) g5
    simp only [tkAU] at e
    rw [if_neg g9, if_neg g9', if_neg g10, if_neg g11] at e
    by_cases hr : 160 ≤ tkS T len s1 ∧ tkS T len s1 ≤ 162
    · rw [if_pos hr, if_pos trivial] at e
      have hlt := lt_tk g4 (by omega)
      have hns := nsS_bd (T := T) hlt
      obtain ⟨o, ho⟩ : ∃ o, o = tkS T len s1 - 153 := ⟨_, rfl⟩
      have ho4 : stg o = 4 := by
        have : o = 7 ∨ o = 8 ∨ o = 9 := by omega
        rcases this with h | h | h <;> rw [h] <;> decide
      have hcO : cO (o + 10, 0) = o := by
        have : o = 7 ∨ o = 8 ∨ o = 9 := by omega
        rcases this with h | h | h <;> rw [h] <;> decide
      rw [← ho] at e
      simp only [jnT, ho4, eS] at e
      have hr1 := rch_step hlt (by omega) e
      obtain ⟨s2, hs2⟩ : ∃ s2, s2 = nsS T len s1 := ⟨_, rfl⟩
      obtain ⟨Z2, b1, b2, b3⟩ := m_nx (d := d + 3) (n := n) (z := z) H g4 hlt
      rw [← hs2] at b1 hns hr1
      obtain ⟨Z3, r3, k1, k2⟩ := m_sum (d := d) (n := n) (z := z) (rc := ops.reverse ++ rc1) (pd := o :: pd) (st := 3) (ln := ln) (tn := tn) (op := (Dn : Int)) (br := br) (rt := 1) (rt0 := 1) H b1 (by rw [List.length_append]; omega) (Or.inl ⟨rfl, rfl⟩) (by simp; omega) (by simp; omega) (Or.inr ⟨o, pd, rfl, by omega⟩)
      have run2 : ∀ Q, sm_wp (d + 11) 154 92 [some (.inr (some 79)), l1] [] (Z, Rf, K, n, z) Q = sm_wp (d + 11) 154 167 [some (.inr (some 79)), some (.inl (o + 10))] [.inl (b2i r3)] (Z3, Rf, K, n, z) Q := by
        intro Q
        have mid : sm_wp (d + 11) 154 101 [some (.inr (some 79)), l1] [] (Z1, Rf, K, n, z) Q = sm_wp (d + 11) 154 147 [some (.inr (some 79)), l1] [.inl (o + 10)] (Z1, Rf, K, n, z) Q := by
          rw [b154_101, kk_79 H, h16]
          simp only [wr_id, wr_b2i, wr_wr, b2i_eq0, b2i_eq1, b2i_01, sm_rem_eq, sm_div_eq, wl_m2, wl_m1, wl_0, wl_1, wl_2, wl_3, wl_4, wl_5, wl_6, wl_7, wl_8, wl_9, wl_10, wl_12, wl_13, wl_14, wl_16, wl_20, wl_21, wl_22, wl_23, wl_32, wl_36, wl_40, wl_41, wl_42, wl_43, wl_44, wl_45, wl_46, wl_47, wl_48, wl_57, wl_59, wl_60, wl_61, wl_62, wl_65, wl_90, wl_97, wl_99, wl_100, wl_121, wl_122, wl_140, wl_142, wl_143, wl_145, wl_147, wl_160, wl_161, wl_162, wl_242, wl_380, wl_400, wl_420, wl_820, wl_1340, wl_5480, wl_9999, true_and, and_true, true_or, or_true, if_true, if_false, and_self, or_self, false_and, and_false, false_or, or_false, not_true_eq_false, not_false_eq_true, Int.reduceEq, Int.reduceLT, Int.reduceLE, Int.reduceToNat, Int.reduceAdd, Int.reduceMul, Int.reduceSub, Int.reduceMod, Int.reduceDiv, Int.reduceNeg, Nat.reduceEqDiff, sm_rd_ok, sm_rd_ok2, sm_wt_ok, sm_cp_ok, Option.isSome_some, Option.getD_some, w_cont, Option.toList_some, Option.toList_none, List.cons_append, List.nil_append]
          rw [wr_id (by omega) (by omega)]
          by_cases q1 : tkS T len s1 = 160
          · rw [if_pos q1, b154_111, show o + 10 = 17 by omega]
          · rw [if_neg q1, b154_116, kk_79 H, h16]
            simp only [wr_id, wr_b2i, wr_wr, b2i_eq0, b2i_eq1, b2i_01, sm_rem_eq, sm_div_eq, wl_m2, wl_m1, wl_0, wl_1, wl_2, wl_3, wl_4, wl_5, wl_6, wl_7, wl_8, wl_9, wl_10, wl_12, wl_13, wl_14, wl_16, wl_20, wl_21, wl_22, wl_23, wl_32, wl_36, wl_40, wl_41, wl_42, wl_43, wl_44, wl_45, wl_46, wl_47, wl_48, wl_57, wl_59, wl_60, wl_61, wl_62, wl_65, wl_90, wl_97, wl_99, wl_100, wl_121, wl_122, wl_140, wl_142, wl_143, wl_145, wl_147, wl_160, wl_161, wl_162, wl_242, wl_380, wl_400, wl_420, wl_820, wl_1340, wl_5480, wl_9999, true_and, and_true, true_or, or_true, if_true, if_false, and_self, or_self, false_and, and_false, false_or, or_false, not_true_eq_false, not_false_eq_true, Int.reduceEq, Int.reduceLT, Int.reduceLE, Int.reduceToNat, Int.reduceAdd, Int.reduceMul, Int.reduceSub, Int.reduceMod, Int.reduceDiv, Int.reduceNeg, Nat.reduceEqDiff, sm_rd_ok, sm_rd_ok2, sm_wt_ok, sm_cp_ok, Option.isSome_some, Option.getD_some, w_cont, Option.toList_some, Option.toList_none, List.cons_append, List.nil_append]
            rw [wr_id (by omega) (by omega)]
            by_cases q2 : tkS T len s1 = 161
            · rw [if_pos q2, b154_126, show o + 10 = 18 by omega]
            · rw [if_neg q2, b154_131, kk_79 H, h16]
              simp only [wr_id, wr_b2i, wr_wr, b2i_eq0, b2i_eq1, b2i_01, sm_rem_eq, sm_div_eq, wl_m2, wl_m1, wl_0, wl_1, wl_2, wl_3, wl_4, wl_5, wl_6, wl_7, wl_8, wl_9, wl_10, wl_12, wl_13, wl_14, wl_16, wl_20, wl_21, wl_22, wl_23, wl_32, wl_36, wl_40, wl_41, wl_42, wl_43, wl_44, wl_45, wl_46, wl_47, wl_48, wl_57, wl_59, wl_60, wl_61, wl_62, wl_65, wl_90, wl_97, wl_99, wl_100, wl_121, wl_122, wl_140, wl_142, wl_143, wl_145, wl_147, wl_160, wl_161, wl_162, wl_242, wl_380, wl_400, wl_420, wl_820, wl_1340, wl_5480, wl_9999, true_and, and_true, true_or, or_true, if_true, if_false, and_self, or_self, false_and, and_false, false_or, or_false, not_true_eq_false, not_false_eq_true, Int.reduceEq, Int.reduceLT, Int.reduceLE, Int.reduceToNat, Int.reduceAdd, Int.reduceMul, Int.reduceSub, Int.reduceMod, Int.reduceDiv, Int.reduceNeg, Nat.reduceEqDiff, sm_rd_ok, sm_rd_ok2, sm_wt_ok, sm_cp_ok, Option.isSome_some, Option.getD_some, w_cont, Option.toList_some, Option.toList_none, List.cons_append, List.nil_append]
              rw [wr_id (by omega) (by omega), if_pos (by omega), b154_141, show o + 10 = 19 by omega]
        rw [run, b154_96, if_neg (by decide), mid, b154_147, wr_id (by omega) (by omega), if_neg (by omega), b154_159, kk_79 H]
        simp only [wr_id, wr_b2i, wr_wr, b2i_eq0, b2i_eq1, b2i_01, sm_rem_eq, sm_div_eq, wl_m2, wl_m1, wl_0, wl_1, wl_2, wl_3, wl_4, wl_5, wl_6, wl_7, wl_8, wl_9, wl_10, wl_12, wl_13, wl_14, wl_16, wl_20, wl_21, wl_22, wl_23, wl_32, wl_36, wl_40, wl_41, wl_42, wl_43, wl_44, wl_45, wl_46, wl_47, wl_48, wl_57, wl_59, wl_60, wl_61, wl_62, wl_65, wl_90, wl_97, wl_99, wl_100, wl_121, wl_122, wl_140, wl_142, wl_143, wl_145, wl_147, wl_160, wl_161, wl_162, wl_242, wl_380, wl_400, wl_420, wl_820, wl_1340, wl_5480, wl_9999, true_and, and_true, true_or, or_true, if_true, if_false, and_self, or_self, false_and, and_false, false_or, or_false, not_true_eq_false, not_false_eq_true, Int.reduceEq, Int.reduceLT, Int.reduceLE, Int.reduceToNat, Int.reduceAdd, Int.reduceMul, Int.reduceSub, Int.reduceMod, Int.reduceDiv, Int.reduceNeg, Nat.reduceEqDiff, sm_rd_ok, sm_rd_ok2, sm_wt_ok, sm_cp_ok, Option.isSome_some, Option.getD_some, w_cont, Option.toList_some, Option.toList_none, List.cons_append, List.nil_append]
        refine (b3 _).trans ?_
        rw [w_cont]
        simp only [wr_id, wr_b2i, wr_wr, b2i_eq0, b2i_eq1, b2i_01, sm_rem_eq, sm_div_eq, wl_m2, wl_m1, wl_0, wl_1, wl_2, wl_3, wl_4, wl_5, wl_6, wl_7, wl_8, wl_9, wl_10, wl_12, wl_13, wl_14, wl_16, wl_20, wl_21, wl_22, wl_23, wl_32, wl_36, wl_40, wl_41, wl_42, wl_43, wl_44, wl_45, wl_46, wl_47, wl_48, wl_57, wl_59, wl_60, wl_61, wl_62, wl_65, wl_90, wl_97, wl_99, wl_100, wl_121, wl_122, wl_140, wl_142, wl_143, wl_145, wl_147, wl_160, wl_161, wl_162, wl_242, wl_380, wl_400, wl_420, wl_820, wl_1340, wl_5480, wl_9999, true_and, and_true, true_or, or_true, if_true, if_false, and_self, or_self, false_and, and_false, false_or, or_false, not_true_eq_false, not_false_eq_true, Int.reduceEq, Int.reduceLT, Int.reduceLE, Int.reduceToNat, Int.reduceAdd, Int.reduceMul, Int.reduceSub, Int.reduceMod, Int.reduceDiv, Int.reduceNeg, Nat.reduceEqDiff, sm_rd_ok, sm_rd_ok2, sm_wt_ok, sm_cp_ok, Option.isSome_some, Option.getD_some, w_cont, Option.toList_some, Option.toList_none, List.cons_append, List.nil_append]
        rw [b154_163, kk_79 H]
        simp only [wr_id, wr_b2i, wr_wr, b2i_eq0, b2i_eq1, b2i_01, sm_rem_eq, sm_div_eq, wl_m2, wl_m1, wl_0, wl_1, wl_2, wl_3, wl_4, wl_5, wl_6, wl_7, wl_8, wl_9, wl_10, wl_12, wl_13, wl_14, wl_16, wl_20, wl_21, wl_22, wl_23, wl_32, wl_36, wl_40, wl_41, wl_42, wl_43, wl_44, wl_45, wl_46, wl_47, wl_48, wl_57, wl_59, wl_60, wl_61, wl_62, wl_65, wl_90, wl_97, wl_99, wl_100, wl_121, wl_122, wl_140, wl_142, wl_143, wl_145, wl_147, wl_160, wl_161, wl_162, wl_242, wl_380, wl_400, wl_420, wl_820, wl_1340, wl_5480, wl_9999, true_and, and_true, true_or, or_true, if_true, if_false, and_self, or_self, false_and, and_false, false_or, or_false, not_true_eq_false, not_false_eq_true, Int.reduceEq, Int.reduceLT, Int.reduceLE, Int.reduceToNat, Int.reduceAdd, Int.reduceMul, Int.reduceSub, Int.reduceMod, Int.reduceDiv, Int.reduceNeg, Nat.reduceEqDiff, sm_rd_ok, sm_rd_ok2, sm_wt_ok, sm_cp_ok, Option.isSome_some, Option.getD_some, w_cont, Option.toList_some, Option.toList_none, List.cons_append, List.nil_append]
        refine (k2 _).trans ?_
        rw [w_cont]
        rfl
      cases r3 with
      | false =>
        refine ⟨Z3, false, outc_fail (frP_trans c1 b2) (rch_trans g1 hr1) k1, fun Q => ?_⟩
        rw [run2, b154_167, if_pos (by decide), b154_170]
        simp only [wr_id, wr_b2i, wr_wr, b2i_eq0, b2i_eq1, b2i_01, sm_rem_eq, sm_div_eq, wl_m2, wl_m1, wl_0, wl_1, wl_2, wl_3, wl_4, wl_5, wl_6, wl_7, wl_8, wl_9, wl_10, wl_12, wl_13, wl_14, wl_16, wl_20, wl_21, wl_22, wl_23, wl_32, wl_36, wl_40, wl_41, wl_42, wl_43, wl_44, wl_45, wl_46, wl_47, wl_48, wl_57, wl_59, wl_60, wl_61, wl_62, wl_65, wl_90, wl_97, wl_99, wl_100, wl_121, wl_122, wl_140, wl_142, wl_143, wl_145, wl_147, wl_160, wl_161, wl_162, wl_242, wl_380, wl_400, wl_420, wl_820, wl_1340, wl_5480, wl_9999, true_and, and_true, true_or, or_true, if_true, if_false, and_self, or_self, false_and, and_false, false_or, or_false, not_true_eq_false, not_false_eq_true, Int.reduceEq, Int.reduceLT, Int.reduceLE, Int.reduceToNat, Int.reduceAdd, Int.reduceMul, Int.reduceSub, Int.reduceMod, Int.reduceDiv, Int.reduceNeg, Nat.reduceEqDiff, sm_rd_ok, sm_rd_ok2, sm_wt_ok, sm_cp_ok, Option.isSome_some, Option.getD_some, w_cont, Option.toList_some, Option.toList_none, List.cons_append, List.nil_append]
        rfl
      | true =>
        obtain ⟨t1, t2, _⟩ := k1
        obtain ⟨s3, new2, cc2, v1, v2, v3, v4, ops2, rc2, ⟨v5, v5'⟩, v6, v7, v8, v9⟩ := t2 rfl
        rw [v6] at v1
        have hlen2 : ops2.length + rc2.length = new2.length + (ops.length + rc1.length) := by
          have := congrArg List.length v7
          simpa using this
        obtain ⟨Z4, q1, q2, q3⟩ := m_lay1 (d := d + 10) (n := n) (z := z) H v4 (by rw [List.length_append, List.length_append]; omega) (o + 10) 0
        refine ⟨Z4, true, outc_pre (a := (o + 10, 0) :: (new2 ++ new)) (s1 := s3) (c1 := (rc2, (ops2 ++ [o]) ++ pd, 5, ln, tn, (Dn : Int) + cn3 (ops2 ++ [o]), br, 1)) (Z1 := Z4) (G1 := fun s' new' c' => s' = s3 ∧ new' = [] ∧ c' = (rc2, (ops2 ++ [o]) ++ pd, 5, ln, tn, (Dn : Int) + cn3 (ops2 ++ [o]), br, 1)) (frP_trans c1 (frP_trans b2 (frP_trans t1 q2))) ?_ (by simp; omega) (outc_end v3 (by rw [List.cons_append, List.append_assoc]; exact q1) ⟨rfl, rfl, rfl⟩) ?_, fun Q => ?_⟩
        · have : cn3 (ops2 ++ [o]) = 0 := cn3_0 (lo := 4) (by decide) _ (sn_stg (by decide) v5 (by omega))
          rw [this, Int.add_zero, List.append_assoc]
          exact rch_trans g1 (rch_trans hr1 v1)
        · rintro s' new' c' ⟨e1, e2, e3⟩
          rw [e1, e2, e3]
          refine ⟨ops2 ++ [o], rc2, 5, 1, ⟨sn_stg (by decide) v5 (by omega), by simp; omega⟩, rfl, ?_, ?_, trivial, Or.inr ⟨rfl, rfl, v9⟩⟩
          · rw [List.nil_append, List.map_cons, List.map_append, hcO, List.reverse_append, List.append_assoc, v7, g7]
            simp
          · rw [List.nil_append]
            intro tt htt
            refine ⟨false :: false :: tt, tyV_app _ _ _ _ _ (g8 tt (by omega)) (v8 (false :: tt) (by simp; omega)), ?_⟩
            right; right; right; right
            refine ⟨false, tt, true, rfl, rfl, Or.inr (Or.inl ⟨?_, rfl, rfl⟩)⟩
            show o + 10 = 17 ∨ o + 10 = 18 ∨ o + 10 = 19
            omega
        · rw [run2, b154_167, if_neg (by decide), b154_172, kk_79 H]
          simp only [wr_id, wr_b2i, wr_wr, b2i_eq0, b2i_eq1, b2i_01, sm_rem_eq, sm_div_eq, wl_m2, wl_m1, wl_0, wl_1, wl_2, wl_3, wl_4, wl_5, wl_6, wl_7, wl_8, wl_9, wl_10, wl_12, wl_13, wl_14, wl_16, wl_20, wl_21, wl_22, wl_23, wl_32, wl_36, wl_40, wl_41, wl_42, wl_43, wl_44, wl_45, wl_46, wl_47, wl_48, wl_57, wl_59, wl_60, wl_61, wl_62, wl_65, wl_90, wl_97, wl_99, wl_100, wl_121, wl_122, wl_140, wl_142, wl_143, wl_145, wl_147, wl_160, wl_161, wl_162, wl_242, wl_380, wl_400, wl_420, wl_820, wl_1340, wl_5480, wl_9999, true_and, and_true, true_or, or_true, if_true, if_false, and_self, or_self, false_and, and_false, false_or, or_false, not_true_eq_false, not_false_eq_true, Int.reduceEq, Int.reduceLT, Int.reduceLE, Int.reduceToNat, Int.reduceAdd, Int.reduceMul, Int.reduceSub, Int.reduceMod, Int.reduceDiv, Int.reduceNeg, Nat.reduceEqDiff, sm_rd_ok, sm_rd_ok2, sm_wt_ok, sm_cp_ok, Option.isSome_some, Option.getD_some, w_cont, Option.toList_some, Option.toList_none, List.cons_append, List.nil_append]
          refine (q3 _).trans ?_
          rw [w_cont]
          simp only [wr_id, wr_b2i, wr_wr, b2i_eq0, b2i_eq1, b2i_01, sm_rem_eq, sm_div_eq, wl_m2, wl_m1, wl_0, wl_1, wl_2, wl_3, wl_4, wl_5, wl_6, wl_7, wl_8, wl_9, wl_10, wl_12, wl_13, wl_14, wl_16, wl_20, wl_21, wl_22, wl_23, wl_32, wl_36, wl_40, wl_41, wl_42, wl_43, wl_44, wl_45, wl_46, wl_47, wl_48, wl_57, wl_59, wl_60, wl_61, wl_62, wl_65, wl_90, wl_97, wl_99, wl_100, wl_121, wl_122, wl_140, wl_142, wl_143, wl_145, wl_147, wl_160, wl_161, wl_162, wl_242, wl_380, wl_400, wl_420, wl_820, wl_1340, wl_5480, wl_9999, true_and, and_true, true_or, or_true, if_true, if_false, and_self, or_self, false_and, and_false, false_or, or_false, not_true_eq_false, not_false_eq_true, Int.reduceEq, Int.reduceLT, Int.reduceLE, Int.reduceToNat, Int.reduceAdd, Int.reduceMul, Int.reduceSub, Int.reduceMod, Int.reduceDiv, Int.reduceNeg, Nat.reduceEqDiff, sm_rd_ok, sm_rd_ok2, sm_wt_ok, sm_cp_ok, Option.isSome_some, Option.getD_some, w_cont, Option.toList_some, Option.toList_none, List.cons_append, List.nil_append]
          rw [b154_178]
          simp only [wr_id, wr_b2i, wr_wr, b2i_eq0, b2i_eq1, b2i_01, sm_rem_eq, sm_div_eq, wl_m2, wl_m1, wl_0, wl_1, wl_2, wl_3, wl_4, wl_5, wl_6, wl_7, wl_8, wl_9, wl_10, wl_12, wl_13, wl_14, wl_16, wl_20, wl_21, wl_22, wl_23, wl_32, wl_36, wl_40, wl_41, wl_42, wl_43, wl_44, wl_45, wl_46, wl_47, wl_48, wl_57, wl_59, wl_60, wl_61, wl_62, wl_65, wl_90, wl_97, wl_99, wl_100, wl_121, wl_122, wl_140, wl_142, wl_143, wl_145, wl_147, wl_160, wl_161, wl_162, wl_242, wl_380, wl_400, wl_420, wl_820, wl_1340, wl_5480, wl_9999, true_and, and_true, true_or, or_true, if_true, if_false, and_self, or_self, false_and, and_false, false_or, or_false, not_true_eq_false, not_false_eq_true, Int.reduceEq, Int.reduceLT, Int.reduceLE, Int.reduceToNat, Int.reduceAdd, Int.reduceMul, Int.reduceSub, Int.reduceMod, Int.reduceDiv, Int.reduceNeg, Nat.reduceEqDiff, sm_rd_ok, sm_rd_ok2, sm_wt_ok, sm_cp_ok, Option.isSome_some, Option.getD_some, w_cont, Option.toList_some, Option.toList_none, List.cons_append, List.nil_append]
          rfl
    · rw [if_neg hr, if_pos trivial] at e
      obtain ⟨Z2, y1, y2, y3⟩ := m_bad1 (d := d + 10) (n := n) (z := z) H g4 1
      refine ⟨Z2, false, outc_fail c1 g1 (outc_bad (D := (Dn : Int)) (ms := ms) (G := fun _ _ _ => True) y2 (by decide) (flt_step (fun g => (show ¬ (5 : Int) = 0 by decide) g.2) (by decide) (by rw [e])) y1), fun Q => ?_⟩
      rw [run, b154_96, if_neg (by decide), b154_101, kk_79 H, h16]
      simp only [wr_id, wr_b2i, wr_wr, b2i_eq0, b2i_eq1, b2i_01, sm_rem_eq, sm_div_eq, wl_m2, wl_m1, wl_0, wl_1, wl_2, wl_3, wl_4, wl_5, wl_6, wl_7, wl_8, wl_9, wl_10, wl_12, wl_13, wl_14, wl_16, wl_20, wl_21, wl_22, wl_23, wl_32, wl_36, wl_40, wl_41, wl_42, wl_43, wl_44, wl_45, wl_46, wl_47, wl_48, wl_57, wl_59, wl_60, wl_61, wl_62, wl_65, wl_90, wl_97, wl_99, wl_100, wl_121, wl_122, wl_140, wl_142, wl_143, wl_145, wl_147, wl_160, wl_161, wl_162, wl_242, wl_380, wl_400, wl_420, wl_820, wl_1340, wl_5480, wl_9999, true_and, and_true, true_or, or_true, if_true, if_false, and_self, or_self, false_and, and_false, false_or, or_false, not_true_eq_false, not_false_eq_true, Int.reduceEq, Int.reduceLT, Int.reduceLE, Int.reduceToNat, Int.reduceAdd, Int.reduceMul, Int.reduceSub, Int.reduceMod, Int.reduceDiv, Int.reduceNeg, Nat.reduceEqDiff, sm_rd_ok, sm_rd_ok2, sm_wt_ok, sm_cp_ok, Option.isSome_some, Option.getD_some, w_cont, Option.toList_some, Option.toList_none, List.cons_append, List.nil_append]
      rw [wr_id (by omega) (by omega), if_neg (by omega), b154_116, kk_79 H, h16]
      simp only [wr_id, wr_b2i, wr_wr, b2i_eq0, b2i_eq1, b2i_01, sm_rem_eq, sm_div_eq, wl_m2, wl_m1, wl_0, wl_1, wl_2, wl_3, wl_4, wl_5, wl_6, wl_7, wl_8, wl_9, wl_10, wl_12, wl_13, wl_14, wl_16, wl_20, wl_21, wl_22, wl_23, wl_32, wl_36, wl_40, wl_41, wl_42, wl_43, wl_44, wl_45, wl_46, wl_47, wl_48, wl_57, wl_59, wl_60, wl_61, wl_62, wl_65, wl_90, wl_97, wl_99, wl_100, wl_121, wl_122, wl_140, wl_142, wl_143, wl_145, wl_147, wl_160, wl_161, wl_162, wl_242, wl_380, wl_400, wl_420, wl_820, wl_1340, wl_5480, wl_9999, true_and, and_true, true_or, or_true, if_true, if_false, and_self, or_self, false_and, and_false, false_or, or_false, not_true_eq_false, not_false_eq_true, Int.reduceEq, Int.reduceLT, Int.reduceLE, Int.reduceToNat, Int.reduceAdd, Int.reduceMul, Int.reduceSub, Int.reduceMod, Int.reduceDiv, Int.reduceNeg, Nat.reduceEqDiff, sm_rd_ok, sm_rd_ok2, sm_wt_ok, sm_cp_ok, Option.isSome_some, Option.getD_some, w_cont, Option.toList_some, Option.toList_none, List.cons_append, List.nil_append]
      rw [wr_id (by omega) (by omega), if_neg (by omega), b154_131, kk_79 H, h16]
      simp only [wr_id, wr_b2i, wr_wr, b2i_eq0, b2i_eq1, b2i_01, sm_rem_eq, sm_div_eq, wl_m2, wl_m1, wl_0, wl_1, wl_2, wl_3, wl_4, wl_5, wl_6, wl_7, wl_8, wl_9, wl_10, wl_12, wl_13, wl_14, wl_16, wl_20, wl_21, wl_22, wl_23, wl_32, wl_36, wl_40, wl_41, wl_42, wl_43, wl_44, wl_45, wl_46, wl_47, wl_48, wl_57, wl_59, wl_60, wl_61, wl_62, wl_65, wl_90, wl_97, wl_99, wl_100, wl_121, wl_122, wl_140, wl_142, wl_143, wl_145, wl_147, wl_160, wl_161, wl_162, wl_242, wl_380, wl_400, wl_420, wl_820, wl_1340, wl_5480, wl_9999, true_and, and_true, true_or, or_true, if_true, if_false, and_self, or_self, false_and, and_false, false_or, or_false, not_true_eq_false, not_false_eq_true, Int.reduceEq, Int.reduceLT, Int.reduceLE, Int.reduceToNat, Int.reduceAdd, Int.reduceMul, Int.reduceSub, Int.reduceMod, Int.reduceDiv, Int.reduceNeg, Nat.reduceEqDiff, sm_rd_ok, sm_rd_ok2, sm_wt_ok, sm_cp_ok, Option.isSome_some, Option.getD_some, w_cont, Option.toList_some, Option.toList_none, List.cons_append, List.nil_append]
      rw [wr_id (by omega) (by omega), if_neg (by omega), b154_146, b154_147, if_pos (by decide), b154_153, kk_79 H]
      simp only [wr_id, wr_b2i, wr_wr, b2i_eq0, b2i_eq1, b2i_01, sm_rem_eq, sm_div_eq, wl_m2, wl_m1, wl_0, wl_1, wl_2, wl_3, wl_4, wl_5, wl_6, wl_7, wl_8, wl_9, wl_10, wl_12, wl_13, wl_14, wl_16, wl_20, wl_21, wl_22, wl_23, wl_32, wl_36, wl_40, wl_41, wl_42, wl_43, wl_44, wl_45, wl_46, wl_47, wl_48, wl_57, wl_59, wl_60, wl_61, wl_62, wl_65, wl_90, wl_97, wl_99, wl_100, wl_121, wl_122, wl_140, wl_142, wl_143, wl_145, wl_147, wl_160, wl_161, wl_162, wl_242, wl_380, wl_400, wl_420, wl_820, wl_1340, wl_5480, wl_9999, true_and, and_true, true_or, or_true, if_true, if_false, and_self, or_self, false_and, and_false, false_or, or_false, not_true_eq_false, not_false_eq_true, Int.reduceEq, Int.reduceLT, Int.reduceLE, Int.reduceToNat, Int.reduceAdd, Int.reduceMul, Int.reduceSub, Int.reduceMod, Int.reduceDiv, Int.reduceNeg, Nat.reduceEqDiff, sm_rd_ok, sm_rd_ok2, sm_wt_ok, sm_cp_ok, Option.isSome_some, Option.getD_some, w_cont, Option.toList_some, Option.toList_none, List.cons_append, List.nil_append]
      refine (y3 _).trans ?_
      rw [w_cont]
      simp only [wr_id, wr_b2i, wr_wr, b2i_eq0, b2i_eq1, b2i_01, sm_rem_eq, sm_div_eq, wl_m2, wl_m1, wl_0, wl_1, wl_2, wl_3, wl_4, wl_5, wl_6, wl_7, wl_8, wl_9, wl_10, wl_12, wl_13, wl_14, wl_16, wl_20, wl_21, wl_22, wl_23, wl_32, wl_36, wl_40, wl_41, wl_42, wl_43, wl_44, wl_45, wl_46, wl_47, wl_48, wl_57, wl_59, wl_60, wl_61, wl_62, wl_65, wl_90, wl_97, wl_99, wl_100, wl_121, wl_122, wl_140, wl_142, wl_143, wl_145, wl_147, wl_160, wl_161, wl_162, wl_242, wl_380, wl_400, wl_420, wl_820, wl_1340, wl_5480, wl_9999, true_and, and_true, true_or, or_true, if_true, if_false, and_self, or_self, false_and, and_false, false_or, or_false, not_true_eq_false, not_false_eq_true, Int.reduceEq, Int.reduceLT, Int.reduceLE, Int.reduceToNat, Int.reduceAdd, Int.reduceMul, Int.reduceSub, Int.reduceMod, Int.reduceDiv, Int.reduceNeg, Nat.reduceEqDiff, sm_rd_ok, sm_rd_ok2, sm_wt_ok, sm_cp_ok, Option.isSome_some, Option.getD_some, w_cont, Option.toList_some, Option.toList_none, List.cons_append, List.nil_append]
      rw [b154_158]
      simp only [wr_id, wr_b2i, wr_wr, b2i_eq0, b2i_eq1, b2i_01, sm_rem_eq, sm_div_eq, wl_m2, wl_m1, wl_0, wl_1, wl_2, wl_3, wl_4, wl_5, wl_6, wl_7, wl_8, wl_9, wl_10, wl_12, wl_13, wl_14, wl_16, wl_20, wl_21, wl_22, wl_23, wl_32, wl_36, wl_40, wl_41, wl_42, wl_43, wl_44, wl_45, wl_46, wl_47, wl_48, wl_57, wl_59, wl_60, wl_61, wl_62, wl_65, wl_90, wl_97, wl_99, wl_100, wl_121, wl_122, wl_140, wl_142, wl_143, wl_145, wl_147, wl_160, wl_161, wl_162, wl_242, wl_380, wl_400, wl_420, wl_820, wl_1340, wl_5480, wl_9999, true_and, and_true, true_or, or_true, if_true, if_false, and_self, or_self, false_and, and_false, false_or, or_false, not_true_eq_false, not_false_eq_true, Int.reduceEq, Int.reduceLT, Int.reduceLE, Int.reduceToNat, Int.reduceAdd, Int.reduceMul, Int.reduceSub, Int.reduceMod, Int.reduceDiv, Int.reduceNeg, Nat.reduceEqDiff, sm_rd_ok, sm_rd_ok2, sm_wt_ok, sm_cp_ok, Option.isSome_some, Option.getD_some, w_cont, Option.toList_some, Option.toList_none, List.cons_append, List.nil_append]
      rfl
theorem m_one (H : sm_sh Rf K) {Dn d : Nat} (hD : Dn ≤ 8) (hsub : Dn < 8 → okT Rf K n z T len 154 3 11 (3 * (Dn + 1) + 2) (12 + 2 * (Dn + 1)) 4 nt0 (Dn + 1) (d + 10) ∧ okT Rf K n z T len 152 1 13 (3 * (Dn + 1)) (10 + 2 * (Dn + 1)) 1 (nt2 T len) (Dn + 1) (d + 10)) : okT Rf K n z T len 154 3 11 (3 * Dn + 2) (12 + 2 * Dn) 4 nt0 Dn (d + 11) := by
  intro s ms Z rc pd ln tn br rt hp hs hms hbr hcap hpd hd
  have h4 := hp.2.1.2.2.2
  have h16 := hp.2.2.1.2.1
  have ht0 := tkS_0 (len := len) (s := s) hp.2.1.2.1
  have e := rdS_st (t := tkS T len s) (v := vlS T len s) (rc := rc) (pd := pd) (st := 2) (ln := ln) (tn := tn) (op := (Dn : Int)) (br := br) (rt := rt) (by omega)
  rw [if_neg (by decide), if_neg (by decide), if_pos rfl] at e
  simp only [tkCond] at e
  have bad : ∀ (b : Nat), (∀ Q, sm_call (d + 11) 154 [.inr (some 79)] (Z, Rf, K, n, z) Q = sm_wp (d + 11) 154 b [some (.inr (some 79)), none] [] (Z, Rf, K, n, z) Q) → (∀ Q, sm_wp (d + 11) 154 b [some (.inr (some 79)), none] [] (Z, Rf, K, n, z) Q = sm_call (d + 10) 148 [.inr (some 79)] (Z, Rf, K, n, z) (sm_cont (d + 11) 154 (b + 4) [some (.inr (some 79)), none] [] Q)) → (∀ Z' Q, sm_wp (d + 11) 154 (b + 4) [some (.inr (some 79)), none] [.inl 0] (Z', Rf, K, n, z) Q = Q (some (.inl 0)) (Z', Rf, K, n, z)) → Dn = 8 → (rdS (tkS T len s) (vlS T len s) (rc, pd, 2, ln, tn, (Dn : Int), br, rt)).1 = 3 → ∃ Z' r, outc T len Z Z' s ms (Dn : Int) (rc, pd, 2, ln, tn, (Dn : Int), br, rt) (GB 3 11 rc pd Dn ln tn br (tyB (12 + 2 * Dn)) T len nt0) r ∧ ∀ Q, sm_call (d + 11) 154 [.inr (some 79)] (Z, Rf, K, n, z) Q = Q (some (.inl (b2i r))) (Z', Rf, K, n, z) := by
    intro b f1 f2 f3 hD8 he
    obtain ⟨Z1, a1, a2, a3⟩ := m_opens8 (d := d + 2) (n := n) (z := z) H hp (by omega)
    refine ⟨Z1, false, outc_bad a2 (by decide) (flt_step (fun g => (show ¬ (2 : Int) = 0 by decide) g.2) (by decide) he) a1, fun Q => ?_⟩
    rw [f1, f2]
    refine (a3 _).trans ?_
    rw [w_cont]
    exact f3 Z1 Q
  by_cases h6 : tkS T len s = 6
  · rw [if_pos h6] at e
    have r0 : ∀ Q, sm_call (d + 11) 154 [.inr (some 79)] (Z, Rf, K, n, z) Q = sm_wp (d + 11) 154 9 [some (.inr (some 79)), none] [] (Z, Rf, K, n, z) Q := by
      intro Q
      rw [ce154, b154_0, kk_79 H, h16, h6]
      simp only [wr_id, wr_b2i, wr_wr, b2i_eq0, b2i_eq1, b2i_01, sm_rem_eq, sm_div_eq, wl_m2, wl_m1, wl_0, wl_1, wl_2, wl_3, wl_4, wl_5, wl_6, wl_7, wl_8, wl_9, wl_10, wl_12, wl_13, wl_14, wl_16, wl_20, wl_21, wl_22, wl_23, wl_32, wl_36, wl_40, wl_41, wl_42, wl_43, wl_44, wl_45, wl_46, wl_47, wl_48, wl_57, wl_59, wl_60, wl_61, wl_62, wl_65, wl_90, wl_97, wl_99, wl_100, wl_121, wl_122, wl_140, wl_142, wl_143, wl_145, wl_147, wl_160, wl_161, wl_162, wl_242, wl_380, wl_400, wl_420, wl_820, wl_1340, wl_5480, wl_9999, true_and, and_true, true_or, or_true, if_true, if_false, and_self, or_self, false_and, and_false, false_or, or_false, not_true_eq_false, not_false_eq_true, Int.reduceEq, Int.reduceLT, Int.reduceLE, Int.reduceToNat, Int.reduceAdd, Int.reduceMul, Int.reduceSub, Int.reduceMod, Int.reduceDiv, Int.reduceNeg, Nat.reduceEqDiff, sm_rd_ok, sm_rd_ok2, sm_wt_ok, sm_cp_ok, Option.isSome_some, Option.getD_some, w_cont, Option.toList_some, Option.toList_none, List.cons_append, List.nil_append]
    by_cases hD8 : Dn = 8
    · rw [if_neg (by omega)] at e
      refine bad 9 r0 (fun Q => ?_) (fun Z' Q => ?_) hD8 (by rw [e])
      · rw [b154_9, kk_79 H]
        simp only [wr_id, wr_b2i, wr_wr, b2i_eq0, b2i_eq1, b2i_01, sm_rem_eq, sm_div_eq, wl_m2, wl_m1, wl_0, wl_1, wl_2, wl_3, wl_4, wl_5, wl_6, wl_7, wl_8, wl_9, wl_10, wl_12, wl_13, wl_14, wl_16, wl_20, wl_21, wl_22, wl_23, wl_32, wl_36, wl_40, wl_41, wl_42, wl_43, wl_44, wl_45, wl_46, wl_47, wl_48, wl_57, wl_59, wl_60, wl_61, wl_62, wl_65, wl_90, wl_97, wl_99, wl_100, wl_121, wl_122, wl_140, wl_142, wl_143, wl_145, wl_147, wl_160, wl_161, wl_162, wl_242, wl_380, wl_400, wl_420, wl_820, wl_1340, wl_5480, wl_9999, true_and, and_true, true_or, or_true, if_true, if_false, and_self, or_self, false_and, and_false, false_or, or_false, not_true_eq_false, not_false_eq_true, Int.reduceEq, Int.reduceLT, Int.reduceLE, Int.reduceToNat, Int.reduceAdd, Int.reduceMul, Int.reduceSub, Int.reduceMod, Int.reduceDiv, Int.reduceNeg, Nat.reduceEqDiff, sm_rd_ok, sm_rd_ok2, sm_wt_ok, sm_cp_ok, Option.isSome_some, Option.getD_some, w_cont, Option.toList_some, Option.toList_none, List.cons_append, List.nil_append]
      · rw [b154_13, if_pos (by decide), b154_23]
        simp only [wr_id, wr_b2i, wr_wr, b2i_eq0, b2i_eq1, b2i_01, sm_rem_eq, sm_div_eq, wl_m2, wl_m1, wl_0, wl_1, wl_2, wl_3, wl_4, wl_5, wl_6, wl_7, wl_8, wl_9, wl_10, wl_12, wl_13, wl_14, wl_16, wl_20, wl_21, wl_22, wl_23, wl_32, wl_36, wl_40, wl_41, wl_42, wl_43, wl_44, wl_45, wl_46, wl_47, wl_48, wl_57, wl_59, wl_60, wl_61, wl_62, wl_65, wl_90, wl_97, wl_99, wl_100, wl_121, wl_122, wl_140, wl_142, wl_143, wl_145, wl_147, wl_160, wl_161, wl_162, wl_242, wl_380, wl_400, wl_420, wl_820, wl_1340, wl_5480, wl_9999, true_and, and_true, true_or, or_true, if_true, if_false, and_self, or_self, false_and, and_false, false_or, or_false, not_true_eq_false, not_false_eq_true, Int.reduceEq, Int.reduceLT, Int.reduceLE, Int.reduceToNat, Int.reduceAdd, Int.reduceMul, Int.reduceSub, Int.reduceMod, Int.reduceDiv, Int.reduceNeg, Nat.reduceEqDiff, sm_rd_ok, sm_rd_ok2, sm_wt_ok, sm_cp_ok, Option.isSome_some, Option.getD_some, w_cont, Option.toList_some, Option.toList_none, List.cons_append, List.nil_append]
    · rw [if_pos (by omega)] at e
      have hlt := lt_tk hp (by omega)
      have hns := nsS_bd (T := T) hlt
      have hr1 := rch_step hlt (by omega) e
      obtain ⟨s1, hs1⟩ : ∃ s1, s1 = nsS T len s := ⟨_, rfl⟩
      obtain ⟨Z1, a1, a2, a3⟩ := m_opens (d := d + 2) (n := n) (z := z) H hp hlt (by omega)
      rw [← hs1] at a1 hns hr1
      have hc1 : ((Dn + 1 : Nat) : Int) = (Dn : Int) + 1 := by omega
      rw [← hc1] at a1 hr1
      obtain ⟨Z2, r2, b1, b2⟩ := (hsub (by omega)).1 s1 ms Z1 rc (3 :: pd) ln tn br rt a1 hns.2 (by omega) hbr (by simp; omega) (by simp; omega) (Or.inr ⟨3, pd, rfl, by decide⟩)
      have run : ∀ Q, sm_call (d + 11) 154 [.inr (some 79)] (Z, Rf, K, n, z) Q = sm_wp (d + 11) 154 20 [some (.inr (some 79)), none] [.inl (b2i r2)] (Z2, Rf, K, n, z) Q := by
        intro Q
        rw [r0, b154_9, kk_79 H]
        simp only [wr_id, wr_b2i, wr_wr, b2i_eq0, b2i_eq1, b2i_01, sm_rem_eq, sm_div_eq, wl_m2, wl_m1, wl_0, wl_1, wl_2, wl_3, wl_4, wl_5, wl_6, wl_7, wl_8, wl_9, wl_10, wl_12, wl_13, wl_14, wl_16, wl_20, wl_21, wl_22, wl_23, wl_32, wl_36, wl_40, wl_41, wl_42, wl_43, wl_44, wl_45, wl_46, wl_47, wl_48, wl_57, wl_59, wl_60, wl_61, wl_62, wl_65, wl_90, wl_97, wl_99, wl_100, wl_121, wl_122, wl_140, wl_142, wl_143, wl_145, wl_147, wl_160, wl_161, wl_162, wl_242, wl_380, wl_400, wl_420, wl_820, wl_1340, wl_5480, wl_9999, true_and, and_true, true_or, or_true, if_true, if_false, and_self, or_self, false_and, and_false, false_or, or_false, not_true_eq_false, not_false_eq_true, Int.reduceEq, Int.reduceLT, Int.reduceLE, Int.reduceToNat, Int.reduceAdd, Int.reduceMul, Int.reduceSub, Int.reduceMod, Int.reduceDiv, Int.reduceNeg, Nat.reduceEqDiff, sm_rd_ok, sm_rd_ok2, sm_wt_ok, sm_cp_ok, Option.isSome_some, Option.getD_some, w_cont, Option.toList_some, Option.toList_none, List.cons_append, List.nil_append]
        refine (a3 _).trans ?_
        rw [w_cont]
        simp only [wr_id, wr_b2i, wr_wr, b2i_eq0, b2i_eq1, b2i_01, sm_rem_eq, sm_div_eq, wl_m2, wl_m1, wl_0, wl_1, wl_2, wl_3, wl_4, wl_5, wl_6, wl_7, wl_8, wl_9, wl_10, wl_12, wl_13, wl_14, wl_16, wl_20, wl_21, wl_22, wl_23, wl_32, wl_36, wl_40, wl_41, wl_42, wl_43, wl_44, wl_45, wl_46, wl_47, wl_48, wl_57, wl_59, wl_60, wl_61, wl_62, wl_65, wl_90, wl_97, wl_99, wl_100, wl_121, wl_122, wl_140, wl_142, wl_143, wl_145, wl_147, wl_160, wl_161, wl_162, wl_242, wl_380, wl_400, wl_420, wl_820, wl_1340, wl_5480, wl_9999, true_and, and_true, true_or, or_true, if_true, if_false, and_self, or_self, false_and, and_false, false_or, or_false, not_true_eq_false, not_false_eq_true, Int.reduceEq, Int.reduceLT, Int.reduceLE, Int.reduceToNat, Int.reduceAdd, Int.reduceMul, Int.reduceSub, Int.reduceMod, Int.reduceDiv, Int.reduceNeg, Nat.reduceEqDiff, sm_rd_ok, sm_rd_ok2, sm_wt_ok, sm_cp_ok, Option.isSome_some, Option.getD_some, w_cont, Option.toList_some, Option.toList_none, List.cons_append, List.nil_append]
        rw [b154_13, if_neg (by decide), b154_16, kk_79 H]
        simp only [wr_id, wr_b2i, wr_wr, b2i_eq0, b2i_eq1, b2i_01, sm_rem_eq, sm_div_eq, wl_m2, wl_m1, wl_0, wl_1, wl_2, wl_3, wl_4, wl_5, wl_6, wl_7, wl_8, wl_9, wl_10, wl_12, wl_13, wl_14, wl_16, wl_20, wl_21, wl_22, wl_23, wl_32, wl_36, wl_40, wl_41, wl_42, wl_43, wl_44, wl_45, wl_46, wl_47, wl_48, wl_57, wl_59, wl_60, wl_61, wl_62, wl_65, wl_90, wl_97, wl_99, wl_100, wl_121, wl_122, wl_140, wl_142, wl_143, wl_145, wl_147, wl_160, wl_161, wl_162, wl_242, wl_380, wl_400, wl_420, wl_820, wl_1340, wl_5480, wl_9999, true_and, and_true, true_or, or_true, if_true, if_false, and_self, or_self, false_and, and_false, false_or, or_false, not_true_eq_false, not_false_eq_true, Int.reduceEq, Int.reduceLT, Int.reduceLE, Int.reduceToNat, Int.reduceAdd, Int.reduceMul, Int.reduceSub, Int.reduceMod, Int.reduceDiv, Int.reduceNeg, Nat.reduceEqDiff, sm_rd_ok, sm_rd_ok2, sm_wt_ok, sm_cp_ok, Option.isSome_some, Option.getD_some, w_cont, Option.toList_some, Option.toList_none, List.cons_append, List.nil_append]
        refine (b2 _).trans ?_
        rw [w_cont]
        rfl
      cases r2 with
      | false =>
        refine ⟨Z2, false, outc_fail a2 hr1 b1, fun Q => ?_⟩
        rw [run, b154_20, if_pos (by decide), b154_23]
        simp only [wr_id, wr_b2i, wr_wr, b2i_eq0, b2i_eq1, b2i_01, sm_rem_eq, sm_div_eq, wl_m2, wl_m1, wl_0, wl_1, wl_2, wl_3, wl_4, wl_5, wl_6, wl_7, wl_8, wl_9, wl_10, wl_12, wl_13, wl_14, wl_16, wl_20, wl_21, wl_22, wl_23, wl_32, wl_36, wl_40, wl_41, wl_42, wl_43, wl_44, wl_45, wl_46, wl_47, wl_48, wl_57, wl_59, wl_60, wl_61, wl_62, wl_65, wl_90, wl_97, wl_99, wl_100, wl_121, wl_122, wl_140, wl_142, wl_143, wl_145, wl_147, wl_160, wl_161, wl_162, wl_242, wl_380, wl_400, wl_420, wl_820, wl_1340, wl_5480, wl_9999, true_and, and_true, true_or, or_true, if_true, if_false, and_self, or_self, false_and, and_false, false_or, or_false, not_true_eq_false, not_false_eq_true, Int.reduceEq, Int.reduceLT, Int.reduceLE, Int.reduceToNat, Int.reduceAdd, Int.reduceMul, Int.reduceSub, Int.reduceMod, Int.reduceDiv, Int.reduceNeg, Nat.reduceEqDiff, sm_rd_ok, sm_rd_ok2, sm_wt_ok, sm_cp_ok, Option.isSome_some, Option.getD_some, w_cont, Option.toList_some, Option.toList_none, List.cons_append, List.nil_append]
        rfl
      | true =>
        obtain ⟨c1, c2, _⟩ := b1
        obtain ⟨s2, new, cc, g1, g2, g3, g4, ops', rc', st', rt', ⟨g5, g5'⟩, g6, g7, g8, g9, g10⟩ := c2 rfl
        rw [g6] at g1
        obtain ⟨Z3, q1, q2, q3⟩ := m_lay1 (d := d + 10) (n := n) (z := z) H (pM_D (Dn : Int) g4) (by rw [List.length_append]; omega) 20 0
        have hcn : ((Dn + 1 : Nat) : Int) + cn3 ops' = (Dn : Int) + cn3 (ops' ++ [3]) := by
          rw [cn3_app, show cn3 [3] = 1 by decide]
          omega
        have hg : rch T len s1 (rc, 3 :: pd, 2, ln, tn, ((Dn + 1 : Nat) : Int), br, rt) s2 (rc', (ops' ++ [3]) ++ pd, st', ln, tn, (Dn : Int) + cn3 (ops' ++ [3]), br, rt') := by
          rw [List.append_assoc, ← hcn]
          exact g1
        refine ⟨Z3, true, outc_pre (a := (20, 0) :: new) (s1 := s2) (Z1 := Z3) (G1 := fun s' new' c' => s' = s2 ∧ new' = [] ∧ c' = (rc', (ops' ++ [3]) ++ pd, st', ln, tn, (Dn : Int) + cn3 (ops' ++ [3]), br, rt')) (frP_trans a2 (frP_trans c1 (frP_trans (frP_D _) q2))) (rch_trans hr1 hg) (by simp; omega) (outc_end g3 q1 ⟨rfl, rfl, rfl⟩) ?_, fun Q => ?_⟩
        · rintro s' new' c' ⟨e1, e2, e3⟩
          rw [e1, e2, e3]
          refine ⟨ops' ++ [3], rc', st', rt', ⟨sn_stg (by decide) g5 (by decide), by simp; omega⟩, rfl, ?_, ?_, trivial, g10⟩
          · rw [List.nil_append, List.map_cons, List.reverse_append, List.append_assoc, g7, show cO (20, 0) = 3 by decide]
            simp
          · rw [List.nil_append]
            intro tt htt
            refine ⟨true :: tt, g8 tt (by omega), ?_⟩
            right; right; right; left
            exact ⟨rfl, ⟨tt, rfl⟩, rfl⟩
        · have h22 := g4.2.2.2.2
          rw [run, b154_20, if_neg (by decide), b154_25, kk_79 H, h22, show ((Dn + 1 : Nat) : Int) - 1 = (Dn : Int) by omega]
          simp only [wr_id, wr_b2i, wr_wr, b2i_eq0, b2i_eq1, b2i_01, sm_rem_eq, sm_div_eq, wl_m2, wl_m1, wl_0, wl_1, wl_2, wl_3, wl_4, wl_5, wl_6, wl_7, wl_8, wl_9, wl_10, wl_12, wl_13, wl_14, wl_16, wl_20, wl_21, wl_22, wl_23, wl_32, wl_36, wl_40, wl_41, wl_42, wl_43, wl_44, wl_45, wl_46, wl_47, wl_48, wl_57, wl_59, wl_60, wl_61, wl_62, wl_65, wl_90, wl_97, wl_99, wl_100, wl_121, wl_122, wl_140, wl_142, wl_143, wl_145, wl_147, wl_160, wl_161, wl_162, wl_242, wl_380, wl_400, wl_420, wl_820, wl_1340, wl_5480, wl_9999, true_and, and_true, true_or, or_true, if_true, if_false, and_self, or_self, false_and, and_false, false_or, or_false, not_true_eq_false, not_false_eq_true, Int.reduceEq, Int.reduceLT, Int.reduceLE, Int.reduceToNat, Int.reduceAdd, Int.reduceMul, Int.reduceSub, Int.reduceMod, Int.reduceDiv, Int.reduceNeg, Nat.reduceEqDiff, sm_rd_ok, sm_rd_ok2, sm_wt_ok, sm_cp_ok, Option.isSome_some, Option.getD_some, w_cont, Option.toList_some, Option.toList_none, List.cons_append, List.nil_append]
          refine (q3 _).trans ?_
          rw [w_cont]
          simp only [wr_id, wr_b2i, wr_wr, b2i_eq0, b2i_eq1, b2i_01, sm_rem_eq, sm_div_eq, wl_m2, wl_m1, wl_0, wl_1, wl_2, wl_3, wl_4, wl_5, wl_6, wl_7, wl_8, wl_9, wl_10, wl_12, wl_13, wl_14, wl_16, wl_20, wl_21, wl_22, wl_23, wl_32, wl_36, wl_40, wl_41, wl_42, wl_43, wl_44, wl_45, wl_46, wl_47, wl_48, wl_57, wl_59, wl_60, wl_61, wl_62, wl_65, wl_90, wl_97, wl_99, wl_100, wl_121, wl_122, wl_140, wl_142, wl_143, wl_145, wl_147, wl_160, wl_161, wl_162, wl_242, wl_380, wl_400, wl_420, wl_820, wl_1340, wl_5480, wl_9999, true_and, and_true, true_or, or_true, if_true, if_false, and_self, or_self, false_and, and_false, false_or, or_false, not_true_eq_false, not_false_eq_true, Int.reduceEq, Int.reduceLT, Int.reduceLE, Int.reduceToNat, Int.reduceAdd, Int.reduceMul, Int.reduceSub, Int.reduceMod, Int.reduceDiv, Int.reduceNeg, Nat.reduceEqDiff, sm_rd_ok, sm_rd_ok2, sm_wt_ok, sm_cp_ok, Option.isSome_some, Option.getD_some, w_cont, Option.toList_some, Option.toList_none, List.cons_append, List.nil_append]
          rw [b154_42]
          simp only [wr_id, wr_b2i, wr_wr, b2i_eq0, b2i_eq1, b2i_01, sm_rem_eq, sm_div_eq, wl_m2, wl_m1, wl_0, wl_1, wl_2, wl_3, wl_4, wl_5, wl_6, wl_7, wl_8, wl_9, wl_10, wl_12, wl_13, wl_14, wl_16, wl_20, wl_21, wl_22, wl_23, wl_32, wl_36, wl_40, wl_41, wl_42, wl_43, wl_44, wl_45, wl_46, wl_47, wl_48, wl_57, wl_59, wl_60, wl_61, wl_62, wl_65, wl_90, wl_97, wl_99, wl_100, wl_121, wl_122, wl_140, wl_142, wl_143, wl_145, wl_147, wl_160, wl_161, wl_162, wl_242, wl_380, wl_400, wl_420, wl_820, wl_1340, wl_5480, wl_9999, true_and, and_true, true_or, or_true, if_true, if_false, and_self, or_self, false_and, and_false, false_or, or_false, not_true_eq_false, not_false_eq_true, Int.reduceEq, Int.reduceLT, Int.reduceLE, Int.reduceToNat, Int.reduceAdd, Int.reduceMul, Int.reduceSub, Int.reduceMod, Int.reduceDiv, Int.reduceNeg, Nat.reduceEqDiff, sm_rd_ok, sm_rd_ok2, sm_wt_ok, sm_cp_ok, Option.isSome_some, Option.getD_some, w_cont, Option.toList_some, Option.toList_none, List.cons_append, List.nil_append]
          rfl
  · rw [if_neg h6] at e
    by_cases h140 : tkS T len s = 140
    · rw [if_pos h140] at e
      have r0 : ∀ Q, sm_call (d + 11) 154 [.inr (some 79)] (Z, Rf, K, n, z) Q = sm_wp (d + 11) 154 54 [some (.inr (some 79)), none] [] (Z, Rf, K, n, z) Q := by
        intro Q
        rw [ce154, b154_0, kk_79 H, h16, h140]
        simp only [wr_id, wr_b2i, wr_wr, b2i_eq0, b2i_eq1, b2i_01, sm_rem_eq, sm_div_eq, wl_m2, wl_m1, wl_0, wl_1, wl_2, wl_3, wl_4, wl_5, wl_6, wl_7, wl_8, wl_9, wl_10, wl_12, wl_13, wl_14, wl_16, wl_20, wl_21, wl_22, wl_23, wl_32, wl_36, wl_40, wl_41, wl_42, wl_43, wl_44, wl_45, wl_46, wl_47, wl_48, wl_57, wl_59, wl_60, wl_61, wl_62, wl_65, wl_90, wl_97, wl_99, wl_100, wl_121, wl_122, wl_140, wl_142, wl_143, wl_145, wl_147, wl_160, wl_161, wl_162, wl_242, wl_380, wl_400, wl_420, wl_820, wl_1340, wl_5480, wl_9999, true_and, and_true, true_or, or_true, if_true, if_false, and_self, or_self, false_and, and_false, false_or, or_false, not_true_eq_false, not_false_eq_true, Int.reduceEq, Int.reduceLT, Int.reduceLE, Int.reduceToNat, Int.reduceAdd, Int.reduceMul, Int.reduceSub, Int.reduceMod, Int.reduceDiv, Int.reduceNeg, Nat.reduceEqDiff, sm_rd_ok, sm_rd_ok2, sm_wt_ok, sm_cp_ok, Option.isSome_some, Option.getD_some, w_cont, Option.toList_some, Option.toList_none, List.cons_append, List.nil_append]
        rw [b154_44, kk_79 H, h16, h140]
        simp only [wr_id, wr_b2i, wr_wr, b2i_eq0, b2i_eq1, b2i_01, sm_rem_eq, sm_div_eq, wl_m2, wl_m1, wl_0, wl_1, wl_2, wl_3, wl_4, wl_5, wl_6, wl_7, wl_8, wl_9, wl_10, wl_12, wl_13, wl_14, wl_16, wl_20, wl_21, wl_22, wl_23, wl_32, wl_36, wl_40, wl_41, wl_42, wl_43, wl_44, wl_45, wl_46, wl_47, wl_48, wl_57, wl_59, wl_60, wl_61, wl_62, wl_65, wl_90, wl_97, wl_99, wl_100, wl_121, wl_122, wl_140, wl_142, wl_143, wl_145, wl_147, wl_160, wl_161, wl_162, wl_242, wl_380, wl_400, wl_420, wl_820, wl_1340, wl_5480, wl_9999, true_and, and_true, true_or, or_true, if_true, if_false, and_self, or_self, false_and, and_false, false_or, or_false, not_true_eq_false, not_false_eq_true, Int.reduceEq, Int.reduceLT, Int.reduceLE, Int.reduceToNat, Int.reduceAdd, Int.reduceMul, Int.reduceSub, Int.reduceMod, Int.reduceDiv, Int.reduceNeg, Nat.reduceEqDiff, sm_rd_ok, sm_rd_ok2, sm_wt_ok, sm_cp_ok, Option.isSome_some, Option.getD_some, w_cont, Option.toList_some, Option.toList_none, List.cons_append, List.nil_append]
      by_cases hD8 : Dn = 8
      · rw [if_neg (by omega)] at e
        refine bad 54 r0 (fun Q => ?_) (fun Z' Q => ?_) hD8 (by rw [e])
        · rw [b154_54, kk_79 H]
          simp only [wr_id, wr_b2i, wr_wr, b2i_eq0, b2i_eq1, b2i_01, sm_rem_eq, sm_div_eq, wl_m2, wl_m1, wl_0, wl_1, wl_2, wl_3, wl_4, wl_5, wl_6, wl_7, wl_8, wl_9, wl_10, wl_12, wl_13, wl_14, wl_16, wl_20, wl_21, wl_22, wl_23, wl_32, wl_36, wl_40, wl_41, wl_42, wl_43, wl_44, wl_45, wl_46, wl_47, wl_48, wl_57, wl_59, wl_60, wl_61, wl_62, wl_65, wl_90, wl_97, wl_99, wl_100, wl_121, wl_122, wl_140, wl_142, wl_143, wl_145, wl_147, wl_160, wl_161, wl_162, wl_242, wl_380, wl_400, wl_420, wl_820, wl_1340, wl_5480, wl_9999, true_and, and_true, true_or, or_true, if_true, if_false, and_self, or_self, false_and, and_false, false_or, or_false, not_true_eq_false, not_false_eq_true, Int.reduceEq, Int.reduceLT, Int.reduceLE, Int.reduceToNat, Int.reduceAdd, Int.reduceMul, Int.reduceSub, Int.reduceMod, Int.reduceDiv, Int.reduceNeg, Nat.reduceEqDiff, sm_rd_ok, sm_rd_ok2, sm_wt_ok, sm_cp_ok, Option.isSome_some, Option.getD_some, w_cont, Option.toList_some, Option.toList_none, List.cons_append, List.nil_append]
        · rw [b154_58, if_pos (by decide), b154_78]
          simp only [wr_id, wr_b2i, wr_wr, b2i_eq0, b2i_eq1, b2i_01, sm_rem_eq, sm_div_eq, wl_m2, wl_m1, wl_0, wl_1, wl_2, wl_3, wl_4, wl_5, wl_6, wl_7, wl_8, wl_9, wl_10, wl_12, wl_13, wl_14, wl_16, wl_20, wl_21, wl_22, wl_23, wl_32, wl_36, wl_40, wl_41, wl_42, wl_43, wl_44, wl_45, wl_46, wl_47, wl_48, wl_57, wl_59, wl_60, wl_61, wl_62, wl_65, wl_90, wl_97, wl_99, wl_100, wl_121, wl_122, wl_140, wl_142, wl_143, wl_145, wl_147, wl_160, wl_161, wl_162, wl_242, wl_380, wl_400, wl_420, wl_820, wl_1340, wl_5480, wl_9999, true_and, and_true, true_or, or_true, if_true, if_false, and_self, or_self, false_and, and_false, false_or, or_false, not_true_eq_false, not_false_eq_true, Int.reduceEq, Int.reduceLT, Int.reduceLE, Int.reduceToNat, Int.reduceAdd, Int.reduceMul, Int.reduceSub, Int.reduceMod, Int.reduceDiv, Int.reduceNeg, Nat.reduceEqDiff, sm_rd_ok, sm_rd_ok2, sm_wt_ok, sm_cp_ok, Option.isSome_some, Option.getD_some, w_cont, Option.toList_some, Option.toList_none, List.cons_append, List.nil_append]
      · rw [if_pos (by omega)] at e
        have hlt := lt_tk hp (by omega)
        have hns := nsS_bd (T := T) hlt
        have hr1 := rch_step hlt (by omega) e
        obtain ⟨s1, hs1⟩ : ∃ s1, s1 = nsS T len s := ⟨_, rfl⟩
        obtain ⟨Z1, a1, a2, a3⟩ := m_opens (d := d + 2) (n := n) (z := z) H hp hlt (by omega)
        rw [← hs1] at a1 hns hr1
        have hc1 : ((Dn + 1 : Nat) : Int) = (Dn : Int) + 1 := by omega
        rw [← hc1] at a1 hr1
        obtain ⟨Z2, r2, b1, b2⟩ := (hsub (by omega)).2 s1 ms Z1 rc (14 :: pd) ln tn (br + 1) rt a1 hns.2 (by omega) (by omega) (by simp; omega) (by simp; omega) (Or.inr ⟨14, pd, rfl, by decide⟩)
        have run : ∀ Q, sm_call (d + 11) 154 [.inr (some 79)] (Z, Rf, K, n, z) Q = sm_wp (d + 11) 154 65 [some (.inr (some 79)), none] [.inl (b2i r2)] (Z2, Rf, K, n, z) Q := by
          intro Q
          rw [r0, b154_54, kk_79 H]
          simp only [wr_id, wr_b2i, wr_wr, b2i_eq0, b2i_eq1, b2i_01, sm_rem_eq, sm_div_eq, wl_m2, wl_m1, wl_0, wl_1, wl_2, wl_3, wl_4, wl_5, wl_6, wl_7, wl_8, wl_9, wl_10, wl_12, wl_13, wl_14, wl_16, wl_20, wl_21, wl_22, wl_23, wl_32, wl_36, wl_40, wl_41, wl_42, wl_43, wl_44, wl_45, wl_46, wl_47, wl_48, wl_57, wl_59, wl_60, wl_61, wl_62, wl_65, wl_90, wl_97, wl_99, wl_100, wl_121, wl_122, wl_140, wl_142, wl_143, wl_145, wl_147, wl_160, wl_161, wl_162, wl_242, wl_380, wl_400, wl_420, wl_820, wl_1340, wl_5480, wl_9999, true_and, and_true, true_or, or_true, if_true, if_false, and_self, or_self, false_and, and_false, false_or, or_false, not_true_eq_false, not_false_eq_true, Int.reduceEq, Int.reduceLT, Int.reduceLE, Int.reduceToNat, Int.reduceAdd, Int.reduceMul, Int.reduceSub, Int.reduceMod, Int.reduceDiv, Int.reduceNeg, Nat.reduceEqDiff, sm_rd_ok, sm_rd_ok2, sm_wt_ok, sm_cp_ok, Option.isSome_some, Option.getD_some, w_cont, Option.toList_some, Option.toList_none, List.cons_append, List.nil_append]
          refine (a3 _).trans ?_
          rw [w_cont]
          simp only [wr_id, wr_b2i, wr_wr, b2i_eq0, b2i_eq1, b2i_01, sm_rem_eq, sm_div_eq, wl_m2, wl_m1, wl_0, wl_1, wl_2, wl_3, wl_4, wl_5, wl_6, wl_7, wl_8, wl_9, wl_10, wl_12, wl_13, wl_14, wl_16, wl_20, wl_21, wl_22, wl_23, wl_32, wl_36, wl_40, wl_41, wl_42, wl_43, wl_44, wl_45, wl_46, wl_47, wl_48, wl_57, wl_59, wl_60, wl_61, wl_62, wl_65, wl_90, wl_97, wl_99, wl_100, wl_121, wl_122, wl_140, wl_142, wl_143, wl_145, wl_147, wl_160, wl_161, wl_162, wl_242, wl_380, wl_400, wl_420, wl_820, wl_1340, wl_5480, wl_9999, true_and, and_true, true_or, or_true, if_true, if_false, and_self, or_self, false_and, and_false, false_or, or_false, not_true_eq_false, not_false_eq_true, Int.reduceEq, Int.reduceLT, Int.reduceLE, Int.reduceToNat, Int.reduceAdd, Int.reduceMul, Int.reduceSub, Int.reduceMod, Int.reduceDiv, Int.reduceNeg, Nat.reduceEqDiff, sm_rd_ok, sm_rd_ok2, sm_wt_ok, sm_cp_ok, Option.isSome_some, Option.getD_some, w_cont, Option.toList_some, Option.toList_none, List.cons_append, List.nil_append]
          rw [b154_58, if_neg (by decide), b154_61, kk_79 H]
          simp only [wr_id, wr_b2i, wr_wr, b2i_eq0, b2i_eq1, b2i_01, sm_rem_eq, sm_div_eq, wl_m2, wl_m1, wl_0, wl_1, wl_2, wl_3, wl_4, wl_5, wl_6, wl_7, wl_8, wl_9, wl_10, wl_12, wl_13, wl_14, wl_16, wl_20, wl_21, wl_22, wl_23, wl_32, wl_36, wl_40, wl_41, wl_42, wl_43, wl_44, wl_45, wl_46, wl_47, wl_48, wl_57, wl_59, wl_60, wl_61, wl_62, wl_65, wl_90, wl_97, wl_99, wl_100, wl_121, wl_122, wl_140, wl_142, wl_143, wl_145, wl_147, wl_160, wl_161, wl_162, wl_242, wl_380, wl_400, wl_420, wl_820, wl_1340, wl_5480, wl_9999, true_and, and_true, true_or, or_true, if_true, if_false, and_self, or_self, false_and, and_false, false_or, or_false, not_true_eq_false, not_false_eq_true, Int.reduceEq, Int.reduceLT, Int.reduceLE, Int.reduceToNat, Int.reduceAdd, Int.reduceMul, Int.reduceSub, Int.reduceMod, Int.reduceDiv, Int.reduceNeg, Nat.reduceEqDiff, sm_rd_ok, sm_rd_ok2, sm_wt_ok, sm_cp_ok, Option.isSome_some, Option.getD_some, w_cont, Option.toList_some, Option.toList_none, List.cons_append, List.nil_append]
          refine (b2 _).trans ?_
          rw [w_cont]
          rfl
        cases r2 with
        | false =>
          refine ⟨Z2, false, outc_fail a2 hr1 b1, fun Q => ?_⟩
          rw [run, b154_65, if_pos (by decide), b154_78]
          simp only [wr_id, wr_b2i, wr_wr, b2i_eq0, b2i_eq1, b2i_01, sm_rem_eq, sm_div_eq, wl_m2, wl_m1, wl_0, wl_1, wl_2, wl_3, wl_4, wl_5, wl_6, wl_7, wl_8, wl_9, wl_10, wl_12, wl_13, wl_14, wl_16, wl_20, wl_21, wl_22, wl_23, wl_32, wl_36, wl_40, wl_41, wl_42, wl_43, wl_44, wl_45, wl_46, wl_47, wl_48, wl_57, wl_59, wl_60, wl_61, wl_62, wl_65, wl_90, wl_97, wl_99, wl_100, wl_121, wl_122, wl_140, wl_142, wl_143, wl_145, wl_147, wl_160, wl_161, wl_162, wl_242, wl_380, wl_400, wl_420, wl_820, wl_1340, wl_5480, wl_9999, true_and, and_true, true_or, or_true, if_true, if_false, and_self, or_self, false_and, and_false, false_or, or_false, not_true_eq_false, not_false_eq_true, Int.reduceEq, Int.reduceLT, Int.reduceLE, Int.reduceToNat, Int.reduceAdd, Int.reduceMul, Int.reduceSub, Int.reduceMod, Int.reduceDiv, Int.reduceNeg, Nat.reduceEqDiff, sm_rd_ok, sm_rd_ok2, sm_wt_ok, sm_cp_ok, Option.isSome_some, Option.getD_some, w_cont, Option.toList_some, Option.toList_none, List.cons_append, List.nil_append]
          rfl
        | true =>
          obtain ⟨c1, c2, _⟩ := b1
          obtain ⟨s2, new, cc, g1, g2, g3, g4, ops', rc', st', rt', ⟨g5, g5'⟩, g6, g7, g8, ⟨⟨_, g9⟩, g9'⟩, g10⟩ := c2 rfl
          rw [g6] at g1
          have hlen : ops'.length + rc'.length = new.length + rc.length := by
            have := congrArg List.length g7
            simpa using this
          obtain ⟨Z3, q1, q2, q3, q4⟩ := m_need (d := d + 2) (n := n) (z := z) H g4 (w := 141) (by decide)
          have e2 := aft_rdS (v := vlS T len s2) (rc := rc') (pd := ops' ++ 14 :: pd) (ln := ln) (tn := tn) (op := ((Dn + 1 : Nat) : Int) + cn3 ops') (br := br + 1) g10 (by simp; omega)
          have eS := stl_ops (s := 1) (pd := 14 :: pd) (Or.inr ⟨14, pd, rfl, by decide⟩) ops' rc' (((Dn + 1 : Nat) : Int) + cn3 ops') g5
          rw [show ((Dn + 1 : Nat) : Int) + cn3 ops' - cn3 ops' = ((Dn + 1 : Nat) : Int) by omega] at eS
          simp only [tkAC] at e2
          rw [if_neg g9', if_neg g9] at e2
          by_cases h141 : tkS T len s2 = 141
          · have p3 := q2 h141
            have hlt2 := lt_tk g4 (by omega)
            have hns2 := nsS_bd (T := T) hlt2
            rw [if_pos ⟨h141, by omega⟩] at e2
            simp only [eS] at e2
            rw [if_neg (by intro g; cases g)] at e2
            have hr2 := rch_step hlt2 (by omega) e2
            rw [List.tail_cons, show ((Dn + 1 : Nat) : Int) - 1 = (Dn : Int) by omega, show br + 1 - 1 = br by omega] at hr2
            refine ⟨sm_u Z3 79 22 (Dn : Int), true, outc_pre (a := new) (s1 := nsS T len s2) (Z1 := sm_u Z3 79 22 (Dn : Int)) (G1 := fun s' new' c' => s' = nsS T len s2 ∧ new' = [] ∧ c' = (ops'.reverse ++ rc', pd, 6, ln, tn, (Dn : Int), br, rt')) (frP_trans a2 (frP_trans c1 (frP_trans q1 (frP_D _)))) (rch_trans hr1 (rch_trans g1 hr2)) (by omega) (outc_end hns2.2 (pM_D (Dn : Int) p3) ⟨rfl, rfl, rfl⟩) ?_, fun Q => ?_⟩
            · rintro s' new' c' ⟨e1, e2, e3⟩
              rw [e1, e2, e3]
              refine ⟨[], ops'.reverse ++ rc', 6, rt', ⟨(by intro k hk; cases hk), (by simp; omega)⟩, ?_, ?_, ?_, trivial, Or.inl rfl⟩
              · show _ = (ops'.reverse ++ rc', pd, 6, ln, tn, (Dn : Int) + 0, br, rt')
                rw [Int.add_zero]
              · rw [List.nil_append, ← g7]
                rfl
              · rw [List.nil_append]
                intro tt htt
                exact g8 tt (by omega)
            · have h22 := p3.2.2.2.2
              rw [run, b154_65, if_neg (by decide), b154_68, kk_79 H]
              simp only [wr_id, wr_b2i, wr_wr, b2i_eq0, b2i_eq1, b2i_01, sm_rem_eq, sm_div_eq, wl_m2, wl_m1, wl_0, wl_1, wl_2, wl_3, wl_4, wl_5, wl_6, wl_7, wl_8, wl_9, wl_10, wl_12, wl_13, wl_14, wl_16, wl_20, wl_21, wl_22, wl_23, wl_32, wl_36, wl_40, wl_41, wl_42, wl_43, wl_44, wl_45, wl_46, wl_47, wl_48, wl_57, wl_59, wl_60, wl_61, wl_62, wl_65, wl_90, wl_97, wl_99, wl_100, wl_121, wl_122, wl_140, wl_142, wl_143, wl_145, wl_147, wl_160, wl_161, wl_162, wl_242, wl_380, wl_400, wl_420, wl_820, wl_1340, wl_5480, wl_9999, true_and, and_true, true_or, or_true, if_true, if_false, and_self, or_self, false_and, and_false, false_or, or_false, not_true_eq_false, not_false_eq_true, Int.reduceEq, Int.reduceLT, Int.reduceLE, Int.reduceToNat, Int.reduceAdd, Int.reduceMul, Int.reduceSub, Int.reduceMod, Int.reduceDiv, Int.reduceNeg, Nat.reduceEqDiff, sm_rd_ok, sm_rd_ok2, sm_wt_ok, sm_cp_ok, Option.isSome_some, Option.getD_some, w_cont, Option.toList_some, Option.toList_none, List.cons_append, List.nil_append]
              refine (q4 _).trans ?_
              rw [w_cont]
              simp only [wr_id, wr_b2i, wr_wr, b2i_eq0, b2i_eq1, b2i_01, sm_rem_eq, sm_div_eq, wl_m2, wl_m1, wl_0, wl_1, wl_2, wl_3, wl_4, wl_5, wl_6, wl_7, wl_8, wl_9, wl_10, wl_12, wl_13, wl_14, wl_16, wl_20, wl_21, wl_22, wl_23, wl_32, wl_36, wl_40, wl_41, wl_42, wl_43, wl_44, wl_45, wl_46, wl_47, wl_48, wl_57, wl_59, wl_60, wl_61, wl_62, wl_65, wl_90, wl_97, wl_99, wl_100, wl_121, wl_122, wl_140, wl_142, wl_143, wl_145, wl_147, wl_160, wl_161, wl_162, wl_242, wl_380, wl_400, wl_420, wl_820, wl_1340, wl_5480, wl_9999, true_and, and_true, true_or, or_true, if_true, if_false, and_self, or_self, false_and, and_false, false_or, or_false, not_true_eq_false, not_false_eq_true, Int.reduceEq, Int.reduceLT, Int.reduceLE, Int.reduceToNat, Int.reduceAdd, Int.reduceMul, Int.reduceSub, Int.reduceMod, Int.reduceDiv, Int.reduceNeg, Nat.reduceEqDiff, sm_rd_ok, sm_rd_ok2, sm_wt_ok, sm_cp_ok, Option.isSome_some, Option.getD_some, w_cont, Option.toList_some, Option.toList_none, List.cons_append, List.nil_append]
              rw [b154_75, decide_eq_true h141, if_neg (by decide), b154_80, kk_79 H, h22, show ((Dn + 1 : Nat) : Int) - 1 = (Dn : Int) by omega]
              simp only [wr_id, wr_b2i, wr_wr, b2i_eq0, b2i_eq1, b2i_01, sm_rem_eq, sm_div_eq, wl_m2, wl_m1, wl_0, wl_1, wl_2, wl_3, wl_4, wl_5, wl_6, wl_7, wl_8, wl_9, wl_10, wl_12, wl_13, wl_14, wl_16, wl_20, wl_21, wl_22, wl_23, wl_32, wl_36, wl_40, wl_41, wl_42, wl_43, wl_44, wl_45, wl_46, wl_47, wl_48, wl_57, wl_59, wl_60, wl_61, wl_62, wl_65, wl_90, wl_97, wl_99, wl_100, wl_121, wl_122, wl_140, wl_142, wl_143, wl_145, wl_147, wl_160, wl_161, wl_162, wl_242, wl_380, wl_400, wl_420, wl_820, wl_1340, wl_5480, wl_9999, true_and, and_true, true_or, or_true, if_true, if_false, and_self, or_self, false_and, and_false, false_or, or_false, not_true_eq_false, not_false_eq_true, Int.reduceEq, Int.reduceLT, Int.reduceLE, Int.reduceToNat, Int.reduceAdd, Int.reduceMul, Int.reduceSub, Int.reduceMod, Int.reduceDiv, Int.reduceNeg, Nat.reduceEqDiff, sm_rd_ok, sm_rd_ok2, sm_wt_ok, sm_cp_ok, Option.isSome_some, Option.getD_some, w_cont, Option.toList_some, Option.toList_none, List.cons_append, List.nil_append]
              rfl
          · rw [if_neg (fun g => h141 g.1), if_neg (fun g => by omega)] at e2
            have hst : ¬ st' = 0 := by
              rcases g10 with h | h
              · omega
              · have := h.1; omega
            refine ⟨Z3, false, outc_fail (frP_trans a2 c1) (rch_trans hr1 g1) (outc_bad (D := (Dn : Int)) (ms := ms) (G := fun _ _ _ => True) q1 (by decide) (flt_step (fun g => hst g.2) (by decide) (by rw [e2])) (q3 h141)), fun Q => ?_⟩
            rw [run, b154_65, if_neg (by decide), b154_68, kk_79 H]
            simp only [wr_id, wr_b2i, wr_wr, b2i_eq0, b2i_eq1, b2i_01, sm_rem_eq, sm_div_eq, wl_m2, wl_m1, wl_0, wl_1, wl_2, wl_3, wl_4, wl_5, wl_6, wl_7, wl_8, wl_9, wl_10, wl_12, wl_13, wl_14, wl_16, wl_20, wl_21, wl_22, wl_23, wl_32, wl_36, wl_40, wl_41, wl_42, wl_43, wl_44, wl_45, wl_46, wl_47, wl_48, wl_57, wl_59, wl_60, wl_61, wl_62, wl_65, wl_90, wl_97, wl_99, wl_100, wl_121, wl_122, wl_140, wl_142, wl_143, wl_145, wl_147, wl_160, wl_161, wl_162, wl_242, wl_380, wl_400, wl_420, wl_820, wl_1340, wl_5480, wl_9999, true_and, and_true, true_or, or_true, if_true, if_false, and_self, or_self, false_and, and_false, false_or, or_false, not_true_eq_false, not_false_eq_true, Int.reduceEq, Int.reduceLT, Int.reduceLE, Int.reduceToNat, Int.reduceAdd, Int.reduceMul, Int.reduceSub, Int.reduceMod, Int.reduceDiv, Int.reduceNeg, Nat.reduceEqDiff, sm_rd_ok, sm_rd_ok2, sm_wt_ok, sm_cp_ok, Option.isSome_some, Option.getD_some, w_cont, Option.toList_some, Option.toList_none, List.cons_append, List.nil_append]
            refine (q4 _).trans ?_
            rw [w_cont]
            simp only [wr_id, wr_b2i, wr_wr, b2i_eq0, b2i_eq1, b2i_01, sm_rem_eq, sm_div_eq, wl_m2, wl_m1, wl_0, wl_1, wl_2, wl_3, wl_4, wl_5, wl_6, wl_7, wl_8, wl_9, wl_10, wl_12, wl_13, wl_14, wl_16, wl_20, wl_21, wl_22, wl_23, wl_32, wl_36, wl_40, wl_41, wl_42, wl_43, wl_44, wl_45, wl_46, wl_47, wl_48, wl_57, wl_59, wl_60, wl_61, wl_62, wl_65, wl_90, wl_97, wl_99, wl_100, wl_121, wl_122, wl_140, wl_142, wl_143, wl_145, wl_147, wl_160, wl_161, wl_162, wl_242, wl_380, wl_400, wl_420, wl_820, wl_1340, wl_5480, wl_9999, true_and, and_true, true_or, or_true, if_true, if_false, and_self, or_self, false_and, and_false, false_or, or_false, not_true_eq_false, not_false_eq_true, Int.reduceEq, Int.reduceLT, Int.reduceLE, Int.reduceToNat, Int.reduceAdd, Int.reduceMul, Int.reduceSub, Int.reduceMod, Int.reduceDiv, Int.reduceNeg, Nat.reduceEqDiff, sm_rd_ok, sm_rd_ok2, sm_wt_ok, sm_cp_ok, Option.isSome_some, Option.getD_some, w_cont, Option.toList_some, Option.toList_none, List.cons_append, List.nil_append]
            rw [b154_75, decide_eq_false h141, if_pos (by decide), b154_78]
            simp only [wr_id, wr_b2i, wr_wr, b2i_eq0, b2i_eq1, b2i_01, sm_rem_eq, sm_div_eq, wl_m2, wl_m1, wl_0, wl_1, wl_2, wl_3, wl_4, wl_5, wl_6, wl_7, wl_8, wl_9, wl_10, wl_12, wl_13, wl_14, wl_16, wl_20, wl_21, wl_22, wl_23, wl_32, wl_36, wl_40, wl_41, wl_42, wl_43, wl_44, wl_45, wl_46, wl_47, wl_48, wl_57, wl_59, wl_60, wl_61, wl_62, wl_65, wl_90, wl_97, wl_99, wl_100, wl_121, wl_122, wl_140, wl_142, wl_143, wl_145, wl_147, wl_160, wl_161, wl_162, wl_242, wl_380, wl_400, wl_420, wl_820, wl_1340, wl_5480, wl_9999, true_and, and_true, true_or, or_true, if_true, if_false, and_self, or_self, false_and, and_false, false_or, or_false, not_true_eq_false, not_false_eq_true, Int.reduceEq, Int.reduceLT, Int.reduceLE, Int.reduceToNat, Int.reduceAdd, Int.reduceMul, Int.reduceSub, Int.reduceMod, Int.reduceDiv, Int.reduceNeg, Nat.reduceEqDiff, sm_rd_ok, sm_rd_ok2, sm_wt_ok, sm_cp_ok, Option.isSome_some, Option.getD_some, w_cont, Option.toList_some, Option.toList_none, List.cons_append, List.nil_append]
            rfl
    · obtain ⟨Z1, r1, a1, a2⟩ := m_cmp (d := d) (n := n) (z := z) (ln := ln) (tn := tn) (br := br) (rt := rt) H hD hp hs hms hcap hpd hd h6 h140 none
      refine ⟨Z1, r1, a1, fun Q => ?_⟩
      rw [ce154, b154_0, kk_79 H, h16]
      simp only [wr_id, wr_b2i, wr_wr, b2i_eq0, b2i_eq1, b2i_01, sm_rem_eq, sm_div_eq, wl_m2, wl_m1, wl_0, wl_1, wl_2, wl_3, wl_4, wl_5, wl_6, wl_7, wl_8, wl_9, wl_10, wl_12, wl_13, wl_14, wl_16, wl_20, wl_21, wl_22, wl_23, wl_32, wl_36, wl_40, wl_41, wl_42, wl_43, wl_44, wl_45, wl_46, wl_47, wl_48, wl_57, wl_59, wl_60, wl_61, wl_62, wl_65, wl_90, wl_97, wl_99, wl_100, wl_121, wl_122, wl_140, wl_142, wl_143, wl_145, wl_147, wl_160, wl_161, wl_162, wl_242, wl_380, wl_400, wl_420, wl_820, wl_1340, wl_5480, wl_9999, true_and, and_true, true_or, or_true, if_true, if_false, and_self, or_self, false_and, and_false, false_or, or_false, not_true_eq_false, not_false_eq_true, Int.reduceEq, Int.reduceLT, Int.reduceLE, Int.reduceToNat, Int.reduceAdd, Int.reduceMul, Int.reduceSub, Int.reduceMod, Int.reduceDiv, Int.reduceNeg, Nat.reduceEqDiff, sm_rd_ok, sm_rd_ok2, sm_wt_ok, sm_cp_ok, Option.isSome_some, Option.getD_some, w_cont, Option.toList_some, Option.toList_none, List.cons_append, List.nil_append]
      rw [wr_id (by omega) (by omega), if_neg h6, b154_44, kk_79 H, h16]
      simp only [wr_id, wr_b2i, wr_wr, b2i_eq0, b2i_eq1, b2i_01, sm_rem_eq, sm_div_eq, wl_m2, wl_m1, wl_0, wl_1, wl_2, wl_3, wl_4, wl_5, wl_6, wl_7, wl_8, wl_9, wl_10, wl_12, wl_13, wl_14, wl_16, wl_20, wl_21, wl_22, wl_23, wl_32, wl_36, wl_40, wl_41, wl_42, wl_43, wl_44, wl_45, wl_46, wl_47, wl_48, wl_57, wl_59, wl_60, wl_61, wl_62, wl_65, wl_90, wl_97, wl_99, wl_100, wl_121, wl_122, wl_140, wl_142, wl_143, wl_145, wl_147, wl_160, wl_161, wl_162, wl_242, wl_380, wl_400, wl_420, wl_820, wl_1340, wl_5480, wl_9999, true_and, and_true, true_or, or_true, if_true, if_false, and_self, or_self, false_and, and_false, false_or, or_false, not_true_eq_false, not_false_eq_true, Int.reduceEq, Int.reduceLT, Int.reduceLE, Int.reduceToNat, Int.reduceAdd, Int.reduceMul, Int.reduceSub, Int.reduceMod, Int.reduceDiv, Int.reduceNeg, Nat.reduceEqDiff, sm_rd_ok, sm_rd_ok2, sm_wt_ok, sm_cp_ok, Option.isSome_some, Option.getD_some, w_cont, Option.toList_some, Option.toList_none, List.cons_append, List.nil_append]
      rw [wr_id (by omega) (by omega), if_neg h140]
      exact a2 Q
theorem m_knot (H : sm_sh Rf K) : ∀ (g Dn d : Nat), g + Dn = 8 → okT Rf K n z T len 154 3 11 (3 * Dn + 2) (12 + 2 * Dn) 4 nt0 Dn (d + 11 + 3 * g) ∧ okT Rf K n z T len 152 1 13 (3 * Dn) (10 + 2 * Dn) 1 (nt2 T len) Dn (d + 13 + 3 * g) := by
  intro g
  induction g with
  | zero =>
    intro Dn d hg
    have h1 : ∀ d, okT Rf K n z T len 154 3 11 (3 * Dn + 2) (12 + 2 * Dn) 4 nt0 Dn (d + 11) := fun d => m_one H (by omega) (fun h => by omega)
    exact ⟨h1 d, m_A152 (dd := d + 5) H (by omega) (m_A153 (dd := d + 4) H (by omega) (h1 d))⟩
  | succ g ih =>
    intro Dn d hg
    have h1 : ∀ d, okT Rf K n z T len 154 3 11 (3 * Dn + 2) (12 + 2 * Dn) 4 nt0 Dn (d + 11 + 3 * (g + 1)) := by
      intro d
      have i1 := (ih (Dn + 1) (d + 2) (by omega)).1
      have i2 := (ih (Dn + 1) d (by omega)).2
      have := m_one (n := n) (z := z) (d := d + 3 + 3 * g) H (show Dn ≤ 8 by omega) (fun _ => ⟨by rw [show d + 3 + 3 * g + 10 = d + 2 + 11 + 3 * g by omega]; exact i1, by rw [show d + 3 + 3 * g + 10 = d + 13 + 3 * g by omega]; exact i2⟩)
      rw [show d + 11 + 3 * (g + 1) = d + 3 + 3 * g + 11 by omega]
      exact this
    refine ⟨h1 d, ?_⟩
    have j1 := h1 d
    rw [show d + 11 + 3 * (g + 1) = (d + 7 + 3 * g) + 7 by omega] at j1
    have j2 := m_A153 (n := n) (z := z) H (by omega) j1
    have j3 := m_A152 (n := n) (z := z) (dd := d + 7 + 3 * g + 1) H (by omega) j2
    rw [show d + 13 + 3 * (g + 1) = d + 7 + 3 * g + 1 + 8 by omega]
    exact j3
end ONET
