/-! Tests. -/
/-- a test is over, what comes is no part of it -/
def aft (T : Nat → Int) (len s : Nat) (st rt : Int) : Prop := st = 6 ∨ (st = 5 ∧ rt = 1 ∧ n5 T len s)
theorem aft_rdS {T : Nat → Int} {len s : Nat} {st rt v ln tn op br : Int} {rc pd : List Int} (h : aft T len s st rt) (hb : rc.length + pd.length < 400 ∧ pd.length < 40) : rdS (tkS T len s) v (rc, pd, st, ln, tn, op, br, rt) = tkAC (tkS T len s) (rc, pd, st, ln, tn, op, br, rt) := by
  rw [rdS_st hb]
  rcases h with h | ⟨h1, h2, ⟨h3, h4⟩, h5, h6⟩
  · rw [if_neg (by omega), if_neg (by omega), if_neg (by omega), if_neg (by omega), if_neg (by omega), if_neg (by omega)]
  · rw [if_neg (by omega), if_neg (by omega), if_neg (by omega), if_neg (by omega), if_neg (by omega), if_pos h1]
    simp only [tkAU]
    rw [if_neg h3, if_neg h4, if_neg h5, if_neg h6]
    by_cases h7 : 160 ≤ tkS T len s ∧ tkS T len s ≤ 162
    · rw [if_pos h7, if_neg (by omega)]
      simp only [tkAC]
      rw [if_neg (by omega), if_neg (by omega), if_neg (by omega), if_neg (by omega)]
    · rw [if_neg h7, if_neg (by omega)]
theorem cn3_app : ∀ (a b : List Int), cn3 (a ++ b) = cn3 a + cn3 b := by
  intro a
  induction a with
  | nil => intro b; show cn3 b = 0 + cn3 b; omega
  | cons k a ih =>
    intro b
    show (if k = 3 then 1 else 0) + cn3 (a ++ b) = (if k = 3 then 1 else 0) + cn3 a + cn3 b
    rw [ih]
    omega
def GB (lo : Int) (L : Nat) (rc pd : List Int) (Dn : Nat) (ln tn br : Int) (TY : List (Int × Int) → Prop) (T : Nat → Int) (len : Nat) (NT : Nat → Prop) : Nat → List (Int × Int) → rdT → Prop := fun s' new c' => ∃ ops rc' st rt, ((∀ k ∈ ops, lo ≤ stg k) ∧ ops.length + Dn ≤ L) ∧ c' = (rc', ops ++ pd, st, ln, tn, (Dn : Int) + cn3 ops, br, rt) ∧ ops.reverse ++ rc' = new.map cO ++ rc ∧ TY new ∧ NT s' ∧ aft T len s' st rt
def tyB (N : Nat) (new : List (Int × Int)) : Prop := ∀ tt : List Bool, tt.length ≤ N → tyV new tt (true :: tt)
def tyC (N : Nat) (new : List (Int × Int)) : Prop := ∀ tt : List Bool, tt.length ≤ N → tyV new (true :: tt) (true :: tt)
/-- a part of a test comes out in both as it should -/
def okT (Rf : Nat → Nat → Option Nat) (K : Nat → Nat × Nat) (n z : Nat) (T : Nat → Int) (len m : Nat) (lo : Int) (L B N : Nat) (h : Int) (NT : Nat → Prop) (Dn dd : Nat) : Prop := ∀ (s : Nat) (ms : List (Int × Int)) (Z : Nat → Nat → Int) (rc pd : List Int) (ln tn br rt : Int), pM Z T len s ms (Dn : Int) → s ≤ len → ms.length ≤ s → 0 ≤ br → rc.length + pd.length + 1 ≤ s → pd.length ≤ B → hdL h pd → ∃ Z' r, outc T len Z Z' s ms (Dn : Int) (rc, pd, 2, ln, tn, (Dn : Int), br, rt) (GB lo L rc pd Dn ln tn br (tyB N) T len NT) r ∧ ∀ Q, sm_call dd m [.inr (some 79)] (Z, Rf, K, n, z) Q = Q (some (.inl (b2i r))) (Z', Rf, K, n, z)
def nt0 : Nat → Prop := fun _ => True
def nt1 (T : Nat → Int) (len : Nat) : Nat → Prop := fun s => nt0 s ∧ ¬ tkS T len s = 5
def nt2 (T : Nat → Int) (len : Nat) : Nat → Prop := fun s => nt1 T len s ∧ ¬ tkS T len s = 4
section TESTS
variable {n z : Nat} {Rf : Nat → Nat → Option Nat} {K : Nat → Nat × Nat} {T : Nat → Int} {len : Nat}
theorem m_LP153 (H : sm_sh Rf K) {Dn dd : Nat} (hD : Dn ≤ 8) (hsub : okT Rf K n z T len 154 3 11 (3 * Dn + 2) (12 + 2 * Dn) 4 nt0 Dn (dd + 7)) {pd : List Int} {ln tn br : Int} (hbr : 0 ≤ br) (hpd : pd.length ≤ 3 * Dn + 1) (hd : hdL 2 pd) : ∀ (f s : Nat) (ms : List (Int × Int)) (Z : Nat → Nat → Int) (rc ops : List Int) (st rt : Int), len < s + f → s ≤ len → nt0 s → aft T len s st rt → pM Z T len s ms (Dn : Int) → ms.length ≤ s → (∀ k ∈ ops, 2 ≤ stg k) → ops.length + Dn ≤ 12 → rc.length + ops.length + pd.length + 1 ≤ s → ∃ Z' r, outc T len Z Z' s ms (Dn : Int) (rc, ops ++ pd, st, ln, tn, (Dn : Int) + cn3 ops, br, rt) (GB 2 12 (ops.reverse ++ rc) pd Dn ln tn br (tyC (11 + 2 * Dn)) T len (nt1 T len)) r ∧ ∀ Q, sm_wp (dd + 8) 153 9 [some (.inr (some 79))] [] (Z, Rf, K, n, z) Q = Q (some (.inl (b2i r))) (Z', Rf, K, n, z) := by
  intro f
  induction f with
  | zero => intro s ms Z rc ops st rt hf hs; omega
  | succ f ih =>
    intro s ms Z rc ops st rt hf hs hn ha hp hms ho hol hcap
    have h4 := hp.2.1.2.2.2
    have h16 := hp.2.2.1.2.1
    have ht0 := tkS_0 (len := len) (s := s) hp.2.1.2.1
    have hb : rc.length + (ops ++ pd).length < 400 ∧ (ops ++ pd).length < 40 := by
      rw [List.length_append]
      omega
    have e := aft_rdS (v := vlS T len s) (ln := ln) (tn := tn) (op := (Dn : Int) + cn3 ops) (br := br) ha hb
    have eS := stl_ops hd ops rc ((Dn : Int) + cn3 ops) ho
    rw [show (Dn : Int) + cn3 ops - cn3 ops = (Dn : Int) by omega] at eS
    simp only [tkAC] at e
    by_cases h1 : tkS T len s = 5
    · have hlt : s < len := by
        rcases Nat.lt_or_ge s len with h | h
        · exact h
        · have := ht0.2.2.2 h; omega
      have hns := nsS_bd (T := T) hlt
      rw [if_neg (by omega), if_pos h1] at e
      simp only [jnT, show stg 10 = 2 by decide, eS] at e
      have hr1 := rch_step hlt (by omega) e
      obtain ⟨s1, hs1⟩ : ∃ s1, s1 = nsS T len s := ⟨_, rfl⟩
      obtain ⟨Z1, a1, a2, a3⟩ := m_nx (d := dd) (n := n) (z := z) H hp hlt
      rw [← hs1] at a1 hns hr1
      obtain ⟨Z2, r2, b1, b2⟩ := hsub s1 ms Z1 (ops.reverse ++ rc) (10 :: pd) ln tn br rt a1 hns.2 (by omega) hbr (by simp; omega) (by simp; omega) (Or.inr ⟨10, pd, rfl, by decide⟩)
      have run : ∀ Q, sm_wp (dd + 8) 153 9 [some (.inr (some 79))] [] (Z, Rf, K, n, z) Q = sm_wp (dd + 8) 153 25 [some (.inr (some 79))] [.inl (b2i r2)] (Z2, Rf, K, n, z) Q := by
        intro Q
        rw [b153_9, kk_79 H, h16, h1]
        simp only [wr_id, wr_b2i, wr_wr, b2i_eq0, b2i_eq1, b2i_01, sm_rem_eq, sm_div_eq, wl_m2, wl_m1, wl_0, wl_1, wl_2, wl_3, wl_4, wl_5, wl_6, wl_7, wl_8, wl_9, wl_10, wl_12, wl_13, wl_14, wl_16, wl_20, wl_21, wl_22, wl_23, wl_32, wl_36, wl_40, wl_41, wl_42, wl_43, wl_44, wl_45, wl_46, wl_47, wl_48, wl_57, wl_59, wl_60, wl_61, wl_62, wl_65, wl_90, wl_97, wl_99, wl_100, wl_121, wl_122, wl_140, wl_142, wl_143, wl_145, wl_147, wl_160, wl_161, wl_162, wl_242, wl_380, wl_400, wl_420, wl_820, wl_1340, wl_5480, wl_9999, true_and, and_true, true_or, or_true, if_true, if_false, and_self, or_self, false_and, and_false, false_or, or_false, not_true_eq_false, not_false_eq_true, Int.reduceEq, Int.reduceLT, Int.reduceLE, Int.reduceToNat, Int.reduceAdd, Int.reduceMul, Int.reduceSub, Int.reduceMod, Int.reduceDiv, Int.reduceNeg, Nat.reduceEqDiff, sm_rd_ok, sm_rd_ok2, sm_wt_ok, sm_cp_ok, Option.isSome_some, Option.getD_some, w_cont, Option.toList_some, Option.toList_none, List.cons_append, List.nil_append]
        rw [b153_17, kk_79 H]
        simp only [wr_id, wr_b2i, wr_wr, b2i_eq0, b2i_eq1, b2i_01, sm_rem_eq, sm_div_eq, wl_m2, wl_m1, wl_0, wl_1, wl_2, wl_3, wl_4, wl_5, wl_6, wl_7, wl_8, wl_9, wl_10, wl_12, wl_13, wl_14, wl_16, wl_20, wl_21, wl_22, wl_23, wl_32, wl_36, wl_40, wl_41, wl_42, wl_43, wl_44, wl_45, wl_46, wl_47, wl_48, wl_57, wl_59, wl_60, wl_61, wl_62, wl_65, wl_90, wl_97, wl_99, wl_100, wl_121, wl_122, wl_140, wl_142, wl_143, wl_145, wl_147, wl_160, wl_161, wl_162, wl_242, wl_380, wl_400, wl_420, wl_820, wl_1340, wl_5480, wl_9999, true_and, and_true, true_or, or_true, if_true, if_false, and_self, or_self, false_and, and_false, false_or, or_false, not_true_eq_false, not_false_eq_true, Int.reduceEq, Int.reduceLT, Int.reduceLE, Int.reduceToNat, Int.reduceAdd, Int.reduceMul, Int.reduceSub, Int.reduceMod, Int.reduceDiv, Int.reduceNeg, Nat.reduceEqDiff, sm_rd_ok, sm_rd_ok2, sm_wt_ok, sm_cp_ok, Option.isSome_some, Option.getD_some, w_cont, Option.toList_some, Option.toList_none, List.cons_append, List.nil_append]
        refine (a3 _).trans ?_
        rw [w_cont]
        simp only [wr_id, wr_b2i, wr_wr, b2i_eq0, b2i_eq1, b2i_01, sm_rem_eq, sm_div_eq, wl_m2, wl_m1, wl_0, wl_1, wl_2, wl_3, wl_4, wl_5, wl_6, wl_7, wl_8, wl_9, wl_10, wl_12, wl_13, wl_14, wl_16, wl_20, wl_21, wl_22, wl_23, wl_32, wl_36, wl_40, wl_41, wl_42, wl_43, wl_44, wl_45, wl_46, wl_47, wl_48, wl_57, wl_59, wl_60, wl_61, wl_62, wl_65, wl_90, wl_97, wl_99, wl_100, wl_121, wl_122, wl_140, wl_142, wl_143, wl_145, wl_147, wl_160, wl_161, wl_162, wl_242, wl_380, wl_400, wl_420, wl_820, wl_1340, wl_5480, wl_9999, true_and, and_true, true_or, or_true, if_true, if_false, and_self, or_self, false_and, and_false, false_or, or_false, not_true_eq_false, not_false_eq_true, Int.reduceEq, Int.reduceLT, Int.reduceLE, Int.reduceToNat, Int.reduceAdd, Int.reduceMul, Int.reduceSub, Int.reduceMod, Int.reduceDiv, Int.reduceNeg, Nat.reduceEqDiff, sm_rd_ok, sm_rd_ok2, sm_wt_ok, sm_cp_ok, Option.isSome_some, Option.getD_some, w_cont, Option.toList_some, Option.toList_none, List.cons_append, List.nil_append]
        rw [b153_21, kk_79 H]
        simp only [wr_id, wr_b2i, wr_wr, b2i_eq0, b2i_eq1, b2i_01, sm_rem_eq, sm_div_eq, wl_m2, wl_m1, wl_0, wl_1, wl_2, wl_3, wl_4, wl_5, wl_6, wl_7, wl_8, wl_9, wl_10, wl_12, wl_13, wl_14, wl_16, wl_20, wl_21, wl_22, wl_23, wl_32, wl_36, wl_40, wl_41, wl_42, wl_43, wl_44, wl_45, wl_46, wl_47, wl_48, wl_57, wl_59, wl_60, wl_61, wl_62, wl_65, wl_90, wl_97, wl_99, wl_100, wl_121, wl_122, wl_140, wl_142, wl_143, wl_145, wl_147, wl_160, wl_161, wl_162, wl_242, wl_380, wl_400, wl_420, wl_820, wl_1340, wl_5480, wl_9999, true_and, and_true, true_or, or_true, if_true, if_false, and_self, or_self, false_and, and_false, false_or, or_false, not_true_eq_false, not_false_eq_true, Int.reduceEq, Int.reduceLT, Int.reduceLE, Int.reduceToNat, Int.reduceAdd, Int.reduceMul, Int.reduceSub, Int.reduceMod, Int.reduceDiv, Int.reduceNeg, Nat.reduceEqDiff, sm_rd_ok, sm_rd_ok2, sm_wt_ok, sm_cp_ok, Option.isSome_some, Option.getD_some, w_cont, Option.toList_some, Option.toList_none, List.cons_append, List.nil_append]
        refine (b2 _).trans ?_
        rw [w_cont]
        rfl
      cases r2 with
      | false =>
        refine ⟨Z2, false, outc_fail a2 hr1 b1, fun Q => ?_⟩
        rw [run, b153_25, if_pos (by decide), b153_28]
        simp only [wr_id, wr_b2i, wr_wr, b2i_eq0, b2i_eq1, b2i_01, sm_rem_eq, sm_div_eq, wl_m2, wl_m1, wl_0, wl_1, wl_2, wl_3, wl_4, wl_5, wl_6, wl_7, wl_8, wl_9, wl_10, wl_12, wl_13, wl_14, wl_16, wl_20, wl_21, wl_22, wl_23, wl_32, wl_36, wl_40, wl_41, wl_42, wl_43, wl_44, wl_45, wl_46, wl_47, wl_48, wl_57, wl_59, wl_60, wl_61, wl_62, wl_65, wl_90, wl_97, wl_99, wl_100, wl_121, wl_122, wl_140, wl_142, wl_143, wl_145, wl_147, wl_160, wl_161, wl_162, wl_242, wl_380, wl_400, wl_420, wl_820, wl_1340, wl_5480, wl_9999, true_and, and_true, true_or, or_true, if_true, if_false, and_self, or_self, false_and, and_false, false_or, or_false, not_true_eq_false, not_false_eq_true, Int.reduceEq, Int.reduceLT, Int.reduceLE, Int.reduceToNat, Int.reduceAdd, Int.reduceMul, Int.reduceSub, Int.reduceMod, Int.reduceDiv, Int.reduceNeg, Nat.reduceEqDiff, sm_rd_ok, sm_rd_ok2, sm_wt_ok, sm_cp_ok, Option.isSome_some, Option.getD_some, w_cont, Option.toList_some, Option.toList_none, List.cons_append, List.nil_append]
        rfl
      | true =>
        obtain ⟨c1, c2, _⟩ := b1
        obtain ⟨s2, new, cc, g1, g2, g3, g4, ops', rc', st', rt', ⟨g5, g5'⟩, g6, g7, g8, g9, g10⟩ := c2 rfl
        rw [g6] at g1
        have hlen : ops'.length + rc'.length = new.length + (ops.length + rc.length) := by
          have := congrArg List.length g7
          simpa using this
        obtain ⟨Z3, q1, q2, q3⟩ := m_lay1 (d := dd + 7) (n := n) (z := z) H g4 (by rw [List.length_append]; omega) 21 0
        have hg : rch T len s1 (ops.reverse ++ rc, 10 :: pd, 2, ln, tn, (Dn : Int), br, rt) s2 (rc', (ops' ++ [10]) ++ pd, st', ln, tn, (Dn : Int) + cn3 (ops' ++ [10]), br, rt') := by
          rw [List.append_assoc, cn3_app, show cn3 [10] = 0 by decide, Int.add_zero]
          exact g1
        obtain ⟨Z4, r4, w1, w2⟩ := ih s2 ((21, 0) :: (new ++ ms)) Z3 rc' (ops' ++ [10]) st' rt' (by omega) g3 g9 g10 q1 (by simp; omega) (sn_stg (by decide) g5 (by decide)) (by simp; omega) (by simp; omega)
        refine ⟨Z4, r4, outc_pre (a := (21, 0) :: new) (frP_trans a2 (frP_trans c1 q2)) (rch_trans hr1 hg) (by simp; omega) w1 ?_, fun Q => ?_⟩
        · rintro s' new' c' ⟨ops2, rc2, st2, rt2, x1, x2, x3, x4, x5⟩
          refine ⟨ops2, rc2, st2, rt2, x1, x2, ?_, ?_, x5⟩
          · rw [x3, List.map_append, List.append_assoc, List.reverse_append, List.append_assoc, g7, List.map_cons, show cO (21, 0) = 10 by decide]
            rfl
          · intro tt htt
            refine tyV_app _ _ _ _ _ ⟨true :: true :: tt, g8 (true :: tt) (by simp; omega), ?_⟩ (x4 tt htt)
            right; right; right; right
            exact ⟨true, tt, true, rfl, rfl, Or.inr (Or.inr ⟨Or.inl rfl, rfl, rfl⟩)⟩
        · rw [run, b153_25, if_neg (by decide), b153_30, kk_79 H]
          simp only [wr_id, wr_b2i, wr_wr, b2i_eq0, b2i_eq1, b2i_01, sm_rem_eq, sm_div_eq, wl_m2, wl_m1, wl_0, wl_1, wl_2, wl_3, wl_4, wl_5, wl_6, wl_7, wl_8, wl_9, wl_10, wl_12, wl_13, wl_14, wl_16, wl_20, wl_21, wl_22, wl_23, wl_32, wl_36, wl_40, wl_41, wl_42, wl_43, wl_44, wl_45, wl_46, wl_47, wl_48, wl_57, wl_59, wl_60, wl_61, wl_62, wl_65, wl_90, wl_97, wl_99, wl_100, wl_121, wl_122, wl_140, wl_142, wl_143, wl_145, wl_147, wl_160, wl_161, wl_162, wl_242, wl_380, wl_400, wl_420, wl_820, wl_1340, wl_5480, wl_9999, true_and, and_true, true_or, or_true, if_true, if_false, and_self, or_self, false_and, and_false, false_or, or_false, not_true_eq_false, not_false_eq_true, Int.reduceEq, Int.reduceLT, Int.reduceLE, Int.reduceToNat, Int.reduceAdd, Int.reduceMul, Int.reduceSub, Int.reduceMod, Int.reduceDiv, Int.reduceNeg, Nat.reduceEqDiff, sm_rd_ok, sm_rd_ok2, sm_wt_ok, sm_cp_ok, Option.isSome_some, Option.getD_some, w_cont, Option.toList_some, Option.toList_none, List.cons_append, List.nil_append]
          refine (q3 _).trans ?_
          rw [w_cont]
          simp only [wr_id, wr_b2i, wr_wr, b2i_eq0, b2i_eq1, b2i_01, sm_rem_eq, sm_div_eq, wl_m2, wl_m1, wl_0, wl_1, wl_2, wl_3, wl_4, wl_5, wl_6, wl_7, wl_8, wl_9, wl_10, wl_12, wl_13, wl_14, wl_16, wl_20, wl_21, wl_22, wl_23, wl_32, wl_36, wl_40, wl_41, wl_42, wl_43, wl_44, wl_45, wl_46, wl_47, wl_48, wl_57, wl_59, wl_60, wl_61, wl_62, wl_65, wl_90, wl_97, wl_99, wl_100, wl_121, wl_122, wl_140, wl_142, wl_143, wl_145, wl_147, wl_160, wl_161, wl_162, wl_242, wl_380, wl_400, wl_420, wl_820, wl_1340, wl_5480, wl_9999, true_and, and_true, true_or, or_true, if_true, if_false, and_self, or_self, false_and, and_false, false_or, or_false, not_true_eq_false, not_false_eq_true, Int.reduceEq, Int.reduceLT, Int.reduceLE, Int.reduceToNat, Int.reduceAdd, Int.reduceMul, Int.reduceSub, Int.reduceMod, Int.reduceDiv, Int.reduceNeg, Nat.reduceEqDiff, sm_rd_ok, sm_rd_ok2, sm_wt_ok, sm_cp_ok, Option.isSome_some, Option.getD_some, w_cont, Option.toList_some, Option.toList_none, List.cons_append, List.nil_append]
          rw [b153_37]
          exact w2 Q
    · refine ⟨Z, true, outc_end hs hp ⟨ops, rc, st, rt, ⟨ho, hol⟩, rfl, rfl, fun tt _ => rfl, ⟨hn, h1⟩, ha⟩, fun Q => ?_⟩
      rw [b153_9, kk_79 H, h16]
      simp only [wr_id, wr_b2i, wr_wr, b2i_eq0, b2i_eq1, b2i_01, sm_rem_eq, sm_div_eq, wl_m2, wl_m1, wl_0, wl_1, wl_2, wl_3, wl_4, wl_5, wl_6, wl_7, wl_8, wl_9, wl_10, wl_12, wl_13, wl_14, wl_16, wl_20, wl_21, wl_22, wl_23, wl_32, wl_36, wl_40, wl_41, wl_42, wl_43, wl_44, wl_45, wl_46, wl_47, wl_48, wl_57, wl_59, wl_60, wl_61, wl_62, wl_65, wl_90, wl_97, wl_99, wl_100, wl_121, wl_122, wl_140, wl_142, wl_143, wl_145, wl_147, wl_160, wl_161, wl_162, wl_242, wl_380, wl_400, wl_420, wl_820, wl_1340, wl_5480, wl_9999, true_and, and_true, true_or, or_true, if_true, if_false, and_self, or_self, false_and, and_false, false_or, or_false, not_true_eq_false, not_false_eq_true, Int.reduceEq, Int.reduceLT, Int.reduceLE, Int.reduceToNat, Int.reduceAdd, Int.reduceMul, Int.reduceSub, Int.reduceMod, Int.reduceDiv, Int.reduceNeg, Nat.reduceEqDiff, sm_rd_ok, sm_rd_ok2, sm_wt_ok, sm_cp_ok, Option.isSome_some, Option.getD_some, w_cont, Option.toList_some, Option.toList_none, List.cons_append, List.nil_append]
      rw [wr_id (by omega) (by omega), if_neg h1, b153_40]
      simp only [wr_id, wr_b2i, wr_wr, b2i_eq0, b2i_eq1, b2i_01, sm_rem_eq, sm_div_eq, wl_m2, wl_m1, wl_0, wl_1, wl_2, wl_3, wl_4, wl_5, wl_6, wl_7, wl_8, wl_9, wl_10, wl_12, wl_13, wl_14, wl_16, wl_20, wl_21, wl_22, wl_23, wl_32, wl_36, wl_40, wl_41, wl_42, wl_43, wl_44, wl_45, wl_46, wl_47, wl_48, wl_57, wl_59, wl_60, wl_61, wl_62, wl_65, wl_90, wl_97, wl_99, wl_100, wl_121, wl_122, wl_140, wl_142, wl_143, wl_145, wl_147, wl_160, wl_161, wl_162, wl_242, wl_380, wl_400, wl_420, wl_820, wl_1340, wl_5480, wl_9999, true_and, and_true, true_or, or_true, if_true, if_false, and_self, or_self, false_and, and_false, false_or, or_false, not_true_eq_false, not_false_eq_true, Int.reduceEq, Int.reduceLT, Int.reduceLE, Int.reduceToNat, Int.reduceAdd, Int.reduceMul, Int.reduceSub, Int.reduceMod, Int.reduceDiv, Int.reduceNeg, Nat.reduceEqDiff, sm_rd_ok, sm_rd_ok2, sm_wt_ok, sm_cp_ok, Option.isSome_some, Option.getD_some, w_cont, Option.toList_some, Option.toList_none, List.cons_append, List.nil_append]
      rfl
theorem m_A153 (H : sm_sh Rf K) {Dn dd : Nat} (hD : Dn ≤ 8) (hsub : okT Rf K n z T len 154 3 11 (3 * Dn + 2) (12 + 2 * Dn) 4 nt0 Dn (dd + 7)) : okT Rf K n z T len 153 2 12 (3 * Dn + 1) (11 + 2 * Dn) 2 (nt1 T len) Dn (dd + 8) := by
  intro s ms Z rc pd ln tn br rt hp hs hms hbr hcap hpd hd
  have h4 := hp.2.1.2.2.2
  obtain ⟨Z1, r1, a1, a2⟩ := hsub s ms Z rc pd ln tn br rt hp hs hms hbr hcap (by omega) (hdL_mono (by decide) hd)
  have run : ∀ Q, sm_call (dd + 8) 153 [.inr (some 79)] (Z, Rf, K, n, z) Q = sm_wp (dd + 8) 153 4 [some (.inr (some 79))] [.inl (b2i r1)] (Z1, Rf, K, n, z) Q := by
    intro Q
    rw [ce153, b153_0, kk_79 H]
    simp only [wr_id, wr_b2i, wr_wr, b2i_eq0, b2i_eq1, b2i_01, sm_rem_eq, sm_div_eq, wl_m2, wl_m1, wl_0, wl_1, wl_2, wl_3, wl_4, wl_5, wl_6, wl_7, wl_8, wl_9, wl_10, wl_12, wl_13, wl_14, wl_16, wl_20, wl_21, wl_22, wl_23, wl_32, wl_36, wl_40, wl_41, wl_42, wl_43, wl_44, wl_45, wl_46, wl_47, wl_48, wl_57, wl_59, wl_60, wl_61, wl_62, wl_65, wl_90, wl_97, wl_99, wl_100, wl_121, wl_122, wl_140, wl_142, wl_143, wl_145, wl_147, wl_160, wl_161, wl_162, wl_242, wl_380, wl_400, wl_420, wl_820, wl_1340, wl_5480, wl_9999, true_and, and_true, true_or, or_true, if_true, if_false, and_self, or_self, false_and, and_false, false_or, or_false, not_true_eq_false, not_false_eq_true, Int.reduceEq, Int.reduceLT, Int.reduceLE, Int.reduceToNat, Int.reduceAdd, Int.reduceMul, Int.reduceSub, Int.reduceMod, Int.reduceDiv, Int.reduceNeg, Nat.reduceEqDiff, sm_rd_ok, sm_rd_ok2, sm_wt_ok, sm_cp_ok, Option.isSome_some, Option.getD_some, w_cont, Option.toList_some, Option.toList_none, List.cons_append, List.nil_append]
    refine (a2 _).trans ?_
    rw [w_cont]
    rfl
  cases r1 with
  | false =>
    refine ⟨Z1, false, outc_fail (frP_refl Z) rch_refl a1, fun Q => ?_⟩
    rw [run, b153_4, if_pos (by decide), b153_7]
    simp only [wr_id, wr_b2i, wr_wr, b2i_eq0, b2i_eq1, b2i_01, sm_rem_eq, sm_div_eq, wl_m2, wl_m1, wl_0, wl_1, wl_2, wl_3, wl_4, wl_5, wl_6, wl_7, wl_8, wl_9, wl_10, wl_12, wl_13, wl_14, wl_16, wl_20, wl_21, wl_22, wl_23, wl_32, wl_36, wl_40, wl_41, wl_42, wl_43, wl_44, wl_45, wl_46, wl_47, wl_48, wl_57, wl_59, wl_60, wl_61, wl_62, wl_65, wl_90, wl_97, wl_99, wl_100, wl_121, wl_122, wl_140, wl_142, wl_143, wl_145, wl_147, wl_160, wl_161, wl_162, wl_242, wl_380, wl_400, wl_420, wl_820, wl_1340, wl_5480, wl_9999, true_and, and_true, true_or, or_true, if_true, if_false, and_self, or_self, false_and, and_false, false_or, or_false, not_true_eq_false, not_false_eq_true, Int.reduceEq, Int.reduceLT, Int.reduceLE, Int.reduceToNat, Int.reduceAdd, Int.reduceMul, Int.reduceSub, Int.reduceMod, Int.reduceDiv, Int.reduceNeg, Nat.reduceEqDiff, sm_rd_ok, sm_rd_ok2, sm_wt_ok, sm_cp_ok, Option.isSome_some, Option.getD_some, w_cont, Option.toList_some, Option.toList_none, List.cons_append, List.nil_append]
    rfl
  | true =>
    obtain ⟨c1, c2, _⟩ := a1
    obtain ⟨s2, new, cc, g1, g2, g3, g4, ops', rc', st', rt', ⟨g5, g5'⟩, g6, g7, g8, g9, g10⟩ := c2 rfl
    rw [g6] at g1
    have hlen : ops'.length + rc'.length = new.length + rc.length := by
      have := congrArg List.length g7
      simpa using this
    obtain ⟨Z4, r4, w1, w2⟩ := m_LP153 (n := n) (z := z) (ln := ln) (tn := tn) H hD hsub hbr hpd hd (len + 1) s2 (new ++ ms) Z1 rc' ops' st' rt' (by omega) g3 g9 g10 g4 (by rw [List.length_append]; omega) (fun k hk => by have := g5 k hk; omega) (by omega) (by omega)
    refine ⟨Z4, r4, outc_pre (a := new) c1 g1 g2 w1 ?_, fun Q => ?_⟩
    · rintro s' new' c' ⟨ops2, rc2, st2, rt2, x1, x2, x3, x4, x5⟩
      refine ⟨ops2, rc2, st2, rt2, x1, x2, ?_, ?_, x5⟩
      · rw [x3, List.map_append, List.append_assoc, g7]
      · intro tt htt
        exact tyV_app _ _ _ _ _ (g8 tt (by omega)) (x4 tt htt)
    · rw [run, b153_4, if_neg (by decide)]
      exact w2 Q
theorem m_LP152 (H : sm_sh Rf K) {Dn dd : Nat} (hD : Dn ≤ 8) (hsub : okT Rf K n z T len 153 2 12 (3 * Dn + 1) (11 + 2 * Dn) 2 (nt1 T len) Dn (dd + 7)) {pd : List Int} {ln tn br : Int} (hbr : 0 ≤ br) (hpd : pd.length ≤ 3 * Dn) (hd : hdL 1 pd) : ∀ (f s : Nat) (ms : List (Int × Int)) (Z : Nat → Nat → Int) (rc ops : List Int) (st rt : Int), len < s + f → s ≤ len → (nt1 T len) s → aft T len s st rt → pM Z T len s ms (Dn : Int) → ms.length ≤ s → (∀ k ∈ ops, 1 ≤ stg k) → ops.length + Dn ≤ 13 → rc.length + ops.length + pd.length + 1 ≤ s → ∃ Z' r, outc T len Z Z' s ms (Dn : Int) (rc, ops ++ pd, st, ln, tn, (Dn : Int) + cn3 ops, br, rt) (GB 1 13 (ops.reverse ++ rc) pd Dn ln tn br (tyC (10 + 2 * Dn)) T len (nt2 T len)) r ∧ ∀ Q, sm_wp (dd + 8) 152 9 [some (.inr (some 79))] [] (Z, Rf, K, n, z) Q = Q (some (.inl (b2i r))) (Z', Rf, K, n, z) := by
  intro f
  induction f with
  | zero => intro s ms Z rc ops st rt hf hs; omega
  | succ f ih =>
    intro s ms Z rc ops st rt hf hs hn ha hp hms ho hol hcap
    have h4 := hp.2.1.2.2.2
    have h16 := hp.2.2.1.2.1
    have ht0 := tkS_0 (len := len) (s := s) hp.2.1.2.1
    have hb : rc.length + (ops ++ pd).length < 400 ∧ (ops ++ pd).length < 40 := by
      rw [List.length_append]
      omega
    have e := aft_rdS (v := vlS T len s) (ln := ln) (tn := tn) (op := (Dn : Int) + cn3 ops) (br := br) ha hb
    have eS := stl_ops hd ops rc ((Dn : Int) + cn3 ops) ho
    rw [show (Dn : Int) + cn3 ops - cn3 ops = (Dn : Int) by omega] at eS
    simp only [tkAC] at e
    by_cases h1 : tkS T len s = 4
    · have hlt : s < len := by
        rcases Nat.lt_or_ge s len with h | h
        · exact h
        · have := ht0.2.2.2 h; omega
      have hns := nsS_bd (T := T) hlt
      rw [if_pos h1] at e
      simp only [jnT, show stg 11 = 1 by decide, eS] at e
      have hr1 := rch_step hlt (by omega) e
      obtain ⟨s1, hs1⟩ : ∃ s1, s1 = nsS T len s := ⟨_, rfl⟩
      obtain ⟨Z1, a1, a2, a3⟩ := m_nx (d := dd) (n := n) (z := z) H hp hlt
      rw [← hs1] at a1 hns hr1
      obtain ⟨Z2, r2, b1, b2⟩ := hsub s1 ms Z1 (ops.reverse ++ rc) (11 :: pd) ln tn br rt a1 hns.2 (by omega) hbr (by simp; omega) (by simp; omega) (Or.inr ⟨11, pd, rfl, by decide⟩)
      have run : ∀ Q, sm_wp (dd + 8) 152 9 [some (.inr (some 79))] [] (Z, Rf, K, n, z) Q = sm_wp (dd + 8) 152 25 [some (.inr (some 79))] [.inl (b2i r2)] (Z2, Rf, K, n, z) Q := by
        intro Q
        rw [b152_9, kk_79 H, h16, h1]
        simp only [wr_id, wr_b2i, wr_wr, b2i_eq0, b2i_eq1, b2i_01, sm_rem_eq, sm_div_eq, wl_m2, wl_m1, wl_0, wl_1, wl_2, wl_3, wl_4, wl_5, wl_6, wl_7, wl_8, wl_9, wl_10, wl_12, wl_13, wl_14, wl_16, wl_20, wl_21, wl_22, wl_23, wl_32, wl_36, wl_40, wl_41, wl_42, wl_43, wl_44, wl_45, wl_46, wl_47, wl_48, wl_57, wl_59, wl_60, wl_61, wl_62, wl_65, wl_90, wl_97, wl_99, wl_100, wl_121, wl_122, wl_140, wl_142, wl_143, wl_145, wl_147, wl_160, wl_161, wl_162, wl_242, wl_380, wl_400, wl_420, wl_820, wl_1340, wl_5480, wl_9999, true_and, and_true, true_or, or_true, if_true, if_false, and_self, or_self, false_and, and_false, false_or, or_false, not_true_eq_false, not_false_eq_true, Int.reduceEq, Int.reduceLT, Int.reduceLE, Int.reduceToNat, Int.reduceAdd, Int.reduceMul, Int.reduceSub, Int.reduceMod, Int.reduceDiv, Int.reduceNeg, Nat.reduceEqDiff, sm_rd_ok, sm_rd_ok2, sm_wt_ok, sm_cp_ok, Option.isSome_some, Option.getD_some, w_cont, Option.toList_some, Option.toList_none, List.cons_append, List.nil_append]
        rw [b152_17, kk_79 H]
        simp only [wr_id, wr_b2i, wr_wr, b2i_eq0, b2i_eq1, b2i_01, sm_rem_eq, sm_div_eq, wl_m2, wl_m1, wl_0, wl_1, wl_2, wl_3, wl_4, wl_5, wl_6, wl_7, wl_8, wl_9, wl_10, wl_12, wl_13, wl_14, wl_16, wl_20, wl_21, wl_22, wl_23, wl_32, wl_36, wl_40, wl_41, wl_42, wl_43, wl_44, wl_45, wl_46, wl_47, wl_48, wl_57, wl_59, wl_60, wl_61, wl_62, wl_65, wl_90, wl_97, wl_99, wl_100, wl_121, wl_122, wl_140, wl_142, wl_143, wl_145, wl_147, wl_160, wl_161, wl_162, wl_242, wl_380, wl_400, wl_420, wl_820, wl_1340, wl_5480, wl_9999, true_and, and_true, true_or, or_true, if_true, if_false, and_self, or_self, false_and, and_false, false_or, or_false, not_true_eq_false, not_false_eq_true, Int.reduceEq, Int.reduceLT, Int.reduceLE, Int.reduceToNat, Int.reduceAdd, Int.reduceMul, Int.reduceSub, Int.reduceMod, Int.reduceDiv, Int.reduceNeg, Nat.reduceEqDiff, sm_rd_ok, sm_rd_ok2, sm_wt_ok, sm_cp_ok, Option.isSome_some, Option.getD_some, w_cont, Option.toList_some, Option.toList_none, List.cons_append, List.nil_append]
        refine (a3 _).trans ?_
        rw [w_cont]
        simp only [wr_id, wr_b2i, wr_wr, b2i_eq0, b2i_eq1, b2i_01, sm_rem_eq, sm_div_eq, wl_m2, wl_m1, wl_0, wl_1, wl_2, wl_3, wl_4, wl_5, wl_6, wl_7, wl_8, wl_9, wl_10, wl_12, wl_13, wl_14, wl_16, wl_20, wl_21, wl_22, wl_23, wl_32, wl_36, wl_40, wl_41, wl_42, wl_43, wl_44, wl_45, wl_46, wl_47, wl_48, wl_57, wl_59, wl_60, wl_61, wl_62, wl_65, wl_90, wl_97, wl_99, wl_100, wl_121, wl_122, wl_140, wl_142, wl_143, wl_145, wl_147, wl_160, wl_161, wl_162, wl_242, wl_380, wl_400, wl_420, wl_820, wl_1340, wl_5480, wl_9999, true_and, and_true, true_or, or_true, if_true, if_false, and_self, or_self, false_and, and_false, false_or, or_false, not_true_eq_false, not_false_eq_true, Int.reduceEq, Int.reduceLT, Int.reduceLE, Int.reduceToNat, Int.reduceAdd, Int.reduceMul, Int.reduceSub, Int.reduceMod, Int.reduceDiv, Int.reduceNeg, Nat.reduceEqDiff, sm_rd_ok, sm_rd_ok2, sm_wt_ok, sm_cp_ok, Option.isSome_some, Option.getD_some, w_cont, Option.toList_some, Option.toList_none, List.cons_append, List.nil_append]
        rw [b152_21, kk_79 H]
        simp only [wr_id, wr_b2i, wr_wr, b2i_eq0, b2i_eq1, b2i_01, sm_rem_eq, sm_div_eq, wl_m2, wl_m1, wl_0, wl_1, wl_2, wl_3, wl_4, wl_5, wl_6, wl_7, wl_8, wl_9, wl_10, wl_12, wl_13, wl_14, wl_16, wl_20, wl_21, wl_22, wl_23, wl_32, wl_36, wl_40, wl_41, wl_42, wl_43, wl_44, wl_45, wl_46, wl_47, wl_48, wl_57, wl_59, wl_60, wl_61, wl_62, wl_65, wl_90, wl_97, wl_99, wl_100, wl_121, wl_122, wl_140, wl_142, wl_143, wl_145, wl_147, wl_160, wl_161, wl_162, wl_242, wl_380, wl_400, wl_420, wl_820, wl_1340, wl_5480, wl_9999, true_and, and_true, true_or, or_true, if_true, if_false, and_self, or_self, false_and, and_false, false_or, or_false, not_true_eq_false, not_false_eq_true, Int.reduceEq, Int.reduceLT, Int.reduceLE, Int.reduceToNat, Int.reduceAdd, Int.reduceMul, Int.reduceSub, Int.reduceMod, Int.reduceDiv, Int.reduceNeg, Nat.reduceEqDiff, sm_rd_ok, sm_rd_ok2, sm_wt_ok, sm_cp_ok, Option.isSome_some, Option.getD_some, w_cont, Option.toList_some, Option.toList_none, List.cons_append, List.nil_append]
        refine (b2 _).trans ?_
        rw [w_cont]
        rfl
      cases r2 with
      | false =>
        refine ⟨Z2, false, outc_fail a2 hr1 b1, fun Q => ?_⟩
        rw [run, b152_25, if_pos (by decide), b152_28]
        simp only [wr_id, wr_b2i, wr_wr, b2i_eq0, b2i_eq1, b2i_01, sm_rem_eq, sm_div_eq, wl_m2, wl_m1, wl_0, wl_1, wl_2, wl_3, wl_4, wl_5, wl_6, wl_7, wl_8, wl_9, wl_10, wl_12, wl_13, wl_14, wl_16, wl_20, wl_21, wl_22, wl_23, wl_32, wl_36, wl_40, wl_41, wl_42, wl_43, wl_44, wl_45, wl_46, wl_47, wl_48, wl_57, wl_59, wl_60, wl_61, wl_62, wl_65, wl_90, wl_97, wl_99, wl_100, wl_121, wl_122, wl_140, wl_142, wl_143, wl_145, wl_147, wl_160, wl_161, wl_162, wl_242, wl_380, wl_400, wl_420, wl_820, wl_1340, wl_5480, wl_9999, true_and, and_true, true_or, or_true, if_true, if_false, and_self, or_self, false_and, and_false, false_or, or_false, not_true_eq_false, not_false_eq_true, Int.reduceEq, Int.reduceLT, Int.reduceLE, Int.reduceToNat, Int.reduceAdd, Int.reduceMul, Int.reduceSub, Int.reduceMod, Int.reduceDiv, Int.reduceNeg, Nat.reduceEqDiff, sm_rd_ok, sm_rd_ok2, sm_wt_ok, sm_cp_ok, Option.isSome_some, Option.getD_some, w_cont, Option.toList_some, Option.toList_none, List.cons_append, List.nil_append]
        rfl
      | true =>
        obtain ⟨c1, c2, _⟩ := b1
        obtain ⟨s2, new, cc, g1, g2, g3, g4, ops', rc', st', rt', ⟨g5, g5'⟩, g6, g7, g8, g9, g10⟩ := c2 rfl
        rw [g6] at g1
        have hlen : ops'.length + rc'.length = new.length + (ops.length + rc.length) := by
          have := congrArg List.length g7
          simpa using this
        obtain ⟨Z3, q1, q2, q3⟩ := m_lay1 (d := dd + 7) (n := n) (z := z) H g4 (by rw [List.length_append]; omega) 22 0
        have hg : rch T len s1 (ops.reverse ++ rc, 11 :: pd, 2, ln, tn, (Dn : Int), br, rt) s2 (rc', (ops' ++ [11]) ++ pd, st', ln, tn, (Dn : Int) + cn3 (ops' ++ [11]), br, rt') := by
          rw [List.append_assoc, cn3_app, show cn3 [11] = 0 by decide, Int.add_zero]
          exact g1
        obtain ⟨Z4, r4, w1, w2⟩ := ih s2 ((22, 0) :: (new ++ ms)) Z3 rc' (ops' ++ [11]) st' rt' (by omega) g3 g9 g10 q1 (by simp; omega) (sn_stg (by decide) g5 (by decide)) (by simp; omega) (by simp; omega)
        refine ⟨Z4, r4, outc_pre (a := (22, 0) :: new) (frP_trans a2 (frP_trans c1 q2)) (rch_trans hr1 hg) (by simp; omega) w1 ?_, fun Q => ?_⟩
        · rintro s' new' c' ⟨ops2, rc2, st2, rt2, x1, x2, x3, x4, x5⟩
          refine ⟨ops2, rc2, st2, rt2, x1, x2, ?_, ?_, x5⟩
          · rw [x3, List.map_append, List.append_assoc, List.reverse_append, List.append_assoc, g7, List.map_cons, show cO (22, 0) = 11 by decide]
            rfl
          · intro tt htt
            refine tyV_app _ _ _ _ _ ⟨true :: true :: tt, g8 (true :: tt) (by simp; omega), ?_⟩ (x4 tt htt)
            right; right; right; right
            exact ⟨true, tt, true, rfl, rfl, Or.inr (Or.inr ⟨Or.inr rfl, rfl, rfl⟩)⟩
        · rw [run, b152_25, if_neg (by decide), b152_30, kk_79 H]
          simp only [wr_id, wr_b2i, wr_wr, b2i_eq0, b2i_eq1, b2i_01, sm_rem_eq, sm_div_eq, wl_m2, wl_m1, wl_0, wl_1, wl_2, wl_3, wl_4, wl_5, wl_6, wl_7, wl_8, wl_9, wl_10, wl_12, wl_13, wl_14, wl_16, wl_20, wl_21, wl_22, wl_23, wl_32, wl_36, wl_40, wl_41, wl_42, wl_43, wl_44, wl_45, wl_46, wl_47, wl_48, wl_57, wl_59, wl_60, wl_61, wl_62, wl_65, wl_90, wl_97, wl_99, wl_100, wl_121, wl_122, wl_140, wl_142, wl_143, wl_145, wl_147, wl_160, wl_161, wl_162, wl_242, wl_380, wl_400, wl_420, wl_820, wl_1340, wl_5480, wl_9999, true_and, and_true, true_or, or_true, if_true, if_false, and_self, or_self, false_and, and_false, false_or, or_false, not_true_eq_false, not_false_eq_true, Int.reduceEq, Int.reduceLT, Int.reduceLE, Int.reduceToNat, Int.reduceAdd, Int.reduceMul, Int.reduceSub, Int.reduceMod, Int.reduceDiv, Int.reduceNeg, Nat.reduceEqDiff, sm_rd_ok, sm_rd_ok2, sm_wt_ok, sm_cp_ok, Option.isSome_some, Option.getD_some, w_cont, Option.toList_some, Option.toList_none, List.cons_append, List.nil_append]
          refine (q3 _).trans ?_
          rw [w_cont]
          simp only [wr_id, wr_b2i, wr_wr, b2i_eq0, b2i_eq1, b2i_01, sm_rem_eq, sm_div_eq, wl_m2, wl_m1, wl_0, wl_1, wl_2, wl_3, wl_4, wl_5, wl_6, wl_7, wl_8, wl_9, wl_10, wl_12, wl_13, wl_14, wl_16, wl_20, wl_21, wl_22, wl_23, wl_32, wl_36, wl_40, wl_41, wl_42, wl_43, wl_44, wl_45, wl_46, wl_47, wl_48, wl_57, wl_59, wl_60, wl_61, wl_62, wl_65, wl_90, wl_97, wl_99, wl_100, wl_121, wl_122, wl_140, wl_142, wl_143, wl_145, wl_147, wl_160, wl_161, wl_162, wl_242, wl_380, wl_400, wl_420, wl_820, wl_1340, wl_5480, wl_9999, true_and, and_true, true_or, or_true, if_true, if_false, and_self, or_self, false_and, and_false, false_or, or_false, not_true_eq_false, not_false_eq_true, Int.reduceEq, Int.reduceLT, Int.reduceLE, Int.reduceToNat, Int.reduceAdd, Int.reduceMul, Int.reduceSub, Int.reduceMod, Int.reduceDiv, Int.reduceNeg, Nat.reduceEqDiff, sm_rd_ok, sm_rd_ok2, sm_wt_ok, sm_cp_ok, Option.isSome_some, Option.getD_some, w_cont, Option.toList_some, Option.toList_none, List.cons_append, List.nil_append]
          rw [b152_37]
          exact w2 Q
    · refine ⟨Z, true, outc_end hs hp ⟨ops, rc, st, rt, ⟨ho, hol⟩, rfl, rfl, fun tt _ => rfl, ⟨hn, h1⟩, ha⟩, fun Q => ?_⟩
      rw [b152_9, kk_79 H, h16]
      simp only [wr_id, wr_b2i, wr_wr, b2i_eq0, b2i_eq1, b2i_01, sm_rem_eq, sm_div_eq, wl_m2, wl_m1, wl_0, wl_1, wl_2, wl_3, wl_4, wl_5, wl_6, wl_7, wl_8, wl_9, wl_10, wl_12, wl_13, wl_14, wl_16, wl_20, wl_21, wl_22, wl_23, wl_32, wl_36, wl_40, wl_41, wl_42, wl_43, wl_44, wl_45, wl_46, wl_47, wl_48, wl_57, wl_59, wl_60, wl_61, wl_62, wl_65, wl_90, wl_97, wl_99, wl_100, wl_121, wl_122, wl_140, wl_142, wl_143, wl_145, wl_147, wl_160, wl_161, wl_162, wl_242, wl_380, wl_400, wl_420, wl_820, wl_1340, wl_5480, wl_9999, true_and, and_true, true_or, or_true, if_true, if_false, and_self, or_self, false_and, and_false, false_or, or_false, not_true_eq_false, not_false_eq_true, Int.reduceEq, Int.reduceLT, Int.reduceLE, Int.reduceToNat, Int.reduceAdd, Int.reduceMul, Int.reduceSub, Int.reduceMod, Int.reduceDiv, Int.reduceNeg, Nat.reduceEqDiff, sm_rd_ok, sm_rd_ok2, sm_wt_ok, sm_cp_ok, Option.isSome_some, Option.getD_some, w_cont, Option.toList_some, Option.toList_none, List.cons_append, List.nil_append]
      rw [wr_id (by omega) (by omega), if_neg h1, b152_40]
      simp only [wr_id, wr_b2i, wr_wr, b2i_eq0, b2i_eq1, b2i_01, sm_rem_eq, sm_div_eq, wl_m2, wl_m1, wl_0, wl_1, wl_2, wl_3, wl_4, wl_5, wl_6, wl_7, wl_8, wl_9, wl_10, wl_12, wl_13, wl_14, wl_16, wl_20, wl_21, wl_22, wl_23, wl_32, wl_36, wl_40, wl_41, wl_42, wl_43, wl_44, wl_45, wl_46, wl_47, wl_48, wl_57, wl_59, wl_60, wl_61, wl_62, wl_65, wl_90, wl_97, wl_99, wl_100, wl_121, wl_122, wl_140, wl_142, wl_143, wl_145, wl_147, wl_160, wl_161, wl_162, wl_242, wl_380, wl_400, wl_420, wl_820, wl_1340, wl_5480, wl_9999, true_and, and_true, true_or, or_true, if_true, if_false, and_self, or_self, false_and, and_false, false_or, or_false, not_true_eq_false, not_false_eq_true, Int.reduceEq, Int.reduceLT, Int.reduceLE, Int.reduceToNat, Int.reduceAdd, Int.reduceMul, Int.reduceSub, Int.reduceMod, Int.reduceDiv, Int.reduceNeg, Nat.reduceEqDiff, sm_rd_ok, sm_rd_ok2, sm_wt_ok, sm_cp_ok, Option.isSome_some, Option.getD_some, w_cont, Option.toList_some, Option.toList_none, List.cons_append, List.nil_append]
      rfl
theorem m_A152 (H : sm_sh Rf K) {Dn dd : Nat} (hD : Dn ≤ 8) (hsub : okT Rf K n z T len 153 2 12 (3 * Dn + 1) (11 + 2 * Dn) 2 (nt1 T len) Dn (dd + 7)) : okT Rf K n z T len 152 1 13 (3 * Dn) (10 + 2 * Dn) 1 (nt2 T len) Dn (dd + 8) := by
  intro s ms Z rc pd ln tn br rt hp hs hms hbr hcap hpd hd
  have h4 := hp.2.1.2.2.2
  obtain ⟨Z1, r1, a1, a2⟩ := hsub s ms Z rc pd ln tn br rt hp hs hms hbr hcap (by omega) (hdL_mono (by decide) hd)
  have run : ∀ Q, sm_call (dd + 8) 152 [.inr (some 79)] (Z, Rf, K, n, z) Q = sm_wp (dd + 8) 152 4 [some (.inr (some 79))] [.inl (b2i r1)] (Z1, Rf, K, n, z) Q := by
    intro Q
    rw [ce152, b152_0, kk_79 H]
    simp only [wr_id, wr_b2i, wr_wr, b2i_eq0, b2i_eq1, b2i_01, sm_rem_eq, sm_div_eq, wl_m2, wl_m1, wl_0, wl_1, wl_2, wl_3, wl_4, wl_5, wl_6, wl_7, wl_8, wl_9, wl_10, wl_12, wl_13, wl_14, wl_16, wl_20, wl_21, wl_22, wl_23, wl_32, wl_36, wl_40, wl_41, wl_42, wl_43, wl_44, wl_45, wl_46, wl_47, wl_48, wl_57, wl_59, wl_60, wl_61, wl_62, wl_65, wl_90, wl_97, wl_99, wl_100, wl_121, wl_122, wl_140, wl_142, wl_143, wl_145, wl_147, wl_160, wl_161, wl_162, wl_242, wl_380, wl_400, wl_420, wl_820, wl_1340, wl_5480, wl_9999, true_and, and_true, true_or, or_true, if_true, if_false, and_self, or_self, false_and, and_false, false_or, or_false, not_true_eq_false, not_false_eq_true, Int.reduceEq, Int.reduceLT, Int.reduceLE, Int.reduceToNat, Int.reduceAdd, Int.reduceMul, Int.reduceSub, Int.reduceMod, Int.reduceDiv, Int.reduceNeg, Nat.reduceEqDiff, sm_rd_ok, sm_rd_ok2, sm_wt_ok, sm_cp_ok, Option.isSome_some, Option.getD_some, w_cont, Option.toList_some, Option.toList_none, List.cons_append, List.nil_append]
    refine (a2 _).trans ?_
    rw [w_cont]
    rfl
  cases r1 with
  | false =>
    refine ⟨Z1, false, outc_fail (frP_refl Z) rch_refl a1, fun Q => ?_⟩
    rw [run, b152_4, if_pos (by decide), b152_7]
    simp only [wr_id, wr_b2i, wr_wr, b2i_eq0, b2i_eq1, b2i_01, sm_rem_eq, sm_div_eq, wl_m2, wl_m1, wl_0, wl_1, wl_2, wl_3, wl_4, wl_5, wl_6, wl_7, wl_8, wl_9, wl_10, wl_12, wl_13, wl_14, wl_16, wl_20, wl_21, wl_22, wl_23, wl_32, wl_36, wl_40, wl_41, wl_42, wl_43, wl_44, wl_45, wl_46, wl_47, wl_48, wl_57, wl_59, wl_60, wl_61, wl_62, wl_65, wl_90, wl_97, wl_99, wl_100, wl_121, wl_122, wl_140, wl_142, wl_143, wl_145, wl_147, wl_160, wl_161, wl_162, wl_242, wl_380, wl_400, wl_420, wl_820, wl_1340, wl_5480, wl_9999, true_and, and_true, true_or, or_true, if_true, if_false, and_self, or_self, false_and, and_false, false_or, or_false, not_true_eq_false, not_false_eq_true, Int.reduceEq, Int.reduceLT, Int.reduceLE, Int.reduceToNat, Int.reduceAdd, Int.reduceMul, Int.reduceSub, Int.reduceMod, Int.reduceDiv, Int.reduceNeg, Nat.reduceEqDiff, sm_rd_ok, sm_rd_ok2, sm_wt_ok, sm_cp_ok, Option.isSome_some, Option.getD_some, w_cont, Option.toList_some, Option.toList_none, List.cons_append, List.nil_append]
    rfl
  | true =>
    obtain ⟨c1, c2, _⟩ := a1
    obtain ⟨s2, new, cc, g1, g2, g3, g4, ops', rc', st', rt', ⟨g5, g5'⟩, g6, g7, g8, g9, g10⟩ := c2 rfl
    rw [g6] at g1
    have hlen : ops'.length + rc'.length = new.length + rc.length := by
      have := congrArg List.length g7
      simpa using this
    obtain ⟨Z4, r4, w1, w2⟩ := m_LP152 (n := n) (z := z) (ln := ln) (tn := tn) H hD hsub hbr hpd hd (len + 1) s2 (new ++ ms) Z1 rc' ops' st' rt' (by omega) g3 g9 g10 g4 (by rw [List.length_append]; omega) (fun k hk => by have := g5 k hk; omega) (by omega) (by omega)
    refine ⟨Z4, r4, outc_pre (a := new) c1 g1 g2 w1 ?_, fun Q => ?_⟩
    · rintro s' new' c' ⟨ops2, rc2, st2, rt2, x1, x2, x3, x4, x5⟩
      refine ⟨ops2, rc2, st2, rt2, x1, x2, ?_, ?_, x5⟩
      · rw [x3, List.map_append, List.append_assoc, g7]
      · intro tt htt
        exact tyV_app _ _ _ _ _ (g8 tt (by omega)) (x4 tt htt)
    · rw [run, b152_4, if_neg (by decide)]
      exact w2 Q
end TESTS
