/-- the same from 1340 on -/
def agU (M M' : Nat → Int) : Prop := ∀ k, 1340 ≤ k → M' k = M k
theorem suS_hi {M : Nat → Int} {s o x y st : Int} {k : Nat} (hk : 1340 ≤ k) : suS M true s o x y st k = M k := by
  unfold suS
  split
  · rfl
  · unfold mU
    rw [if_neg (by omega), if_pos rfl]
theorem agU_stS {M : Nat → Int} {s x y h st : Int} (hi : invF M) (hy : ¬ yF (M 0) (M 1) x y h = -1) : agU M (stS M true s x y h st) := by
  intro k hk
  have hsz := hi.1
  unfold szN at hsz
  have hn := yF_nat x y h hsz.1.2 hsz.2.2 hy
  unfold stS
  split
  · exact thS_hi hn.1 (by omega)
  · rw [suS_hi hk]
    exact thS_hi hn.1 (by omega)
theorem agU_flR {k : Nat} (hk : k < 4) {s len : Int} (hs : 0 ≤ s ∧ s ≤ 7) (hl : len ≤ 60) : ∀ (f : Nat) (M : Nat → Int) (x y h st : Int), invF M → isP (M 0) (M 1) x y = true → (0 ≤ h ∧ h ≤ 3) → 0 ≤ st → st + f ≤ len → agU M (flR true k s len f M x y h st).1 := by
  intro f
  induction f with
  | zero => intro M x y h st hi _ _ _ _ k _; rfl
  | succ f ih =>
    intro M x y h st hi hp hh hst hsl
    simp only [flR]
    split
    · intro k _; rfl
    · split
      · intro k _; rfl
      · rename_i h1 h2
        obtain ⟨hi5, ag5⟩ := invF_stS (th := true) (s := s) (st := st) hi h2 hs (by omega)
        have hu5 := agU_stS (s := s) (st := st) hi h2
        split
        · exact hu5
        · obtain ⟨_, _, hp2⟩ := yF_nn h2
          have y0 := ag5 0 (by omega) (by omega) (by omega)
          have y1 := ag5 1 (by omega) (by omega) (by omega)
          intro j hj
          rw [ih _ _ _ _ (st + 1) hi5 (by rw [y0, y1]; exact hp2) hdM_bd (by omega) (by omega) j hj, hu5 j hj]
theorem agU_alR : ∀ (c s : Nat) (M : Nat → Int), invF M → swS M → ((s + c : Nat) : Int) ≤ M 4 → agU M (alR true c s M) := by
  intro c
  induction c with
  | zero => intro s M _ _ _ k _; rfl
  | succ c ih =>
    intro s M hi hw hs
    obtain ⟨a, b⟩ := flO_inv (th := true) (s := s) hi hw (by omega)
    obtain ⟨h1, h2, h3, h4⟩ := hw.2 s (by omega)
    have h8 := hw.1
    simp only [alR]
    have h4' := b 4 (by omega) (by omega) (by omega)
    intro k hk
    rw [ih (s + 1) _ a (swS_ag b hw) (by rw [h4']; omega) k hk]
    unfold flO
    exact agU_flR (by omega) (by omega) (by omega) _ M _ _ _ 0 hi h1 h2 (by omega) (by omega) k hk
theorem agU_allS {M : Nat → Int} (hi : invF M) (hw : swS M) : agU M (allS true M) := by
  have h4 : clrS M 4 = M 4 := agT_clr M 4 (by omega) (by omega) (by omega)
  intro k hk
  unfold allS
  rw [agU_alR (M 4).toNat 0 (clrS M) (invF_clr hi) (swS_ag (agT_clr M) hw) (by rw [h4]; have := hw.1; omega) k hk]
  unfold clrS
  rw [if_neg (by omega), if_neg (by omega)]
/-- what the class's thinking may change -/
def frT (Z Z' : Nat → Nat → Int) : Prop := (∀ a, (a < 51 ∨ 76 < a) → Z' a = Z a) ∧ Z' 59 0 = Z 59 0 ∧ Z' 67 0 = Z 67 0
theorem frT_refl (Z : Nat → Nat → Int) : frT Z Z := ⟨fun _ _ => rfl, rfl, rfl⟩
theorem frT_trans {Z Z' Z'' : Nat → Nat → Int} (h1 : frT Z Z') (h2 : frT Z' Z'') : frT Z Z'' := ⟨fun a ha => by rw [h2.1 a ha, h1.1 a ha], by rw [h2.2.1, h1.2.1], by rw [h2.2.2, h1.2.2]⟩
/-- what the model's thinking may change -/
def frU (Z Z' : Nat → Nat → Int) : Prop := (∀ a, (a < 79 ∨ a = 80 ∨ a = 81 ∨ a = 83 ∨ a = 86 ∨ 96 < a) → Z' a = Z a) ∧ ∀ j, (j = 4 ∨ j = 5 ∨ j = 6 ∨ j = 14 ∨ j = 21 ∨ j = 23) → Z' 79 j = Z 79 j
theorem frU_refl (Z : Nat → Nat → Int) : frU Z Z := ⟨fun _ _ => rfl, fun _ _ => rfl⟩
theorem frU_trans {Z Z' Z'' : Nat → Nat → Int} (h1 : frU Z Z') (h2 : frU Z' Z'') : frU Z Z'' := ⟨fun a ha => by rw [h2.1 a ha, h1.1 a ha], fun j hj => by rw [h2.2 j hj, h1.2 j hj]⟩
theorem rFx_fr {Z Z' : Nat → Nat → Int} {Rf : Nat → Nat → Option Nat} {K : Nat → Nat × Nat} {M : Nat → Int} (h : frT Z Z') (hr : rFx Z Rf K M) : rFx Z' Rf K M := rFx_ag (agT_refl M) (fun a ha => h.1 a (by omega)) h.2.1 hr
theorem zs_frT {Z Z' : Nat → Nat → Int} (h : frT Z Z') (hz : sm_zs Z) : sm_zs Z' := zs_fr hz (fun a ha => h.1 a (by omega))
/-- what of a swallow's end is asked -/
def enw (r : (Nat → Int) × Int × Int × Int × Int) (w : Int) : Int := if w = 0 then r.2.1 else if w = 1 then r.2.2.1 else if w = 2 then r.2.2.2.2 else r.2.2.2.1
section ENDS
variable {d n z : Nat} {Rf : Nat → Nat → Option Nat} {K : Nat → Nat × Nat} {Z : Nat → Nat → Int} {Q : Option sm_V → sm_S → Prop}
theorem m_out (H : sm_sh Rf K) {M : Nat → Int} (hM : Z 80 = M) : ∃ Z', Z' 80 = M ∧ (∀ k, k < 1340 → Z' 82 k = M k) ∧ Z' 79 6 = 1 ∧ (∀ j, j ≠ 6 → Z' 79 j = Z 79 j) ∧ (∀ a, a ≠ 79 → a ≠ 82 → Z' a = Z a) ∧ ∀ Q, sm_call d 182 [.inr (some 79)] (Z, Rf, K, n, z) Q = Q none (Z', Rf, K, n, z) := by
  have r : ∀ a, a ≠ 82 → sm_cr Z 80 82 0 1340 a = Z a := fun a ha => funext (fun j => sm_cr_ne ha)
  refine ⟨sm_u (sm_cr Z 80 82 0 1340) 79 6 1, ?_, ?_, ?_, ?_, ?_, fun Q => m_setsOut H⟩
  · rw [sm_u_row (by decide), r 80 (by decide), hM]
  · intro k hk
    rw [sm_u_ne (by decide)]
    unfold sm_cr
    rw [if_pos ⟨rfl, by omega, hk⟩, hM]
  · rw [sm_u_self]
  · intro j hj
    rw [sm_u_eq, if_neg hj, r 79 (by decide)]
  · intro a h1 h2
    rw [sm_u_row h1, r a h2]
theorem m_back (H : sm_sh Rf K) {M : Nat → Int} (h1 : ∀ k, k < 1340 → Z 82 k = M k) (h2 : ∀ k, 1340 ≤ k → Z 80 k = M k) : ∃ Z', Z' 80 = M ∧ Z' 79 6 = 0 ∧ (∀ j, j ≠ 6 → Z' 79 j = Z 79 j) ∧ (∀ a, a ≠ 79 → a ≠ 80 → Z' a = Z a) ∧ ∀ Q, sm_call d 183 [.inr (some 79)] (Z, Rf, K, n, z) Q = Q none (Z', Rf, K, n, z) := by
  have r : ∀ a, a ≠ 80 → sm_cr Z 82 80 0 1340 a = Z a := fun a ha => funext (fun j => sm_cr_ne ha)
  refine ⟨sm_u (sm_cr Z 82 80 0 1340) 79 6 0, ?_, ?_, ?_, ?_, fun Q => m_comesBack H⟩
  · rw [sm_u_row (by decide)]
    funext k
    unfold sm_cr
    by_cases hk : k < 1340
    · rw [if_pos ⟨rfl, by omega, hk⟩, h1 k hk]
    · rw [if_neg (by omega), h2 k (by omega)]
  · rw [sm_u_self]
  · intro j hj
    rw [sm_u_eq, if_neg hj, r 79 (by decide)]
  · intro a h1 h2
    rw [sm_u_row h1, r a h2]
theorem c_think0 (H : sm_sh Rf K) (hz : sm_zs Z) (hst : stI Z) {M : Nat → Int} (hi : invD M) (hr : rD Z Rf K M 1) : ∃ Z', frT Z Z' ∧ rSi Z' M ∧ rFx Z' Rf K M ∧ ∀ Q, sm_call (d + 2) 57 [.inr (some 52), .inr (some 1)] (Z, Rf, K, n, z) Q = Q none (Z', Rf, K, n, z) := by
  obtain ⟨Z2, f2, g2, q2⟩ := c_take (d := d) (n := n) (z := z) (M := M) H hz hi.1.1 hi.2.2.2.1 ⟨hr.1.1, hr.1.2.1⟩ (fun c hc => (hr.2.1 c hc).1) (fun c hc => (hr.2.1 c hc).2.2.2.1)
  have hf : frT Z Z2 := ⟨fun a ha => f2 a (by omega) (by omega), by rw [f2 59 (by decide) (by decide)], by rw [f2 67 (by decide) (by decide)]⟩
  exact ⟨Z2, hf, g2, rFx_fr hf (rFx_of hr hst.2.2.2.2.2.2.1), q2⟩
theorem c_think1 (H : sm_sh Rf K) (hz : sm_zs Z) {M : Nat → Int} (hi : invF M) (hw : swS M) (hx : rFx Z Rf K M) (hsi : rSi Z M) (h67 : Z 67 0 = 0) : ∃ Z', rTh Z' (allS true M) 64 true ∧ Z' 59 2 = M 4 ∧ (∀ u : Nat, (u : Int) < M 4 → Z' 60 (5 * u) = (endS true u M).2.1 ∧ Z' 60 (5 * u + 1) = (endS true u M).2.2.1 ∧ Z' 60 (5 * u + 2) = (endS true u M).2.2.2.2 ∧ Z' 60 (5 * u + 3) = (endS true u M).2.2.2.1) ∧ frT Z Z' ∧ Z' 53 = Z 53 ∧ Z' 54 = Z 54 ∧ Z' 63 = Z 63 ∧ Z' 69 = Z 69 ∧ ∀ Q, sm_call (d + 4) 60 [.inr (some 51), .inr (some 1), .inr (some 64)] (Z, Rf, K, n, z) Q = Q none (Z', Rf, K, n, z) := by
  obtain ⟨Z3, t3, e30, e32, e33, f3, q3⟩ := c_flyAll (d := d) (n := n) (z := z) H (shT_64 H) (M := M) (Z := Z) hi hw hx hsi hz (by rw [if_pos rfl]; exact h67)
  have e67 : Z3 67 0 = 0 := by
    rcases t3.2.2 with b | b
    · exact b.2.1
    · exact absurd b.1 (by decide)
  refine ⟨Z3, t3, e32, e33, ⟨fun a ha => f3 a (by omega) (by omega) (by omega) (by omega) (by omega) (by omega) (by omega) (by omega) (by omega), ?_, by rw [e67, h67]⟩, ?_, ?_, ?_, ?_, q3⟩
  · rw [e30, hx.2.2.2.2.2.2]
  · exact f3 53 (by decide) (by decide) (by decide) (by decide) (by decide) (by decide) (by decide) (by decide) (by decide)
  · exact f3 54 (by decide) (by decide) (by decide) (by decide) (by decide) (by decide) (by decide) (by decide) (by decide)
  · exact f3 63 (by decide) (by decide) (by decide) (by decide) (by decide) (by decide) (by decide) (by decide) (by decide)
  · exact f3 69 (by decide) (by decide) (by decide) (by decide) (by decide) (by decide) (by decide) (by decide) (by decide)
theorem c_ends (H : sm_sh Rf K) (hz : sm_zs Z) (hst : stI Z) {M : Nat → Int} (hi : invD M) (hr : rD Z Rf K M 1) {s w : Int} (hs : aI s) (hw : aI w) : ∃ Z', frT Z Z' ∧ ∀ Q, sm_call (d + 6) 103 [.inr (some 0), .inl s, .inl w] (Z, Rf, K, n, z) Q = Q (some (.inl (if (0 ≤ s ∧ s < M 4) ∧ 0 ≤ w ∧ w ≤ 3 then enw (endS true s.toNat M) w else -1))) (Z', Rf, K, n, z) := by
  have h4 := hi.2.1.1
  have e12 : Z 12 2 = M 4 := hr.2.2.2.2.1.1
  unfold aI at hs hw
  have head : ∀ Q, sm_call (d + 6) 103 [.inr (some 0), .inl s, .inl w] (Z, Rf, K, n, z) Q = if (0 ≤ s ∧ s < M 4) ∧ 0 ≤ w ∧ w ≤ 3 then sm_wp (d + 6) 103 31 [some (.inr (some 0)), some (.inl s), some (.inl w)] [] (Z, Rf, K, n, z) Q else Q (some (.inl (-1))) (Z, Rf, K, n, z) := by
    intro Q
    rw [ce103, b103_0, kk_0 H, rr_0_0 H]
    simp only [wr_id, wr_b2i, wr_wr, b2i_eq0, b2i_eq1, b2i_01, sm_rem_eq, sm_div_eq, wl_m2, wl_m1, wl_0, wl_1, wl_2, wl_3, wl_4, wl_5, wl_6, wl_7, wl_8, wl_9, wl_10, wl_12, wl_13, wl_14, wl_16, wl_20, wl_21, wl_22, wl_23, wl_32, wl_36, wl_40, wl_41, wl_42, wl_43, wl_44, wl_45, wl_46, wl_47, wl_48, wl_57, wl_59, wl_60, wl_61, wl_62, wl_65, wl_90, wl_97, wl_99, wl_100, wl_121, wl_122, wl_140, wl_142, wl_143, wl_145, wl_147, wl_160, wl_161, wl_162, wl_242, wl_380, wl_400, wl_420, wl_820, wl_1340, wl_5480, wl_9999, true_and, and_true, true_or, or_true, if_true, if_false, and_self, or_self, false_and, and_false, false_or, or_false, not_true_eq_false, not_false_eq_true, Int.reduceEq, Int.reduceLT, Int.reduceLE, Int.reduceToNat, Int.reduceAdd, Int.reduceMul, Int.reduceSub, Int.reduceMod, Int.reduceDiv, Int.reduceNeg, Nat.reduceEqDiff, sm_rd_ok, sm_rd_ok2, sm_wt_ok, sm_cp_ok, Option.isSome_some, Option.getD_some, w_cont, Option.toList_some, Option.toList_none, List.cons_append, List.nil_append, kk_1 H, rr_1_13 H, kk_12 H, e12]
    rw [c_within hs (by omega) (by omega), w_cont]
    simp only [wr_id, wr_b2i, wr_wr, b2i_eq0, b2i_eq1, b2i_01, sm_rem_eq, sm_div_eq, wl_m2, wl_m1, wl_0, wl_1, wl_2, wl_3, wl_4, wl_5, wl_6, wl_7, wl_8, wl_9, wl_10, wl_12, wl_13, wl_14, wl_16, wl_20, wl_21, wl_22, wl_23, wl_32, wl_36, wl_40, wl_41, wl_42, wl_43, wl_44, wl_45, wl_46, wl_47, wl_48, wl_57, wl_59, wl_60, wl_61, wl_62, wl_65, wl_90, wl_97, wl_99, wl_100, wl_121, wl_122, wl_140, wl_142, wl_143, wl_145, wl_147, wl_160, wl_161, wl_162, wl_242, wl_380, wl_400, wl_420, wl_820, wl_1340, wl_5480, wl_9999, true_and, and_true, true_or, or_true, if_true, if_false, and_self, or_self, false_and, and_false, false_or, or_false, not_true_eq_false, not_false_eq_true, Int.reduceEq, Int.reduceLT, Int.reduceLE, Int.reduceToNat, Int.reduceAdd, Int.reduceMul, Int.reduceSub, Int.reduceMod, Int.reduceDiv, Int.reduceNeg, Nat.reduceEqDiff, sm_rd_ok, sm_rd_ok2, sm_wt_ok, sm_cp_ok, Option.isSome_some, Option.getD_some, w_cont, Option.toList_some, Option.toList_none, List.cons_append, List.nil_append]
    rw [b103_17]
    simp only [wr_id, wr_b2i, wr_wr, b2i_eq0, b2i_eq1, b2i_01, sm_rem_eq, sm_div_eq, wl_m2, wl_m1, wl_0, wl_1, wl_2, wl_3, wl_4, wl_5, wl_6, wl_7, wl_8, wl_9, wl_10, wl_12, wl_13, wl_14, wl_16, wl_20, wl_21, wl_22, wl_23, wl_32, wl_36, wl_40, wl_41, wl_42, wl_43, wl_44, wl_45, wl_46, wl_47, wl_48, wl_57, wl_59, wl_60, wl_61, wl_62, wl_65, wl_90, wl_97, wl_99, wl_100, wl_121, wl_122, wl_140, wl_142, wl_143, wl_145, wl_147, wl_160, wl_161, wl_162, wl_242, wl_380, wl_400, wl_420, wl_820, wl_1340, wl_5480, wl_9999, true_and, and_true, true_or, or_true, if_true, if_false, and_self, or_self, false_and, and_false, false_or, or_false, not_true_eq_false, not_false_eq_true, Int.reduceEq, Int.reduceLT, Int.reduceLE, Int.reduceToNat, Int.reduceAdd, Int.reduceMul, Int.reduceSub, Int.reduceMod, Int.reduceDiv, Int.reduceNeg, Nat.reduceEqDiff, sm_rd_ok, sm_rd_ok2, sm_wt_ok, sm_cp_ok, Option.isSome_some, Option.getD_some, w_cont, Option.toList_some, Option.toList_none, List.cons_append, List.nil_append, isInB, decide_eq_false_iff_not]
    by_cases h1 : 0 ≤ s ∧ s ≤ M 4 - 1
    · rw [if_neg (fun g => g h1), b103_20, c_within hw (by omega) (by omega), w_cont]
      simp only [wr_id, wr_b2i, wr_wr, b2i_eq0, b2i_eq1, b2i_01, sm_rem_eq, sm_div_eq, wl_m2, wl_m1, wl_0, wl_1, wl_2, wl_3, wl_4, wl_5, wl_6, wl_7, wl_8, wl_9, wl_10, wl_12, wl_13, wl_14, wl_16, wl_20, wl_21, wl_22, wl_23, wl_32, wl_36, wl_40, wl_41, wl_42, wl_43, wl_44, wl_45, wl_46, wl_47, wl_48, wl_57, wl_59, wl_60, wl_61, wl_62, wl_65, wl_90, wl_97, wl_99, wl_100, wl_121, wl_122, wl_140, wl_142, wl_143, wl_145, wl_147, wl_160, wl_161, wl_162, wl_242, wl_380, wl_400, wl_420, wl_820, wl_1340, wl_5480, wl_9999, true_and, and_true, true_or, or_true, if_true, if_false, and_self, or_self, false_and, and_false, false_or, or_false, not_true_eq_false, not_false_eq_true, Int.reduceEq, Int.reduceLT, Int.reduceLE, Int.reduceToNat, Int.reduceAdd, Int.reduceMul, Int.reduceSub, Int.reduceMod, Int.reduceDiv, Int.reduceNeg, Nat.reduceEqDiff, sm_rd_ok, sm_rd_ok2, sm_wt_ok, sm_cp_ok, Option.isSome_some, Option.getD_some, w_cont, Option.toList_some, Option.toList_none, List.cons_append, List.nil_append]
      rw [b103_26]
      simp only [wr_id, wr_b2i, wr_wr, b2i_eq0, b2i_eq1, b2i_01, sm_rem_eq, sm_div_eq, wl_m2, wl_m1, wl_0, wl_1, wl_2, wl_3, wl_4, wl_5, wl_6, wl_7, wl_8, wl_9, wl_10, wl_12, wl_13, wl_14, wl_16, wl_20, wl_21, wl_22, wl_23, wl_32, wl_36, wl_40, wl_41, wl_42, wl_43, wl_44, wl_45, wl_46, wl_47, wl_48, wl_57, wl_59, wl_60, wl_61, wl_62, wl_65, wl_90, wl_97, wl_99, wl_100, wl_121, wl_122, wl_140, wl_142, wl_143, wl_145, wl_147, wl_160, wl_161, wl_162, wl_242, wl_380, wl_400, wl_420, wl_820, wl_1340, wl_5480, wl_9999, true_and, and_true, true_or, or_true, if_true, if_false, and_self, or_self, false_and, and_false, false_or, or_false, not_true_eq_false, not_false_eq_true, Int.reduceEq, Int.reduceLT, Int.reduceLE, Int.reduceToNat, Int.reduceAdd, Int.reduceMul, Int.reduceSub, Int.reduceMod, Int.reduceDiv, Int.reduceNeg, Nat.reduceEqDiff, sm_rd_ok, sm_rd_ok2, sm_wt_ok, sm_cp_ok, Option.isSome_some, Option.getD_some, w_cont, Option.toList_some, Option.toList_none, List.cons_append, List.nil_append, isInB, decide_eq_false_iff_not]
      by_cases h2 : 0 ≤ w ∧ w ≤ 3
      · rw [if_neg (fun g => g h2), if_pos (by omega)]
      · rw [if_pos h2, if_neg (by omega), b103_29]
    · rw [if_pos h1, if_neg (by omega), b103_29]
  by_cases hc : (0 ≤ s ∧ s < M 4) ∧ 0 ≤ w ∧ w ≤ 3
  · obtain ⟨Z1, f1, g1, x1, q1⟩ := c_think0 (d := d + 2) (n := n) (z := z) H hz hst hi hr
    obtain ⟨Z2, t2, c2, e2, f2, _, _, _, _, q2⟩ := c_think1 (d := d) (n := n) (z := z) H (zs_frT f1 hz) hi.1 hi.2.1 x1 g1 (by rw [f1.2.2]; exact hst.2.2.2.2.2.2.2)
    refine ⟨Z2, frT_trans f1 f2, fun Q => ?_⟩
    rw [head, if_pos hc, if_pos hc, b103_31, kk_0 H, rr_0_0 H, rr_0_3 H, rr_0_4 H]
    simp only [wr_id, wr_b2i, wr_wr, b2i_eq0, b2i_eq1, b2i_01, sm_rem_eq, sm_div_eq, wl_m2, wl_m1, wl_0, wl_1, wl_2, wl_3, wl_4, wl_5, wl_6, wl_7, wl_8, wl_9, wl_10, wl_12, wl_13, wl_14, wl_16, wl_20, wl_21, wl_22, wl_23, wl_32, wl_36, wl_40, wl_41, wl_42, wl_43, wl_44, wl_45, wl_46, wl_47, wl_48, wl_57, wl_59, wl_60, wl_61, wl_62, wl_65, wl_90, wl_97, wl_99, wl_100, wl_121, wl_122, wl_140, wl_142, wl_143, wl_145, wl_147, wl_160, wl_161, wl_162, wl_242, wl_380, wl_400, wl_420, wl_820, wl_1340, wl_5480, wl_9999, true_and, and_true, true_or, or_true, if_true, if_false, and_self, or_self, false_and, and_false, false_or, or_false, not_true_eq_false, not_false_eq_true, Int.reduceEq, Int.reduceLT, Int.reduceLE, Int.reduceToNat, Int.reduceAdd, Int.reduceMul, Int.reduceSub, Int.reduceMod, Int.reduceDiv, Int.reduceNeg, Nat.reduceEqDiff, sm_rd_ok, sm_rd_ok2, sm_wt_ok, sm_cp_ok, Option.isSome_some, Option.getD_some, w_cont, Option.toList_some, Option.toList_none, List.cons_append, List.nil_append, kk_63 H]
    rw [ce65, b65_0, kk_51 H, rr_51_0 H]
    simp only [wr_id, wr_b2i, wr_wr, b2i_eq0, b2i_eq1, b2i_01, sm_rem_eq, sm_div_eq, wl_m2, wl_m1, wl_0, wl_1, wl_2, wl_3, wl_4, wl_5, wl_6, wl_7, wl_8, wl_9, wl_10, wl_12, wl_13, wl_14, wl_16, wl_20, wl_21, wl_22, wl_23, wl_32, wl_36, wl_40, wl_41, wl_42, wl_43, wl_44, wl_45, wl_46, wl_47, wl_48, wl_57, wl_59, wl_60, wl_61, wl_62, wl_65, wl_90, wl_97, wl_99, wl_100, wl_121, wl_122, wl_140, wl_142, wl_143, wl_145, wl_147, wl_160, wl_161, wl_162, wl_242, wl_380, wl_400, wl_420, wl_820, wl_1340, wl_5480, wl_9999, true_and, and_true, true_or, or_true, if_true, if_false, and_self, or_self, false_and, and_false, false_or, or_false, not_true_eq_false, not_false_eq_true, Int.reduceEq, Int.reduceLT, Int.reduceLE, Int.reduceToNat, Int.reduceAdd, Int.reduceMul, Int.reduceSub, Int.reduceMod, Int.reduceDiv, Int.reduceNeg, Nat.reduceEqDiff, sm_rd_ok, sm_rd_ok2, sm_wt_ok, sm_cp_ok, Option.isSome_some, Option.getD_some, w_cont, Option.toList_some, Option.toList_none, List.cons_append, List.nil_append, kk_52 H]
    refine (q1 _).trans ?_
    rw [w_cont]
    simp only [wr_id, wr_b2i, wr_wr, b2i_eq0, b2i_eq1, b2i_01, sm_rem_eq, sm_div_eq, wl_m2, wl_m1, wl_0, wl_1, wl_2, wl_3, wl_4, wl_5, wl_6, wl_7, wl_8, wl_9, wl_10, wl_12, wl_13, wl_14, wl_16, wl_20, wl_21, wl_22, wl_23, wl_32, wl_36, wl_40, wl_41, wl_42, wl_43, wl_44, wl_45, wl_46, wl_47, wl_48, wl_57, wl_59, wl_60, wl_61, wl_62, wl_65, wl_90, wl_97, wl_99, wl_100, wl_121, wl_122, wl_140, wl_142, wl_143, wl_145, wl_147, wl_160, wl_161, wl_162, wl_242, wl_380, wl_400, wl_420, wl_820, wl_1340, wl_5480, wl_9999, true_and, and_true, true_or, or_true, if_true, if_false, and_self, or_self, false_and, and_false, false_or, or_false, not_true_eq_false, not_false_eq_true, Int.reduceEq, Int.reduceLT, Int.reduceLE, Int.reduceToNat, Int.reduceAdd, Int.reduceMul, Int.reduceSub, Int.reduceMod, Int.reduceDiv, Int.reduceNeg, Nat.reduceEqDiff, sm_rd_ok, sm_rd_ok2, sm_wt_ok, sm_cp_ok, Option.isSome_some, Option.getD_some, w_cont, Option.toList_some, Option.toList_none, List.cons_append, List.nil_append]
    rw [b65_8, kk_63 H, rr_63_0 H, kk_51 H]
    simp only [wr_id, wr_b2i, wr_wr, b2i_eq0, b2i_eq1, b2i_01, sm_rem_eq, sm_div_eq, wl_m2, wl_m1, wl_0, wl_1, wl_2, wl_3, wl_4, wl_5, wl_6, wl_7, wl_8, wl_9, wl_10, wl_12, wl_13, wl_14, wl_16, wl_20, wl_21, wl_22, wl_23, wl_32, wl_36, wl_40, wl_41, wl_42, wl_43, wl_44, wl_45, wl_46, wl_47, wl_48, wl_57, wl_59, wl_60, wl_61, wl_62, wl_65, wl_90, wl_97, wl_99, wl_100, wl_121, wl_122, wl_140, wl_142, wl_143, wl_145, wl_147, wl_160, wl_161, wl_162, wl_242, wl_380, wl_400, wl_420, wl_820, wl_1340, wl_5480, wl_9999, true_and, and_true, true_or, or_true, if_true, if_false, and_self, or_self, false_and, and_false, false_or, or_false, not_true_eq_false, not_false_eq_true, Int.reduceEq, Int.reduceLT, Int.reduceLE, Int.reduceToNat, Int.reduceAdd, Int.reduceMul, Int.reduceSub, Int.reduceMod, Int.reduceDiv, Int.reduceNeg, Nat.reduceEqDiff, sm_rd_ok, sm_rd_ok2, sm_wt_ok, sm_cp_ok, Option.isSome_some, Option.getD_some, w_cont, Option.toList_some, Option.toList_none, List.cons_append, List.nil_append]
    refine (q2 _).trans ?_
    rw [w_cont]
    simp only [wr_id, wr_b2i, wr_wr, b2i_eq0, b2i_eq1, b2i_01, sm_rem_eq, sm_div_eq, wl_m2, wl_m1, wl_0, wl_1, wl_2, wl_3, wl_4, wl_5, wl_6, wl_7, wl_8, wl_9, wl_10, wl_12, wl_13, wl_14, wl_16, wl_20, wl_21, wl_22, wl_23, wl_32, wl_36, wl_40, wl_41, wl_42, wl_43, wl_44, wl_45, wl_46, wl_47, wl_48, wl_57, wl_59, wl_60, wl_61, wl_62, wl_65, wl_90, wl_97, wl_99, wl_100, wl_121, wl_122, wl_140, wl_142, wl_143, wl_145, wl_147, wl_160, wl_161, wl_162, wl_242, wl_380, wl_400, wl_420, wl_820, wl_1340, wl_5480, wl_9999, true_and, and_true, true_or, or_true, if_true, if_false, and_self, or_self, false_and, and_false, false_or, or_false, not_true_eq_false, not_false_eq_true, Int.reduceEq, Int.reduceLT, Int.reduceLE, Int.reduceToNat, Int.reduceAdd, Int.reduceMul, Int.reduceSub, Int.reduceMod, Int.reduceDiv, Int.reduceNeg, Nat.reduceEqDiff, sm_rd_ok, sm_rd_ok2, sm_wt_ok, sm_cp_ok, Option.isSome_some, Option.getD_some, w_cont, Option.toList_some, Option.toList_none, List.cons_append, List.nil_append]
    rw [b65_17, kk_51 H, rr_51_2 H]
    simp only [wr_id, wr_b2i, wr_wr, b2i_eq0, b2i_eq1, b2i_01, sm_rem_eq, sm_div_eq, wl_m2, wl_m1, wl_0, wl_1, wl_2, wl_3, wl_4, wl_5, wl_6, wl_7, wl_8, wl_9, wl_10, wl_12, wl_13, wl_14, wl_16, wl_20, wl_21, wl_22, wl_23, wl_32, wl_36, wl_40, wl_41, wl_42, wl_43, wl_44, wl_45, wl_46, wl_47, wl_48, wl_57, wl_59, wl_60, wl_61, wl_62, wl_65, wl_90, wl_97, wl_99, wl_100, wl_121, wl_122, wl_140, wl_142, wl_143, wl_145, wl_147, wl_160, wl_161, wl_162, wl_242, wl_380, wl_400, wl_420, wl_820, wl_1340, wl_5480, wl_9999, true_and, and_true, true_or, or_true, if_true, if_false, and_self, or_self, false_and, and_false, false_or, or_false, not_true_eq_false, not_false_eq_true, Int.reduceEq, Int.reduceLT, Int.reduceLE, Int.reduceToNat, Int.reduceAdd, Int.reduceMul, Int.reduceSub, Int.reduceMod, Int.reduceDiv, Int.reduceNeg, Nat.reduceEqDiff, sm_rd_ok, sm_rd_ok2, sm_wt_ok, sm_cp_ok, Option.isSome_some, Option.getD_some, w_cont, Option.toList_some, Option.toList_none, List.cons_append, List.nil_append, kk_59 H]
    rw [c_get (q := 60) (len := 40) (by rw [kk_59 H]) (rr_59_1 H) (kk_60 H) (by rw [c2]; omega) (by omega) (by omega), w_cont]
    simp only [wr_id, wr_b2i, wr_wr, b2i_eq0, b2i_eq1, b2i_01, sm_rem_eq, sm_div_eq, wl_m2, wl_m1, wl_0, wl_1, wl_2, wl_3, wl_4, wl_5, wl_6, wl_7, wl_8, wl_9, wl_10, wl_12, wl_13, wl_14, wl_16, wl_20, wl_21, wl_22, wl_23, wl_32, wl_36, wl_40, wl_41, wl_42, wl_43, wl_44, wl_45, wl_46, wl_47, wl_48, wl_57, wl_59, wl_60, wl_61, wl_62, wl_65, wl_90, wl_97, wl_99, wl_100, wl_121, wl_122, wl_140, wl_142, wl_143, wl_145, wl_147, wl_160, wl_161, wl_162, wl_242, wl_380, wl_400, wl_420, wl_820, wl_1340, wl_5480, wl_9999, true_and, and_true, true_or, or_true, if_true, if_false, and_self, or_self, false_and, and_false, false_or, or_false, not_true_eq_false, not_false_eq_true, Int.reduceEq, Int.reduceLT, Int.reduceLE, Int.reduceToNat, Int.reduceAdd, Int.reduceMul, Int.reduceSub, Int.reduceMod, Int.reduceDiv, Int.reduceNeg, Nat.reduceEqDiff, sm_rd_ok, sm_rd_ok2, sm_wt_ok, sm_cp_ok, Option.isSome_some, Option.getD_some, w_cont, Option.toList_some, Option.toList_none, List.cons_append, List.nil_append]
    rw [b65_27, w_cont]
    simp only [wr_id, wr_b2i, wr_wr, b2i_eq0, b2i_eq1, b2i_01, sm_rem_eq, sm_div_eq, wl_m2, wl_m1, wl_0, wl_1, wl_2, wl_3, wl_4, wl_5, wl_6, wl_7, wl_8, wl_9, wl_10, wl_12, wl_13, wl_14, wl_16, wl_20, wl_21, wl_22, wl_23, wl_32, wl_36, wl_40, wl_41, wl_42, wl_43, wl_44, wl_45, wl_46, wl_47, wl_48, wl_57, wl_59, wl_60, wl_61, wl_62, wl_65, wl_90, wl_97, wl_99, wl_100, wl_121, wl_122, wl_140, wl_142, wl_143, wl_145, wl_147, wl_160, wl_161, wl_162, wl_242, wl_380, wl_400, wl_420, wl_820, wl_1340, wl_5480, wl_9999, true_and, and_true, true_or, or_true, if_true, if_false, and_self, or_self, false_and, and_false, false_or, or_false, not_true_eq_false, not_false_eq_true, Int.reduceEq, Int.reduceLT, Int.reduceLE, Int.reduceToNat, Int.reduceAdd, Int.reduceMul, Int.reduceSub, Int.reduceMod, Int.reduceDiv, Int.reduceNeg, Nat.reduceEqDiff, sm_rd_ok, sm_rd_ok2, sm_wt_ok, sm_cp_ok, Option.isSome_some, Option.getD_some, w_cont, Option.toList_some, Option.toList_none, List.cons_append, List.nil_append]
    rw [b103_48]
    congr 3
    have e := e2 s.toNat (by omega)
    unfold rGet enw
    rw [c2, if_pos (by omega)]
    by_cases w0 : w = 0
    · rw [if_pos w0, ← e.1]
      congr 1
      omega
    · rw [if_neg w0]
      by_cases w1 : w = 1
      · rw [if_pos w1, ← e.2.1]
        congr 1
        omega
      · rw [if_neg w1]
        by_cases w2 : w = 2
        · rw [if_pos w2, ← e.2.2.1]
          congr 1
          omega
        · rw [if_neg w2, ← e.2.2.2]
          congr 1
          omega
  · refine ⟨Z, frT_refl Z, fun Q => ?_⟩
    rw [head, if_neg hc, if_neg hc]
theorem m_ends (H : sm_sh Rf K) {M : Nat → Int} (hM : Z 80 = M) (hi : invD M) (h6 : Z 79 6 = 0) {s w : Int} (hs : aI s) (hw : aI w) : ∃ Z', frU Z Z' ∧ ∀ Q, sm_call (d + 7) 184 [.inr (some 79), .inl s, .inl w] (Z, Rf, K, n, z) Q = Q (some (.inl (if (0 ≤ s ∧ s < M 4) ∧ 0 ≤ w ∧ w ≤ 3 then enw (endS true s.toNat M) w else -1))) (Z', Rf, K, n, z) := by
  have h4 := hi.2.1.1
  unfold aI at hs hw
  have head : ∀ Q, sm_call (d + 7) 184 [.inr (some 79), .inl s, .inl w] (Z, Rf, K, n, z) Q = if (0 ≤ s ∧ s < M 4) ∧ 0 ≤ w ∧ w ≤ 3 then sm_wp (d + 7) 184 27 [some (.inr (some 79)), some (.inl s), some (.inl w)] [] (Z, Rf, K, n, z) Q else Q (some (.inl (-1))) (Z, Rf, K, n, z) := by
    intro Q
    rw [ce184, b184_0, kk_79 H, rr_79_0 H]
    simp (disch := omega) only [wr_id, wr_b2i, wr_wr, b2i_eq0, b2i_eq1, b2i_01, sm_rem_eq, sm_div_eq, wl_m2, wl_m1, wl_0, wl_1, wl_2, wl_3, wl_4, wl_5, wl_6, wl_7, wl_8, wl_9, wl_10, wl_12, wl_13, wl_14, wl_16, wl_20, wl_21, wl_22, wl_23, wl_32, wl_36, wl_40, wl_41, wl_42, wl_43, wl_44, wl_45, wl_46, wl_47, wl_48, wl_57, wl_59, wl_60, wl_61, wl_62, wl_65, wl_90, wl_97, wl_99, wl_100, wl_121, wl_122, wl_140, wl_142, wl_143, wl_145, wl_147, wl_160, wl_161, wl_162, wl_242, wl_380, wl_400, wl_420, wl_820, wl_1340, wl_5480, wl_9999, true_and, and_true, true_or, or_true, if_true, if_false, and_self, or_self, false_and, and_false, false_or, or_false, not_true_eq_false, not_false_eq_true, Int.reduceEq, Int.reduceLT, Int.reduceLE, Int.reduceToNat, Int.reduceAdd, Int.reduceMul, Int.reduceSub, Int.reduceMod, Int.reduceDiv, Int.reduceNeg, Nat.reduceEqDiff, sm_rd_ok, sm_rd_ok2, sm_wt_ok, sm_cp_ok, Option.isSome_some, Option.getD_some, w_cont, Option.toList_some, Option.toList_none, List.cons_append, List.nil_append, kk_80 H, hM]
    rw [m_isIn hs (by omega) (by omega), w_cont]
    simp only [wr_id, wr_b2i, wr_wr, b2i_eq0, b2i_eq1, b2i_01, sm_rem_eq, sm_div_eq, wl_m2, wl_m1, wl_0, wl_1, wl_2, wl_3, wl_4, wl_5, wl_6, wl_7, wl_8, wl_9, wl_10, wl_12, wl_13, wl_14, wl_16, wl_20, wl_21, wl_22, wl_23, wl_32, wl_36, wl_40, wl_41, wl_42, wl_43, wl_44, wl_45, wl_46, wl_47, wl_48, wl_57, wl_59, wl_60, wl_61, wl_62, wl_65, wl_90, wl_97, wl_99, wl_100, wl_121, wl_122, wl_140, wl_142, wl_143, wl_145, wl_147, wl_160, wl_161, wl_162, wl_242, wl_380, wl_400, wl_420, wl_820, wl_1340, wl_5480, wl_9999, true_and, and_true, true_or, or_true, if_true, if_false, and_self, or_self, false_and, and_false, false_or, or_false, not_true_eq_false, not_false_eq_true, Int.reduceEq, Int.reduceLT, Int.reduceLE, Int.reduceToNat, Int.reduceAdd, Int.reduceMul, Int.reduceSub, Int.reduceMod, Int.reduceDiv, Int.reduceNeg, Nat.reduceEqDiff, sm_rd_ok, sm_rd_ok2, sm_wt_ok, sm_cp_ok, Option.isSome_some, Option.getD_some, w_cont, Option.toList_some, Option.toList_none, List.cons_append, List.nil_append]
    rw [b184_13]
    simp only [wr_id, wr_b2i, wr_wr, b2i_eq0, b2i_eq1, b2i_01, sm_rem_eq, sm_div_eq, wl_m2, wl_m1, wl_0, wl_1, wl_2, wl_3, wl_4, wl_5, wl_6, wl_7, wl_8, wl_9, wl_10, wl_12, wl_13, wl_14, wl_16, wl_20, wl_21, wl_22, wl_23, wl_32, wl_36, wl_40, wl_41, wl_42, wl_43, wl_44, wl_45, wl_46, wl_47, wl_48, wl_57, wl_59, wl_60, wl_61, wl_62, wl_65, wl_90, wl_97, wl_99, wl_100, wl_121, wl_122, wl_140, wl_142, wl_143, wl_145, wl_147, wl_160, wl_161, wl_162, wl_242, wl_380, wl_400, wl_420, wl_820, wl_1340, wl_5480, wl_9999, true_and, and_true, true_or, or_true, if_true, if_false, and_self, or_self, false_and, and_false, false_or, or_false, not_true_eq_false, not_false_eq_true, Int.reduceEq, Int.reduceLT, Int.reduceLE, Int.reduceToNat, Int.reduceAdd, Int.reduceMul, Int.reduceSub, Int.reduceMod, Int.reduceDiv, Int.reduceNeg, Nat.reduceEqDiff, sm_rd_ok, sm_rd_ok2, sm_wt_ok, sm_cp_ok, Option.isSome_some, Option.getD_some, w_cont, Option.toList_some, Option.toList_none, List.cons_append, List.nil_append, isInB, decide_eq_false_iff_not]
    by_cases h1 : 0 ≤ s ∧ s ≤ M 4 - 1
    · rw [if_neg (fun g => g h1), b184_16, m_isIn hw (by omega) (by omega), w_cont]
      simp only [wr_id, wr_b2i, wr_wr, b2i_eq0, b2i_eq1, b2i_01, sm_rem_eq, sm_div_eq, wl_m2, wl_m1, wl_0, wl_1, wl_2, wl_3, wl_4, wl_5, wl_6, wl_7, wl_8, wl_9, wl_10, wl_12, wl_13, wl_14, wl_16, wl_20, wl_21, wl_22, wl_23, wl_32, wl_36, wl_40, wl_41, wl_42, wl_43, wl_44, wl_45, wl_46, wl_47, wl_48, wl_57, wl_59, wl_60, wl_61, wl_62, wl_65, wl_90, wl_97, wl_99, wl_100, wl_121, wl_122, wl_140, wl_142, wl_143, wl_145, wl_147, wl_160, wl_161, wl_162, wl_242, wl_380, wl_400, wl_420, wl_820, wl_1340, wl_5480, wl_9999, true_and, and_true, true_or, or_true, if_true, if_false, and_self, or_self, false_and, and_false, false_or, or_false, not_true_eq_false, not_false_eq_true, Int.reduceEq, Int.reduceLT, Int.reduceLE, Int.reduceToNat, Int.reduceAdd, Int.reduceMul, Int.reduceSub, Int.reduceMod, Int.reduceDiv, Int.reduceNeg, Nat.reduceEqDiff, sm_rd_ok, sm_rd_ok2, sm_wt_ok, sm_cp_ok, Option.isSome_some, Option.getD_some, w_cont, Option.toList_some, Option.toList_none, List.cons_append, List.nil_append]
      rw [b184_22]
      simp only [wr_id, wr_b2i, wr_wr, b2i_eq0, b2i_eq1, b2i_01, sm_rem_eq, sm_div_eq, wl_m2, wl_m1, wl_0, wl_1, wl_2, wl_3, wl_4, wl_5, wl_6, wl_7, wl_8, wl_9, wl_10, wl_12, wl_13, wl_14, wl_16, wl_20, wl_21, wl_22, wl_23, wl_32, wl_36, wl_40, wl_41, wl_42, wl_43, wl_44, wl_45, wl_46, wl_47, wl_48, wl_57, wl_59, wl_60, wl_61, wl_62, wl_65, wl_90, wl_97, wl_99, wl_100, wl_121, wl_122, wl_140, wl_142, wl_143, wl_145, wl_147, wl_160, wl_161, wl_162, wl_242, wl_380, wl_400, wl_420, wl_820, wl_1340, wl_5480, wl_9999, true_and, and_true, true_or, or_true, if_true, if_false, and_self, or_self, false_and, and_false, false_or, or_false, not_true_eq_false, not_false_eq_true, Int.reduceEq, Int.reduceLT, Int.reduceLE, Int.reduceToNat, Int.reduceAdd, Int.reduceMul, Int.reduceSub, Int.reduceMod, Int.reduceDiv, Int.reduceNeg, Nat.reduceEqDiff, sm_rd_ok, sm_rd_ok2, sm_wt_ok, sm_cp_ok, Option.isSome_some, Option.getD_some, w_cont, Option.toList_some, Option.toList_none, List.cons_append, List.nil_append, isInB, decide_eq_false_iff_not]
      by_cases h2 : 0 ≤ w ∧ w ≤ 3
      · rw [if_neg (fun g => g h2), if_pos (by omega)]
      · rw [if_pos h2, if_neg (by omega), b184_25]
    · rw [if_pos h1, if_neg (by omega), b184_25]
  by_cases hc : (0 ≤ s ∧ s < M 4) ∧ 0 ≤ w ∧ w ≤ 3
  · obtain ⟨Z1, a1, a2, a3, a4, a5, q1⟩ := m_out (d := d + 6) (n := n) (z := z) H hM
    obtain ⟨Z2, b1, b2, b3, q2⟩ := m_allFly (d := d) (n := n) (z := z) H (th := true) a1 hi.1 hi.2.1 (by rw [a3]; rfl)
    have hu := agU_allS hi.1 hi.2.1
    obtain ⟨Z3, c1, c2, c3, c4, q3⟩ := m_back (d := d + 6) (n := n) (z := z) (Z := Z2) (M := M) H (fun k hk => by rw [b3 82 (by decide) (by decide) (by decide) (by decide) (by decide) (by decide) (by decide)]; exact a2 k hk) (fun k hk => by rw [b1]; exact hu k hk)
    refine ⟨Z3, ⟨fun a ha => ?_, fun j hj => ?_⟩, fun Q => ?_⟩
    · by_cases h80 : a = 80
      · rw [h80, c1, hM]
      · rw [c4 a (by omega) h80, b3 a h80 (by omega) (by omega) (by omega) (by omega) (by omega) (by omega), a5 a (by omega) (by omega)]
    · by_cases hj6 : j = 6
      · rw [hj6, c2, h6]
      · rw [c3 j hj6, b3 79 (by decide) (by decide) (by decide) (by decide) (by decide) (by decide) (by decide), a4 j hj6]
    · have e := b2 s.toNat (by omega)
      rw [head, if_pos hc, if_pos hc, b184_27, kk_79 H]
      simp only [wr_id, wr_b2i, wr_wr, b2i_eq0, b2i_eq1, b2i_01, sm_rem_eq, sm_div_eq, wl_m2, wl_m1, wl_0, wl_1, wl_2, wl_3, wl_4, wl_5, wl_6, wl_7, wl_8, wl_9, wl_10, wl_12, wl_13, wl_14, wl_16, wl_20, wl_21, wl_22, wl_23, wl_32, wl_36, wl_40, wl_41, wl_42, wl_43, wl_44, wl_45, wl_46, wl_47, wl_48, wl_57, wl_59, wl_60, wl_61, wl_62, wl_65, wl_90, wl_97, wl_99, wl_100, wl_121, wl_122, wl_140, wl_142, wl_143, wl_145, wl_147, wl_160, wl_161, wl_162, wl_242, wl_380, wl_400, wl_420, wl_820, wl_1340, wl_5480, wl_9999, true_and, and_true, true_or, or_true, if_true, if_false, and_self, or_self, false_and, and_false, false_or, or_false, not_true_eq_false, not_false_eq_true, Int.reduceEq, Int.reduceLT, Int.reduceLE, Int.reduceToNat, Int.reduceAdd, Int.reduceMul, Int.reduceSub, Int.reduceMod, Int.reduceDiv, Int.reduceNeg, Nat.reduceEqDiff, sm_rd_ok, sm_rd_ok2, sm_wt_ok, sm_cp_ok, Option.isSome_some, Option.getD_some, w_cont, Option.toList_some, Option.toList_none, List.cons_append, List.nil_append]
      refine (q1 _).trans ?_
      rw [w_cont]
      simp only [wr_id, wr_b2i, wr_wr, b2i_eq0, b2i_eq1, b2i_01, sm_rem_eq, sm_div_eq, wl_m2, wl_m1, wl_0, wl_1, wl_2, wl_3, wl_4, wl_5, wl_6, wl_7, wl_8, wl_9, wl_10, wl_12, wl_13, wl_14, wl_16, wl_20, wl_21, wl_22, wl_23, wl_32, wl_36, wl_40, wl_41, wl_42, wl_43, wl_44, wl_45, wl_46, wl_47, wl_48, wl_57, wl_59, wl_60, wl_61, wl_62, wl_65, wl_90, wl_97, wl_99, wl_100, wl_121, wl_122, wl_140, wl_142, wl_143, wl_145, wl_147, wl_160, wl_161, wl_162, wl_242, wl_380, wl_400, wl_420, wl_820, wl_1340, wl_5480, wl_9999, true_and, and_true, true_or, or_true, if_true, if_false, and_self, or_self, false_and, and_false, false_or, or_false, not_true_eq_false, not_false_eq_true, Int.reduceEq, Int.reduceLT, Int.reduceLE, Int.reduceToNat, Int.reduceAdd, Int.reduceMul, Int.reduceSub, Int.reduceMod, Int.reduceDiv, Int.reduceNeg, Nat.reduceEqDiff, sm_rd_ok, sm_rd_ok2, sm_wt_ok, sm_cp_ok, Option.isSome_some, Option.getD_some, w_cont, Option.toList_some, Option.toList_none, List.cons_append, List.nil_append]
      rw [b184_31, kk_79 H]
      simp only [wr_id, wr_b2i, wr_wr, b2i_eq0, b2i_eq1, b2i_01, sm_rem_eq, sm_div_eq, wl_m2, wl_m1, wl_0, wl_1, wl_2, wl_3, wl_4, wl_5, wl_6, wl_7, wl_8, wl_9, wl_10, wl_12, wl_13, wl_14, wl_16, wl_20, wl_21, wl_22, wl_23, wl_32, wl_36, wl_40, wl_41, wl_42, wl_43, wl_44, wl_45, wl_46, wl_47, wl_48, wl_57, wl_59, wl_60, wl_61, wl_62, wl_65, wl_90, wl_97, wl_99, wl_100, wl_121, wl_122, wl_140, wl_142, wl_143, wl_145, wl_147, wl_160, wl_161, wl_162, wl_242, wl_380, wl_400, wl_420, wl_820, wl_1340, wl_5480, wl_9999, true_and, and_true, true_or, or_true, if_true, if_false, and_self, or_self, false_and, and_false, false_or, or_false, not_true_eq_false, not_false_eq_true, Int.reduceEq, Int.reduceLT, Int.reduceLE, Int.reduceToNat, Int.reduceAdd, Int.reduceMul, Int.reduceSub, Int.reduceMod, Int.reduceDiv, Int.reduceNeg, Nat.reduceEqDiff, sm_rd_ok, sm_rd_ok2, sm_wt_ok, sm_cp_ok, Option.isSome_some, Option.getD_some, w_cont, Option.toList_some, Option.toList_none, List.cons_append, List.nil_append]
      refine (q2 _).trans ?_
      rw [w_cont]
      simp only [wr_id, wr_b2i, wr_wr, b2i_eq0, b2i_eq1, b2i_01, sm_rem_eq, sm_div_eq, wl_m2, wl_m1, wl_0, wl_1, wl_2, wl_3, wl_4, wl_5, wl_6, wl_7, wl_8, wl_9, wl_10, wl_12, wl_13, wl_14, wl_16, wl_20, wl_21, wl_22, wl_23, wl_32, wl_36, wl_40, wl_41, wl_42, wl_43, wl_44, wl_45, wl_46, wl_47, wl_48, wl_57, wl_59, wl_60, wl_61, wl_62, wl_65, wl_90, wl_97, wl_99, wl_100, wl_121, wl_122, wl_140, wl_142, wl_143, wl_145, wl_147, wl_160, wl_161, wl_162, wl_242, wl_380, wl_400, wl_420, wl_820, wl_1340, wl_5480, wl_9999, true_and, and_true, true_or, or_true, if_true, if_false, and_self, or_self, false_and, and_false, false_or, or_false, not_true_eq_false, not_false_eq_true, Int.reduceEq, Int.reduceLT, Int.reduceLE, Int.reduceToNat, Int.reduceAdd, Int.reduceMul, Int.reduceSub, Int.reduceMod, Int.reduceDiv, Int.reduceNeg, Nat.reduceEqDiff, sm_rd_ok, sm_rd_ok2, sm_wt_ok, sm_cp_ok, Option.isSome_some, Option.getD_some, w_cont, Option.toList_some, Option.toList_none, List.cons_append, List.nil_append]
      rw [b184_35, kk_79 H]
      simp only [wr_id, wr_b2i, wr_wr, b2i_eq0, b2i_eq1, b2i_01, sm_rem_eq, sm_div_eq, wl_m2, wl_m1, wl_0, wl_1, wl_2, wl_3, wl_4, wl_5, wl_6, wl_7, wl_8, wl_9, wl_10, wl_12, wl_13, wl_14, wl_16, wl_20, wl_21, wl_22, wl_23, wl_32, wl_36, wl_40, wl_41, wl_42, wl_43, wl_44, wl_45, wl_46, wl_47, wl_48, wl_57, wl_59, wl_60, wl_61, wl_62, wl_65, wl_90, wl_97, wl_99, wl_100, wl_121, wl_122, wl_140, wl_142, wl_143, wl_145, wl_147, wl_160, wl_161, wl_162, wl_242, wl_380, wl_400, wl_420, wl_820, wl_1340, wl_5480, wl_9999, true_and, and_true, true_or, or_true, if_true, if_false, and_self, or_self, false_and, and_false, false_or, or_false, not_true_eq_false, not_false_eq_true, Int.reduceEq, Int.reduceLT, Int.reduceLE, Int.reduceToNat, Int.reduceAdd, Int.reduceMul, Int.reduceSub, Int.reduceMod, Int.reduceDiv, Int.reduceNeg, Nat.reduceEqDiff, sm_rd_ok, sm_rd_ok2, sm_wt_ok, sm_cp_ok, Option.isSome_some, Option.getD_some, w_cont, Option.toList_some, Option.toList_none, List.cons_append, List.nil_append]
      refine (q3 _).trans ?_
      rw [w_cont]
      simp only [wr_id, wr_b2i, wr_wr, b2i_eq0, b2i_eq1, b2i_01, sm_rem_eq, sm_div_eq, wl_m2, wl_m1, wl_0, wl_1, wl_2, wl_3, wl_4, wl_5, wl_6, wl_7, wl_8, wl_9, wl_10, wl_12, wl_13, wl_14, wl_16, wl_20, wl_21, wl_22, wl_23, wl_32, wl_36, wl_40, wl_41, wl_42, wl_43, wl_44, wl_45, wl_46, wl_47, wl_48, wl_57, wl_59, wl_60, wl_61, wl_62, wl_65, wl_90, wl_97, wl_99, wl_100, wl_121, wl_122, wl_140, wl_142, wl_143, wl_145, wl_147, wl_160, wl_161, wl_162, wl_242, wl_380, wl_400, wl_420, wl_820, wl_1340, wl_5480, wl_9999, true_and, and_true, true_or, or_true, if_true, if_false, and_self, or_self, false_and, and_false, false_or, or_false, not_true_eq_false, not_false_eq_true, Int.reduceEq, Int.reduceLT, Int.reduceLE, Int.reduceToNat, Int.reduceAdd, Int.reduceMul, Int.reduceSub, Int.reduceMod, Int.reduceDiv, Int.reduceNeg, Nat.reduceEqDiff, sm_rd_ok, sm_rd_ok2, sm_wt_ok, sm_cp_ok, Option.isSome_some, Option.getD_some, w_cont, Option.toList_some, Option.toList_none, List.cons_append, List.nil_append]
      unfold enw
      rw [b184_39, wr_id hw.1 hw.2]
      by_cases w0 : w = 0
      · rw [if_pos w0, if_pos w0, b184_43, kk_79 H, rr_79_24 H]
        simp (disch := omega) only [wr_id, wr_b2i, wr_wr, b2i_eq0, b2i_eq1, b2i_01, sm_rem_eq, sm_div_eq, wl_m2, wl_m1, wl_0, wl_1, wl_2, wl_3, wl_4, wl_5, wl_6, wl_7, wl_8, wl_9, wl_10, wl_12, wl_13, wl_14, wl_16, wl_20, wl_21, wl_22, wl_23, wl_32, wl_36, wl_40, wl_41, wl_42, wl_43, wl_44, wl_45, wl_46, wl_47, wl_48, wl_57, wl_59, wl_60, wl_61, wl_62, wl_65, wl_90, wl_97, wl_99, wl_100, wl_121, wl_122, wl_140, wl_142, wl_143, wl_145, wl_147, wl_160, wl_161, wl_162, wl_242, wl_380, wl_400, wl_420, wl_820, wl_1340, wl_5480, wl_9999, true_and, and_true, true_or, or_true, if_true, if_false, and_self, or_self, false_and, and_false, false_or, or_false, not_true_eq_false, not_false_eq_true, Int.reduceEq, Int.reduceLT, Int.reduceLE, Int.reduceToNat, Int.reduceAdd, Int.reduceMul, Int.reduceSub, Int.reduceMod, Int.reduceDiv, Int.reduceNeg, Nat.reduceEqDiff, sm_rd_ok, sm_rd_ok2, sm_wt_ok, sm_cp_ok, Option.isSome_some, Option.getD_some, w_cont, Option.toList_some, Option.toList_none, List.cons_append, List.nil_append, kk_89 H]
        rw [b184_86, c4 89 (by decide) (by decide), e.1]
      · rw [if_neg w0, if_neg w0, b184_52, wr_id hw.1 hw.2]
        by_cases w1 : w = 1
        · rw [if_pos w1, if_pos w1, b184_57, kk_79 H, rr_79_25 H]
          simp (disch := omega) only [wr_id, wr_b2i, wr_wr, b2i_eq0, b2i_eq1, b2i_01, sm_rem_eq, sm_div_eq, wl_m2, wl_m1, wl_0, wl_1, wl_2, wl_3, wl_4, wl_5, wl_6, wl_7, wl_8, wl_9, wl_10, wl_12, wl_13, wl_14, wl_16, wl_20, wl_21, wl_22, wl_23, wl_32, wl_36, wl_40, wl_41, wl_42, wl_43, wl_44, wl_45, wl_46, wl_47, wl_48, wl_57, wl_59, wl_60, wl_61, wl_62, wl_65, wl_90, wl_97, wl_99, wl_100, wl_121, wl_122, wl_140, wl_142, wl_143, wl_145, wl_147, wl_160, wl_161, wl_162, wl_242, wl_380, wl_400, wl_420, wl_820, wl_1340, wl_5480, wl_9999, true_and, and_true, true_or, or_true, if_true, if_false, and_self, or_self, false_and, and_false, false_or, or_false, not_true_eq_false, not_false_eq_true, Int.reduceEq, Int.reduceLT, Int.reduceLE, Int.reduceToNat, Int.reduceAdd, Int.reduceMul, Int.reduceSub, Int.reduceMod, Int.reduceDiv, Int.reduceNeg, Nat.reduceEqDiff, sm_rd_ok, sm_rd_ok2, sm_wt_ok, sm_cp_ok, Option.isSome_some, Option.getD_some, w_cont, Option.toList_some, Option.toList_none, List.cons_append, List.nil_append, kk_90 H]
          rw [b184_86, c4 90 (by decide) (by decide), e.2.1]
        · rw [if_neg w1, if_neg w1, b184_66, wr_id hw.1 hw.2]
          by_cases w2 : w = 2
          · rw [if_pos w2, if_pos w2, b184_71, kk_79 H, rr_79_26 H]
            simp (disch := omega) only [wr_id, wr_b2i, wr_wr, b2i_eq0, b2i_eq1, b2i_01, sm_rem_eq, sm_div_eq, wl_m2, wl_m1, wl_0, wl_1, wl_2, wl_3, wl_4, wl_5, wl_6, wl_7, wl_8, wl_9, wl_10, wl_12, wl_13, wl_14, wl_16, wl_20, wl_21, wl_22, wl_23, wl_32, wl_36, wl_40, wl_41, wl_42, wl_43, wl_44, wl_45, wl_46, wl_47, wl_48, wl_57, wl_59, wl_60, wl_61, wl_62, wl_65, wl_90, wl_97, wl_99, wl_100, wl_121, wl_122, wl_140, wl_142, wl_143, wl_145, wl_147, wl_160, wl_161, wl_162, wl_242, wl_380, wl_400, wl_420, wl_820, wl_1340, wl_5480, wl_9999, true_and, and_true, true_or, or_true, if_true, if_false, and_self, or_self, false_and, and_false, false_or, or_false, not_true_eq_false, not_false_eq_true, Int.reduceEq, Int.reduceLT, Int.reduceLE, Int.reduceToNat, Int.reduceAdd, Int.reduceMul, Int.reduceSub, Int.reduceMod, Int.reduceDiv, Int.reduceNeg, Nat.reduceEqDiff, sm_rd_ok, sm_rd_ok2, sm_wt_ok, sm_cp_ok, Option.isSome_some, Option.getD_some, w_cont, Option.toList_some, Option.toList_none, List.cons_append, List.nil_append, kk_91 H]
            rw [b184_86, c4 91 (by decide) (by decide), e.2.2.1]
          · rw [if_neg w2, if_neg w2, b184_80, kk_79 H, rr_79_27 H]
            simp (disch := omega) only [wr_id, wr_b2i, wr_wr, b2i_eq0, b2i_eq1, b2i_01, sm_rem_eq, sm_div_eq, wl_m2, wl_m1, wl_0, wl_1, wl_2, wl_3, wl_4, wl_5, wl_6, wl_7, wl_8, wl_9, wl_10, wl_12, wl_13, wl_14, wl_16, wl_20, wl_21, wl_22, wl_23, wl_32, wl_36, wl_40, wl_41, wl_42, wl_43, wl_44, wl_45, wl_46, wl_47, wl_48, wl_57, wl_59, wl_60, wl_61, wl_62, wl_65, wl_90, wl_97, wl_99, wl_100, wl_121, wl_122, wl_140, wl_142, wl_143, wl_145, wl_147, wl_160, wl_161, wl_162, wl_242, wl_380, wl_400, wl_420, wl_820, wl_1340, wl_5480, wl_9999, true_and, and_true, true_or, or_true, if_true, if_false, and_self, or_self, false_and, and_false, false_or, or_false, not_true_eq_false, not_false_eq_true, Int.reduceEq, Int.reduceLT, Int.reduceLE, Int.reduceToNat, Int.reduceAdd, Int.reduceMul, Int.reduceSub, Int.reduceMod, Int.reduceDiv, Int.reduceNeg, Nat.reduceEqDiff, sm_rd_ok, sm_rd_ok2, sm_wt_ok, sm_cp_ok, Option.isSome_some, Option.getD_some, w_cont, Option.toList_some, Option.toList_none, List.cons_append, List.nil_append, kk_92 H]
            rw [b184_86, c4 92 (by decide) (by decide), e.2.2.2]
  · refine ⟨Z, frU_refl Z, fun Q => ?_⟩
    rw [head, if_neg hc, if_neg hc]
end ENDS
