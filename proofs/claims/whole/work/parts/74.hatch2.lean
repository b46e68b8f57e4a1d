/-- whether a hatching is in the set -/
def bitS (set : Int) (i : Nat) : Int := set / (2 ^ i : Nat) % 2
theorem bit_eq {set : Int} {i : Nat} (h : 0 ≤ set ∧ set < 64) (hi : i < 32) : sm_and (sm_shr set (i : Int)) 1 = bitS set i := by
  have h1 : set / ((2 ^ i : Nat) : Int) ≤ set := Int.ediv_le_self _ h.1
  have h2 : 0 ≤ set / ((2 ^ i : Nat) : Int) := Int.ediv_nonneg h.1 (Int.natCast_nonneg _)
  rw [shr_bv _ _ hi, wr_id (show -2147483648 ≤ set by omega) (show set < 2147483648 by omega), and_1, wr_id (by omega) (by omega)]
  rfl
theorem bitS_01 (set : Int) (i : Nat) : bitS set i = 0 ∨ bitS set i = 1 := by
  unfold bitS
  omega
/-- hatchings in thought -/
def ht1 (set : Int) (M : Nat → Int) (i : Nat) : Nat → Int := mU M (20 + (M (1900 + 3 * i)).toNat) (M (20 + (M (1900 + 3 * i)).toNat) + bitS set i * M (1901 + 3 * i))
def htR (set : Int) : Nat → Nat → (Nat → Int) → (Nat → Int)
  | 0, _, M => M
  | k + 1, i, M => htR set k (i + 1) (ht1 set M i)
theorem ht1_o {set : Int} {M : Nat → Int} {i j : Nat} (hc : 0 ≤ M (1900 + 3 * i) ∧ M (1900 + 3 * i) < 100) (hj : j < 20 ∨ 120 ≤ j) : ht1 set M i j = M j := by
  unfold ht1 mU
  rw [if_neg (by omega)]
theorem ht1_zero {set : Int} {M : Nat → Int} {i : Nat} (h : bitS set i = 0) : ht1 set M i = M := by
  funext k
  unfold ht1 mU
  split
  · rename_i hk
    rw [h, hk]
    omega
  · rfl
def htI (M : Nat → Int) : Prop := (0 ≤ M 7 ∧ M 7 ≤ 6) ∧ ∀ i : Nat, (i : Int) < M 7 → isC (M 0) (M 1) (M (1900 + 3 * i)) = true
theorem htI_of {M : Nat → Int} (hi : invD M) : htI M := ⟨hi.2.2.2.2.2.2.2.2.1.1, fun i h => (hi.2.2.2.2.2.2.2.2.1.2 i h).1⟩
theorem htI_bd {M : Nat → Int} (h : htI M) {i : Nat} (hi : (i : Int) < M 7) : 0 ≤ M (1900 + 3 * i) ∧ M (1900 + 3 * i) < 100 := by
  have := h.2 i hi
  simp only [isC, decide_eq_true_eq] at this
  omega
theorem htI_ht1 {set : Int} {M : Nat → Int} {i : Nat} (h : htI M) (hi : (i : Int) < M 7) : htI (ht1 set M i) := by
  have b := htI_bd h hi
  unfold htI at h ⊢
  rw [ht1_o b (by omega), ht1_o b (by omega), ht1_o b (by omega)]
  refine ⟨h.1, fun j hj => ?_⟩
  rw [ht1_o b (by omega)]
  exact h.2 j hj
theorem htR_o {set : Int} : ∀ (k i : Nat) (M : Nat → Int), htI M → ((i + k : Nat) : Int) ≤ M 7 → ∀ j, (j < 20 ∨ 120 ≤ j) → htR set k i M j = M j := by
  intro k
  induction k with
  | zero => intro i M _ _ j _; rfl
  | succ k ih =>
    intro i M h hk j hj
    have b := htI_bd h (i := i) (by omega)
    simp only [htR]
    rw [ih (i + 1) _ (htI_ht1 h (by omega)) (by rw [ht1_o b (by omega)]; omega) j hj, ht1_o b hj]
theorem pondS_fl {M : Nat → Int} {c : Nat} {v x y : Int} (hc : c < 100) : pondS (mU M (20 + c) v) x y = pondS M x y := by
  have e0 : mU M (20 + c) v 0 = M 0 := by unfold mU; rw [if_neg (by omega)]
  have e1 : mU M (20 + c) v 1 = M 1 := by unfold mU; rw [if_neg (by omega)]
  unfold pondS
  rw [e0, e1]
  split
  · unfold mU
    rw [if_neg (by omega)]
  · rfl
theorem rSi_fl {Z : Nat → Nat → Int} {M : Nat → Int} {c : Nat} {v : Int} (hs : szN M) (hc : isC (M 0) (M 1) (c : Int) = true) (hr : rSi Z M) : rSi (sm_u Z 53 c (Z 53 c + v)) (mU M (20 + c) (M (20 + c) + v)) := by
  unfold szN at hs
  simp only [isC, decide_eq_true_eq] at hc
  have e0 : mU M (20 + c) (M (20 + c) + v) 0 = M 0 := by unfold mU; rw [if_neg (by omega)]
  have e1 : mU M (20 + c) (M (20 + c) + v) 1 = M 1 := by unfold mU; rw [if_neg (by omega)]
  intro x y hxy
  rw [e0, e1] at hxy
  have h := hr x y hxy
  rw [sm_u_eq, sm_u_ne (by decide), pondS_fl (by omega)]
  refine ⟨?_, h.2⟩
  unfold seenS at h ⊢
  rw [e0, e1, if_pos hxy, pondS_fl (by omega), pondS_fl (by omega), pondS_fl (by omega), pondS_fl (by omega), pondS_fl (by omega)]
  rw [if_pos hxy] at h
  by_cases hq : (10 * y + x).toNat = c
  · rw [if_pos hq, ← hq, h.1]
    unfold mU
    rw [if_pos (by omega), show 20 + (10 * y + x).toNat = (20 + 10 * y + x).toNat by omega]
    omega
  · rw [if_neg hq, h.1]
    unfold mU
    rw [if_neg (by omega)]
/-- flights in thought need no flies nor ponds of the row -/
theorem rFx_cg {Z : Nat → Nat → Int} {Rf : Nat → Nat → Option Nat} {K : Nat → Nat × Nat} {M M' : Nat → Int} (hM : ∀ k, (k < 20 ∨ 220 ≤ k) → M' k = M k) (hr : rFx Z Rf K M) : rFx Z Rf K M' := by
  obtain ⟨h1, h2, h3, h4, h5, h6, h7⟩ := hr
  refine ⟨?_, fun c hc => ?_, fun k hk => ?_, ?_, fun s hs c hc => ?_, rHb_cg (fun k hk => hM k (by omega)) (fun a _ => rfl) h6, h7⟩
  · rw [hM 0 (by omega), hM 1 (by omega)]; exact h1
  · rw [hM _ (by omega)]; exact h2 c hc
  · rw [hM _ (by omega)]; exact h3 k hk
  · rw [hM 4 (by omega)]; exact h4
  · rw [hM 4 (by omega)] at hs
    rw [hM _ (by omega)]
    exact h5 s hs c hc
section HATCH2
variable {d n z : Nat} {Rf : Nat → Nat → Option Nat} {K : Nat → Nat × Nat} {Z : Nat → Nat → Int} {Q : Option sm_V → sm_S → Prop}
theorem c_think2 (H : sm_sh Rf K) (hz : sm_zs Z) {M : Nat → Int} (hi : invF M) (hw : swS M) (hx : rFx Z Rf K M) (ht : rTh Z (allS true M) 64 true) : ∃ Z', (∀ k, k < 100 → Z' 56 k = (nmS (allS true M)).1 k ∧ -1 ≤ (nmS (allS true M)).1 k ∧ (nmS (allS true M)).1 k < 100) ∧ frT Z Z' ∧ Z' 53 = Z 53 ∧ Z' 54 = Z 54 ∧ Z' 63 = Z 63 ∧ Z' 69 = Z 69 ∧ ∀ Q, sm_call (d + 3) 1 [.inr (some 55), .inr (some 1), .inr (some 64)] (Z, Rf, K, n, z) Q = Q none (Z', Rf, K, n, z) := by
  have hsz := hi.1
  unfold szN at hsz
  obtain ⟨ai, ag⟩ := allS_inv (th := true) hi hw
  have m0 := ag 0 (by omega) (by omega) (by omega)
  have m1 := ag 1 (by omega) (by omega) (by omega)
  obtain ⟨Z4, t4, f4, q4⟩ := c_mark (d := d) (n := n) (z := z) (w := M 0) (h := M 1) (T := fun j => allS true M (850 + j)) H hz (shT_64 H) hx.1 hsz (fun k hk => ⟨ht.1 k hk, ai.2.1 k hk⟩)
  have enm : nmS (allS true M) = coS (M 0) (M 1) (fun j => allS true M (850 + j)) := by unfold nmS; rw [m0, m1]
  rw [← enm] at t4
  have hnb := nmS_bd (M := allS true M) ai.1
  exact ⟨Z4, fun k hk => ⟨t4.1 k hk, hnb k hk⟩, ⟨fun a ha => f4.1 a (by omega) (by omega) (by omega) (by omega), by rw [f4.1 59 (by decide) (by decide) (by decide) (by decide)], by rw [f4.1 67 (by decide) (by decide) (by decide) (by decide)]⟩, f4.1 53 (by decide) (by decide) (by decide) (by decide), f4.1 54 (by decide) (by decide) (by decide) (by decide), f4.1 63 (by decide) (by decide) (by decide) (by decide), f4.1 69 (by decide) (by decide) (by decide) (by decide), q4⟩
theorem c_hs_loop (H : sm_sh Rf K) {set : Int} (hset : 0 ≤ set ∧ set < 64) {q0 q2 : Option sm_V} : ∀ (k i : Nat) (M : Nat → Int) (Z : Nat → Nat → Int) (l5 : Option sm_V), ((i + k : Nat) : Int) = M 7 → szN M → htI M → (Z 1 0 = M 0 ∧ Z 1 1 = M 1) → Z 14 2 = M 7 → (∀ i : Nat, (i : Int) < M 7 → ∀ c, c < 3 → Z 15 (5 * i + c) = M (1900 + 3 * i + c)) → rSi Z M → ∃ Z' l5', rSi Z' (htR set k i M) ∧ (∀ a, a ≠ 53 → Z' a = Z a) ∧ ∀ Q, sm_wp (d + 1) 72 11 [q0, some (.inr (some 1)), some (.inr (some 51)), some (.inl set), some (.inl (i : Int)), l5] [] (Z, Rf, K, n, z) Q = sm_wp (d + 1) 72 82 [q0, some (.inr (some 1)), some (.inr (some 51)), some (.inl set), some (.inl (M 7)), l5'] [] (Z', Rf, K, n, z) Q := by
  intro k
  induction k with
  | zero =>
    intro i M Z l5 hik hs hh hw h14 h15 hr
    refine ⟨Z, l5, hr, fun _ _ => rfl, fun Q => ?_⟩
    have : (i : Int) = M 7 := by omega
    rw [this, b72_11, kk_1 H, rr_1_14 H]
    simp only [wr_id, wr_b2i, wr_wr, b2i_eq0, b2i_eq1, b2i_01, sm_rem_eq, sm_div_eq, wl_m2, wl_m1, wl_0, wl_1, wl_2, wl_3, wl_4, wl_5, wl_6, wl_7, wl_8, wl_9, wl_10, wl_12, wl_13, wl_14, wl_16, wl_20, wl_21, wl_22, wl_23, wl_32, wl_36, wl_40, wl_41, wl_42, wl_43, wl_44, wl_45, wl_46, wl_47, wl_48, wl_57, wl_59, wl_60, wl_61, wl_62, wl_65, wl_90, wl_97, wl_99, wl_100, wl_121, wl_122, wl_140, wl_142, wl_143, wl_145, wl_147, wl_160, wl_161, wl_162, wl_242, wl_380, wl_400, wl_420, wl_820, wl_1340, wl_5480, wl_9999, true_and, and_true, true_or, or_true, if_true, if_false, and_self, or_self, false_and, and_false, false_or, or_false, not_true_eq_false, not_false_eq_true, Int.reduceEq, Int.reduceLT, Int.reduceLE, Int.reduceToNat, Int.reduceAdd, Int.reduceMul, Int.reduceSub, Int.reduceMod, Int.reduceDiv, Int.reduceNeg, Nat.reduceEqDiff, sm_rd_ok, sm_rd_ok2, sm_wt_ok, sm_cp_ok, Option.isSome_some, Option.getD_some, w_cont, Option.toList_some, Option.toList_none, List.cons_append, List.nil_append, kk_14 H, h14]
    rw [if_pos (Int.le_refl _)]
  | succ k ih =>
    intro i M Z l5 hik hs hh hw h14 h15 hr
    have h7 := hh.1
    have bd := htI_bd hh (i := i) (by omega)
    have hc := hh.2 i (by omega)
    have hs' := hs
    unfold szN at hs'
    have hszC : (2 ≤ Z 1 0 ∧ Z 1 0 ≤ 10) ∧ 2 ≤ Z 1 1 ∧ Z 1 1 ≤ 10 := by rw [hw.1, hw.2]; exact hs'
    have g0 : rGet Z 14 15 (i : Int) 0 = M (1900 + 3 * i) := by
      unfold rGet
      rw [if_pos (by omega), show ((i : Int) * 5 + 0).toNat = 5 * i + 0 by omega, h15 i (by omega) 0 (by omega)]
      rfl
    have g1 : rGet Z 14 15 (i : Int) 1 = M (1901 + 3 * i) := by
      unfold rGet
      rw [if_pos (by omega), show ((i : Int) * 5 + 1).toNat = 5 * i + 1 by omega, h15 i (by omega) 1 (by omega), show 1900 + 3 * i + 1 = 1901 + 3 * i by omega]
    have o : ∀ j, (j < 20 ∨ 120 ≤ j) → ht1 set M i j = M j := fun j hj => ht1_o bd hj
    have hs1 : szN (ht1 set M i) := by unfold szN; rw [o 0 (by omega), o 1 (by omega)]; exact hs'
    have nxt : ∀ (Z1 : Nat → Nat → Int) (l5a : Option sm_V), rSi Z1 (ht1 set M i) → (∀ a, a ≠ 53 → Z1 a = Z a) → ∃ Z' l5', rSi Z' (htR set (k + 1) i M) ∧ (∀ a, a ≠ 53 → Z' a = Z a) ∧ ∀ Q, sm_wp (d + 1) 72 11 [q0, some (.inr (some 1)), some (.inr (some 51)), some (.inl set), some (.inl ((i : Int) + 1)), l5a] [] (Z1, Rf, K, n, z) Q = sm_wp (d + 1) 72 82 [q0, some (.inr (some 1)), some (.inr (some 51)), some (.inl set), some (.inl (M 7)), l5'] [] (Z', Rf, K, n, z) Q := by
      intro Z1 l5a hr1 f1
      obtain ⟨Z2, l5b, a1, a2, a3⟩ := ih (i + 1) (ht1 set M i) Z1 l5a (by rw [o 7 (by omega)]; omega) hs1 (htI_ht1 hh (by omega)) (by rw [o 0 (by omega), o 1 (by omega), f1 1 (by decide)]; exact hw) (by rw [o 7 (by omega), f1 14 (by decide)]; exact h14) (fun j hj c hc => by rw [o 7 (by omega)] at hj; rw [o _ (by omega), f1 15 (by decide)]; exact h15 j hj c hc) hr1
      rw [o 7 (by omega)] at a3
      exact ⟨Z2, l5b, a1, fun a ha => by rw [a2 a ha, f1 a ha], a3⟩
    have head : ∀ Q, sm_wp (d + 1) 72 11 [q0, some (.inr (some 1)), some (.inr (some 51)), some (.inl set), some (.inl (i : Int)), l5] [] (Z, Rf, K, n, z) Q = if bitS set i = 0 then sm_wp (d + 1) 72 76 [q0, some (.inr (some 1)), some (.inr (some 51)), some (.inl set), some (.inl (i : Int)), some (.inl (M (1900 + 3 * i)))] [] (Z, Rf, K, n, z) Q else sm_wp (d + 1) 72 44 [q0, some (.inr (some 1)), some (.inr (some 51)), some (.inl set), some (.inl (i : Int)), some (.inl (M (1900 + 3 * i)))] [] (Z, Rf, K, n, z) Q := by
      intro Q
      rw [b72_11, kk_1 H, rr_1_14 H]
      simp only [wr_id, wr_b2i, wr_wr, b2i_eq0, b2i_eq1, b2i_01, sm_rem_eq, sm_div_eq, wl_m2, wl_m1, wl_0, wl_1, wl_2, wl_3, wl_4, wl_5, wl_6, wl_7, wl_8, wl_9, wl_10, wl_12, wl_13, wl_14, wl_16, wl_20, wl_21, wl_22, wl_23, wl_32, wl_36, wl_40, wl_41, wl_42, wl_43, wl_44, wl_45, wl_46, wl_47, wl_48, wl_57, wl_59, wl_60, wl_61, wl_62, wl_65, wl_90, wl_97, wl_99, wl_100, wl_121, wl_122, wl_140, wl_142, wl_143, wl_145, wl_147, wl_160, wl_161, wl_162, wl_242, wl_380, wl_400, wl_420, wl_820, wl_1340, wl_5480, wl_9999, true_and, and_true, true_or, or_true, if_true, if_false, and_self, or_self, false_and, and_false, false_or, or_false, not_true_eq_false, not_false_eq_true, Int.reduceEq, Int.reduceLT, Int.reduceLE, Int.reduceToNat, Int.reduceAdd, Int.reduceMul, Int.reduceSub, Int.reduceMod, Int.reduceDiv, Int.reduceNeg, Nat.reduceEqDiff, sm_rd_ok, sm_rd_ok2, sm_wt_ok, sm_cp_ok, Option.isSome_some, Option.getD_some, w_cont, Option.toList_some, Option.toList_none, List.cons_append, List.nil_append, kk_14 H, h14]
      rw [wr_id (by omega) (by omega), wr_id (by omega) (by omega), if_neg (by omega), b72_23, kk_1 H, rr_1_14 H]
      simp only [wr_id, wr_b2i, wr_wr, b2i_eq0, b2i_eq1, b2i_01, sm_rem_eq, sm_div_eq, wl_m2, wl_m1, wl_0, wl_1, wl_2, wl_3, wl_4, wl_5, wl_6, wl_7, wl_8, wl_9, wl_10, wl_12, wl_13, wl_14, wl_16, wl_20, wl_21, wl_22, wl_23, wl_32, wl_36, wl_40, wl_41, wl_42, wl_43, wl_44, wl_45, wl_46, wl_47, wl_48, wl_57, wl_59, wl_60, wl_61, wl_62, wl_65, wl_90, wl_97, wl_99, wl_100, wl_121, wl_122, wl_140, wl_142, wl_143, wl_145, wl_147, wl_160, wl_161, wl_162, wl_242, wl_380, wl_400, wl_420, wl_820, wl_1340, wl_5480, wl_9999, true_and, and_true, true_or, or_true, if_true, if_false, and_self, or_self, false_and, and_false, false_or, or_false, not_true_eq_false, not_false_eq_true, Int.reduceEq, Int.reduceLT, Int.reduceLE, Int.reduceToNat, Int.reduceAdd, Int.reduceMul, Int.reduceSub, Int.reduceMod, Int.reduceDiv, Int.reduceNeg, Nat.reduceEqDiff, sm_rd_ok, sm_rd_ok2, sm_wt_ok, sm_cp_ok, Option.isSome_some, Option.getD_some, w_cont, Option.toList_some, Option.toList_none, List.cons_append, List.nil_append, kk_14 H]
      rw [c_get (q := 15) (len := 30) (by rw [kk_14 H]) (rr_14_1 H) (kk_15 H) (by rw [h14]; omega) (by omega) (by omega), w_cont, g0]
      simp only [wr_id, wr_b2i, wr_wr, b2i_eq0, b2i_eq1, b2i_01, sm_rem_eq, sm_div_eq, wl_m2, wl_m1, wl_0, wl_1, wl_2, wl_3, wl_4, wl_5, wl_6, wl_7, wl_8, wl_9, wl_10, wl_12, wl_13, wl_14, wl_16, wl_20, wl_21, wl_22, wl_23, wl_32, wl_36, wl_40, wl_41, wl_42, wl_43, wl_44, wl_45, wl_46, wl_47, wl_48, wl_57, wl_59, wl_60, wl_61, wl_62, wl_65, wl_90, wl_97, wl_99, wl_100, wl_121, wl_122, wl_140, wl_142, wl_143, wl_145, wl_147, wl_160, wl_161, wl_162, wl_242, wl_380, wl_400, wl_420, wl_820, wl_1340, wl_5480, wl_9999, true_and, and_true, true_or, or_true, if_true, if_false, and_self, or_self, false_and, and_false, false_or, or_false, not_true_eq_false, not_false_eq_true, Int.reduceEq, Int.reduceLT, Int.reduceLE, Int.reduceToNat, Int.reduceAdd, Int.reduceMul, Int.reduceSub, Int.reduceMod, Int.reduceDiv, Int.reduceNeg, Nat.reduceEqDiff, sm_rd_ok, sm_rd_ok2, sm_wt_ok, sm_cp_ok, Option.isSome_some, Option.getD_some, w_cont, Option.toList_some, Option.toList_none, List.cons_append, List.nil_append]
      rw [b72_33, bit_eq hset (by omega), wr_id (by have := bitS_01 set i; omega) (by have := bitS_01 set i; omega)]
    by_cases hb : bitS set i = 0
    · obtain ⟨Z2, l5b, a1, a2, a3⟩ := nxt Z (some (.inl (M (1900 + 3 * i)))) (by rw [ht1_zero hb]; exact hr) (fun _ _ => rfl)
      refine ⟨Z2, l5b, a1, a2, fun Q => ?_⟩
      rw [head, if_pos hb, b72_76]
      exact a3 Q
    · have hb1 : bitS set i = 1 := by have := bitS_01 set i; omega
      have hr1 : rSi (sm_u Z 53 (M (1900 + 3 * i)).toNat (Z 53 (M (1900 + 3 * i)).toNat + M (1901 + 3 * i))) (ht1 set M i) := by
        have := rSi_fl (c := (M (1900 + 3 * i)).toNat) (v := M (1901 + 3 * i)) hs (by rw [show (((M (1900 + 3 * i)).toNat : Nat) : Int) = M (1900 + 3 * i) by omega]; exact hc) hr
        unfold ht1
        rw [hb1, Int.one_mul]
        exact this
      obtain ⟨Z2, l5b, a1, a2, a3⟩ := nxt _ (some (.inl (M (1900 + 3 * i)))) hr1 (fun a ha => sm_u_row ha)
      refine ⟨Z2, l5b, a1, a2, fun Q => ?_⟩
      rw [head, if_neg hb, b72_44, kk_1 H]
      simp only [wr_id, wr_b2i, wr_wr, b2i_eq0, b2i_eq1, b2i_01, sm_rem_eq, sm_div_eq, wl_m2, wl_m1, wl_0, wl_1, wl_2, wl_3, wl_4, wl_5, wl_6, wl_7, wl_8, wl_9, wl_10, wl_12, wl_13, wl_14, wl_16, wl_20, wl_21, wl_22, wl_23, wl_32, wl_36, wl_40, wl_41, wl_42, wl_43, wl_44, wl_45, wl_46, wl_47, wl_48, wl_57, wl_59, wl_60, wl_61, wl_62, wl_65, wl_90, wl_97, wl_99, wl_100, wl_121, wl_122, wl_140, wl_142, wl_143, wl_145, wl_147, wl_160, wl_161, wl_162, wl_242, wl_380, wl_400, wl_420, wl_820, wl_1340, wl_5480, wl_9999, true_and, and_true, true_or, or_true, if_true, if_false, and_self, or_self, false_and, and_false, false_or, or_false, not_true_eq_false, not_false_eq_true, Int.reduceEq, Int.reduceLT, Int.reduceLE, Int.reduceToNat, Int.reduceAdd, Int.reduceMul, Int.reduceSub, Int.reduceMod, Int.reduceDiv, Int.reduceNeg, Nat.reduceEqDiff, sm_rd_ok, sm_rd_ok2, sm_wt_ok, sm_cp_ok, Option.isSome_some, Option.getD_some, w_cont, Option.toList_some, Option.toList_none, List.cons_append, List.nil_append]
      rw [c_hasCell (by rw [kk_1 H]) hszC.1 hszC.2 (by omega), w_cont, hw.1, hw.2, hc]
      simp only [wr_id, wr_b2i, wr_wr, b2i_eq0, b2i_eq1, b2i_01, sm_rem_eq, sm_div_eq, wl_m2, wl_m1, wl_0, wl_1, wl_2, wl_3, wl_4, wl_5, wl_6, wl_7, wl_8, wl_9, wl_10, wl_12, wl_13, wl_14, wl_16, wl_20, wl_21, wl_22, wl_23, wl_32, wl_36, wl_40, wl_41, wl_42, wl_43, wl_44, wl_45, wl_46, wl_47, wl_48, wl_57, wl_59, wl_60, wl_61, wl_62, wl_65, wl_90, wl_97, wl_99, wl_100, wl_121, wl_122, wl_140, wl_142, wl_143, wl_145, wl_147, wl_160, wl_161, wl_162, wl_242, wl_380, wl_400, wl_420, wl_820, wl_1340, wl_5480, wl_9999, true_and, and_true, true_or, or_true, if_true, if_false, and_self, or_self, false_and, and_false, false_or, or_false, not_true_eq_false, not_false_eq_true, Int.reduceEq, Int.reduceLT, Int.reduceLE, Int.reduceToNat, Int.reduceAdd, Int.reduceMul, Int.reduceSub, Int.reduceMod, Int.reduceDiv, Int.reduceNeg, Nat.reduceEqDiff, sm_rd_ok, sm_rd_ok2, sm_wt_ok, sm_cp_ok, Option.isSome_some, Option.getD_some, w_cont, Option.toList_some, Option.toList_none, List.cons_append, List.nil_append]
      rw [b72_50]
      simp only [wr_id, wr_b2i, wr_wr, b2i_eq0, b2i_eq1, b2i_01, sm_rem_eq, sm_div_eq, wl_m2, wl_m1, wl_0, wl_1, wl_2, wl_3, wl_4, wl_5, wl_6, wl_7, wl_8, wl_9, wl_10, wl_12, wl_13, wl_14, wl_16, wl_20, wl_21, wl_22, wl_23, wl_32, wl_36, wl_40, wl_41, wl_42, wl_43, wl_44, wl_45, wl_46, wl_47, wl_48, wl_57, wl_59, wl_60, wl_61, wl_62, wl_65, wl_90, wl_97, wl_99, wl_100, wl_121, wl_122, wl_140, wl_142, wl_143, wl_145, wl_147, wl_160, wl_161, wl_162, wl_242, wl_380, wl_400, wl_420, wl_820, wl_1340, wl_5480, wl_9999, true_and, and_true, true_or, or_true, if_true, if_false, and_self, or_self, false_and, and_false, false_or, or_false, not_true_eq_false, not_false_eq_true, Int.reduceEq, Int.reduceLT, Int.reduceLE, Int.reduceToNat, Int.reduceAdd, Int.reduceMul, Int.reduceSub, Int.reduceMod, Int.reduceDiv, Int.reduceNeg, Nat.reduceEqDiff, sm_rd_ok, sm_rd_ok2, sm_wt_ok, sm_cp_ok, Option.isSome_some, Option.getD_some, w_cont, Option.toList_some, Option.toList_none, List.cons_append, List.nil_append]
      rw [if_neg (by decide), b72_53, kk_51 H, rr_51_0 H]
      simp (disch := omega) only [wr_id, wr_b2i, wr_wr, b2i_eq0, b2i_eq1, b2i_01, sm_rem_eq, sm_div_eq, wl_m2, wl_m1, wl_0, wl_1, wl_2, wl_3, wl_4, wl_5, wl_6, wl_7, wl_8, wl_9, wl_10, wl_12, wl_13, wl_14, wl_16, wl_20, wl_21, wl_22, wl_23, wl_32, wl_36, wl_40, wl_41, wl_42, wl_43, wl_44, wl_45, wl_46, wl_47, wl_48, wl_57, wl_59, wl_60, wl_61, wl_62, wl_65, wl_90, wl_97, wl_99, wl_100, wl_121, wl_122, wl_140, wl_142, wl_143, wl_145, wl_147, wl_160, wl_161, wl_162, wl_242, wl_380, wl_400, wl_420, wl_820, wl_1340, wl_5480, wl_9999, true_and, and_true, true_or, or_true, if_true, if_false, and_self, or_self, false_and, and_false, false_or, or_false, not_true_eq_false, not_false_eq_true, Int.reduceEq, Int.reduceLT, Int.reduceLE, Int.reduceToNat, Int.reduceAdd, Int.reduceMul, Int.reduceSub, Int.reduceMod, Int.reduceDiv, Int.reduceNeg, Nat.reduceEqDiff, sm_rd_ok, sm_rd_ok2, sm_wt_ok, sm_cp_ok, Option.isSome_some, Option.getD_some, w_cont, Option.toList_some, Option.toList_none, List.cons_append, List.nil_append, kk_52 H, rr_52_0 H, kk_53 H, kk_1 H, rr_1_14 H, kk_14 H]
      rw [c_get (q := 15) (len := 30) (by rw [kk_14 H]) (rr_14_1 H) (kk_15 H) (by rw [h14]; omega) (by omega) (by omega), w_cont, g1]
      simp only [wr_id, wr_b2i, wr_wr, b2i_eq0, b2i_eq1, b2i_01, sm_rem_eq, sm_div_eq, wl_m2, wl_m1, wl_0, wl_1, wl_2, wl_3, wl_4, wl_5, wl_6, wl_7, wl_8, wl_9, wl_10, wl_12, wl_13, wl_14, wl_16, wl_20, wl_21, wl_22, wl_23, wl_32, wl_36, wl_40, wl_41, wl_42, wl_43, wl_44, wl_45, wl_46, wl_47, wl_48, wl_57, wl_59, wl_60, wl_61, wl_62, wl_65, wl_90, wl_97, wl_99, wl_100, wl_121, wl_122, wl_140, wl_142, wl_143, wl_145, wl_147, wl_160, wl_161, wl_162, wl_242, wl_380, wl_400, wl_420, wl_820, wl_1340, wl_5480, wl_9999, true_and, and_true, true_or, or_true, if_true, if_false, and_self, or_self, false_and, and_false, false_or, or_false, not_true_eq_false, not_false_eq_true, Int.reduceEq, Int.reduceLT, Int.reduceLE, Int.reduceToNat, Int.reduceAdd, Int.reduceMul, Int.reduceSub, Int.reduceMod, Int.reduceDiv, Int.reduceNeg, Nat.reduceEqDiff, sm_rd_ok, sm_rd_ok2, sm_wt_ok, sm_cp_ok, Option.isSome_some, Option.getD_some, w_cont, Option.toList_some, Option.toList_none, List.cons_append, List.nil_append]
      rw [b72_74]
      simp (disch := omega) only [wr_id, wr_b2i, wr_wr, b2i_eq0, b2i_eq1, b2i_01, sm_rem_eq, sm_div_eq, wl_m2, wl_m1, wl_0, wl_1, wl_2, wl_3, wl_4, wl_5, wl_6, wl_7, wl_8, wl_9, wl_10, wl_12, wl_13, wl_14, wl_16, wl_20, wl_21, wl_22, wl_23, wl_32, wl_36, wl_40, wl_41, wl_42, wl_43, wl_44, wl_45, wl_46, wl_47, wl_48, wl_57, wl_59, wl_60, wl_61, wl_62, wl_65, wl_90, wl_97, wl_99, wl_100, wl_121, wl_122, wl_140, wl_142, wl_143, wl_145, wl_147, wl_160, wl_161, wl_162, wl_242, wl_380, wl_400, wl_420, wl_820, wl_1340, wl_5480, wl_9999, true_and, and_true, true_or, or_true, if_true, if_false, and_self, or_self, false_and, and_false, false_or, or_false, not_true_eq_false, not_false_eq_true, Int.reduceEq, Int.reduceLT, Int.reduceLE, Int.reduceToNat, Int.reduceAdd, Int.reduceMul, Int.reduceSub, Int.reduceMod, Int.reduceDiv, Int.reduceNeg, Nat.reduceEqDiff, sm_rd_ok, sm_rd_ok2, sm_wt_ok, sm_cp_ok, Option.isSome_some, Option.getD_some, w_cont, Option.toList_some, Option.toList_none, List.cons_append, List.nil_append, kk_53 H]
      rw [b72_76]
      exact a3 Q
theorem c_hatchSet (H : sm_sh Rf K) (hz : sm_zs Z) (hst : stI Z) {M : Nat → Int} (hi : invD M) (hr : rD Z Rf K M 1) {set : Int} (hset : 0 ≤ set ∧ set < 64) : ∃ Z', (∀ k, k < 100 → Z' 56 k = (nmS (allS true (htR set (M 7).toNat 0 M))).1 k ∧ -1 ≤ (nmS (allS true (htR set (M 7).toNat 0 M))).1 k ∧ (nmS (allS true (htR set (M 7).toNat 0 M))).1 k < 100) ∧ frT Z Z' ∧ Z' 63 = Z 63 ∧ ∀ Q, sm_call (d + 5) 72 [.inr (some 63), .inr (some 1), .inr (some 51), .inl set] (Z, Rf, K, n, z) Q = Q none (Z', Rf, K, n, z) := by
  have hh := htI_of hi
  have h7 := hh.1
  obtain ⟨Z1, f1, g1, q1⟩ := c_take (d := d + 2) (n := n) (z := z) (M := M) H hz hi.1.1 hi.2.2.2.1 ⟨hr.1.1, hr.1.2.1⟩ (fun c hc => (hr.2.1 c hc).1) (fun c hc => (hr.2.1 c hc).2.2.2.1)
  obtain ⟨Z2, l5, a1, a2, a3⟩ := c_hs_loop (d := d + 4) (n := n) (z := z) (q0 := some (.inr (some 63))) (q2 := none) H hset (M 7).toNat 0 M Z1 none (by omega) hi.1.1 hh (by rw [f1 1 (by decide) (by decide)]; exact ⟨hr.1.1, hr.1.2.1⟩) (by rw [f1 14 (by decide) (by decide)]; exact hr.2.2.2.2.2.1.1) (fun i h c hc => by rw [f1 15 (by decide) (by decide)]; exact hr.2.2.2.2.2.1.2 i h c hc) g1
  have o := htR_o (set := set) (M 7).toNat 0 M hh (by omega)
  have i2 : invF (htR set (M 7).toNat 0 M) := invF_cg (fun k hk => o k (by omega)) hi.1
  have w2 : swS (htR set (M 7).toNat 0 M) := swS_cg (fun k hk => o k (by omega)) hi.2.1
  have fT2 : frT Z Z2 := ⟨fun a ha => by rw [a2 a (by omega), f1 a (by omega) (by omega)], by rw [a2 59 (by decide), f1 59 (by decide) (by decide)], by rw [a2 67 (by decide), f1 67 (by decide) (by decide)]⟩
  have x2 : rFx Z2 Rf K (htR set (M 7).toNat 0 M) := rFx_cg (fun k hk => o k (by omega)) (rFx_fr fT2 (rFx_of hr hst.2.2.2.2.2.2.1))
  have h67 := hst.2.2.2.2.2.2.2
  obtain ⟨Z3, t3, _, _, f3, _, _, e63, _, q3⟩ := c_think1 (d := d) (n := n) (z := z) H (zs_frT fT2 hz) i2 w2 x2 a1 (by rw [fT2.2.2]; exact h67)
  have x3 := rFx_fr f3 x2
  obtain ⟨Z4, t4, f4, _, _, e63b, _, q4⟩ := c_think2 (d := d + 1) (n := n) (z := z) H (zs_frT (frT_trans fT2 f3) hz) i2 w2 x3 t3
  refine ⟨Z4, t4, frT_trans fT2 (frT_trans f3 f4), ?_, fun Q => ?_⟩
  · rw [e63b, e63, a2 63 (by decide), f1 63 (by decide) (by decide)]
  · rw [ce72, b72_0, kk_51 H, rr_51_0 H]
    simp only [wr_id, wr_b2i, wr_wr, b2i_eq0, b2i_eq1, b2i_01, sm_rem_eq, sm_div_eq, wl_m2, wl_m1, wl_0, wl_1, wl_2, wl_3, wl_4, wl_5, wl_6, wl_7, wl_8, wl_9, wl_10, wl_12, wl_13, wl_14, wl_16, wl_20, wl_21, wl_22, wl_23, wl_32, wl_36, wl_40, wl_41, wl_42, wl_43, wl_44, wl_45, wl_46, wl_47, wl_48, wl_57, wl_59, wl_60, wl_61, wl_62, wl_65, wl_90, wl_97, wl_99, wl_100, wl_121, wl_122, wl_140, wl_142, wl_143, wl_145, wl_147, wl_160, wl_161, wl_162, wl_242, wl_380, wl_400, wl_420, wl_820, wl_1340, wl_5480, wl_9999, true_and, and_true, true_or, or_true, if_true, if_false, and_self, or_self, false_and, and_false, false_or, or_false, not_true_eq_false, not_false_eq_true, Int.reduceEq, Int.reduceLT, Int.reduceLE, Int.reduceToNat, Int.reduceAdd, Int.reduceMul, Int.reduceSub, Int.reduceMod, Int.reduceDiv, Int.reduceNeg, Nat.reduceEqDiff, sm_rd_ok, sm_rd_ok2, sm_wt_ok, sm_cp_ok, Option.isSome_some, Option.getD_some, w_cont, Option.toList_some, Option.toList_none, List.cons_append, List.nil_append, kk_52 H]
    refine (q1 _).trans ?_
    rw [w_cont]
    simp only [wr_id, wr_b2i, wr_wr, b2i_eq0, b2i_eq1, b2i_01, sm_rem_eq, sm_div_eq, wl_m2, wl_m1, wl_0, wl_1, wl_2, wl_3, wl_4, wl_5, wl_6, wl_7, wl_8, wl_9, wl_10, wl_12, wl_13, wl_14, wl_16, wl_20, wl_21, wl_22, wl_23, wl_32, wl_36, wl_40, wl_41, wl_42, wl_43, wl_44, wl_45, wl_46, wl_47, wl_48, wl_57, wl_59, wl_60, wl_61, wl_62, wl_65, wl_90, wl_97, wl_99, wl_100, wl_121, wl_122, wl_140, wl_142, wl_143, wl_145, wl_147, wl_160, wl_161, wl_162, wl_242, wl_380, wl_400, wl_420, wl_820, wl_1340, wl_5480, wl_9999, true_and, and_true, true_or, or_true, if_true, if_false, and_self, or_self, false_and, and_false, false_or, or_false, not_true_eq_false, not_false_eq_true, Int.reduceEq, Int.reduceLT, Int.reduceLE, Int.reduceToNat, Int.reduceAdd, Int.reduceMul, Int.reduceSub, Int.reduceMod, Int.reduceDiv, Int.reduceNeg, Nat.reduceEqDiff, sm_rd_ok, sm_rd_ok2, sm_wt_ok, sm_cp_ok, Option.isSome_some, Option.getD_some, w_cont, Option.toList_some, Option.toList_none, List.cons_append, List.nil_append]
    rw [b72_8]
    refine (a3 Q).trans ?_
    rw [b72_82, kk_63 H, rr_63_0 H, kk_51 H]
    simp only [wr_id, wr_b2i, wr_wr, b2i_eq0, b2i_eq1, b2i_01, sm_rem_eq, sm_div_eq, wl_m2, wl_m1, wl_0, wl_1, wl_2, wl_3, wl_4, wl_5, wl_6, wl_7, wl_8, wl_9, wl_10, wl_12, wl_13, wl_14, wl_16, wl_20, wl_21, wl_22, wl_23, wl_32, wl_36, wl_40, wl_41, wl_42, wl_43, wl_44, wl_45, wl_46, wl_47, wl_48, wl_57, wl_59, wl_60, wl_61, wl_62, wl_65, wl_90, wl_97, wl_99, wl_100, wl_121, wl_122, wl_140, wl_142, wl_143, wl_145, wl_147, wl_160, wl_161, wl_162, wl_242, wl_380, wl_400, wl_420, wl_820, wl_1340, wl_5480, wl_9999, true_and, and_true, true_or, or_true, if_true, if_false, and_self, or_self, false_and, and_false, false_or, or_false, not_true_eq_false, not_false_eq_true, Int.reduceEq, Int.reduceLT, Int.reduceLE, Int.reduceToNat, Int.reduceAdd, Int.reduceMul, Int.reduceSub, Int.reduceMod, Int.reduceDiv, Int.reduceNeg, Nat.reduceEqDiff, sm_rd_ok, sm_rd_ok2, sm_wt_ok, sm_cp_ok, Option.isSome_some, Option.getD_some, w_cont, Option.toList_some, Option.toList_none, List.cons_append, List.nil_append]
    refine (q3 _).trans ?_
    rw [w_cont]
    simp only [wr_id, wr_b2i, wr_wr, b2i_eq0, b2i_eq1, b2i_01, sm_rem_eq, sm_div_eq, wl_m2, wl_m1, wl_0, wl_1, wl_2, wl_3, wl_4, wl_5, wl_6, wl_7, wl_8, wl_9, wl_10, wl_12, wl_13, wl_14, wl_16, wl_20, wl_21, wl_22, wl_23, wl_32, wl_36, wl_40, wl_41, wl_42, wl_43, wl_44, wl_45, wl_46, wl_47, wl_48, wl_57, wl_59, wl_60, wl_61, wl_62, wl_65, wl_90, wl_97, wl_99, wl_100, wl_121, wl_122, wl_140, wl_142, wl_143, wl_145, wl_147, wl_160, wl_161, wl_162, wl_242, wl_380, wl_400, wl_420, wl_820, wl_1340, wl_5480, wl_9999, true_and, and_true, true_or, or_true, if_true, if_false, and_self, or_self, false_and, and_false, false_or, or_false, not_true_eq_false, not_false_eq_true, Int.reduceEq, Int.reduceLT, Int.reduceLE, Int.reduceToNat, Int.reduceAdd, Int.reduceMul, Int.reduceSub, Int.reduceMod, Int.reduceDiv, Int.reduceNeg, Nat.reduceEqDiff, sm_rd_ok, sm_rd_ok2, sm_wt_ok, sm_cp_ok, Option.isSome_some, Option.getD_some, w_cont, Option.toList_some, Option.toList_none, List.cons_append, List.nil_append]
    rw [b72_91, kk_63 H, rr_63_0 H, kk_51 H, rr_51_1 H]
    simp only [wr_id, wr_b2i, wr_wr, b2i_eq0, b2i_eq1, b2i_01, sm_rem_eq, sm_div_eq, wl_m2, wl_m1, wl_0, wl_1, wl_2, wl_3, wl_4, wl_5, wl_6, wl_7, wl_8, wl_9, wl_10, wl_12, wl_13, wl_14, wl_16, wl_20, wl_21, wl_22, wl_23, wl_32, wl_36, wl_40, wl_41, wl_42, wl_43, wl_44, wl_45, wl_46, wl_47, wl_48, wl_57, wl_59, wl_60, wl_61, wl_62, wl_65, wl_90, wl_97, wl_99, wl_100, wl_121, wl_122, wl_140, wl_142, wl_143, wl_145, wl_147, wl_160, wl_161, wl_162, wl_242, wl_380, wl_400, wl_420, wl_820, wl_1340, wl_5480, wl_9999, true_and, and_true, true_or, or_true, if_true, if_false, and_self, or_self, false_and, and_false, false_or, or_false, not_true_eq_false, not_false_eq_true, Int.reduceEq, Int.reduceLT, Int.reduceLE, Int.reduceToNat, Int.reduceAdd, Int.reduceMul, Int.reduceSub, Int.reduceMod, Int.reduceDiv, Int.reduceNeg, Nat.reduceEqDiff, sm_rd_ok, sm_rd_ok2, sm_wt_ok, sm_cp_ok, Option.isSome_some, Option.getD_some, w_cont, Option.toList_some, Option.toList_none, List.cons_append, List.nil_append, kk_55 H]
    refine (q4 _).trans ?_
    rw [w_cont]
    simp only [wr_id, wr_b2i, wr_wr, b2i_eq0, b2i_eq1, b2i_01, sm_rem_eq, sm_div_eq, wl_m2, wl_m1, wl_0, wl_1, wl_2, wl_3, wl_4, wl_5, wl_6, wl_7, wl_8, wl_9, wl_10, wl_12, wl_13, wl_14, wl_16, wl_20, wl_21, wl_22, wl_23, wl_32, wl_36, wl_40, wl_41, wl_42, wl_43, wl_44, wl_45, wl_46, wl_47, wl_48, wl_57, wl_59, wl_60, wl_61, wl_62, wl_65, wl_90, wl_97, wl_99, wl_100, wl_121, wl_122, wl_140, wl_142, wl_143, wl_145, wl_147, wl_160, wl_161, wl_162, wl_242, wl_380, wl_400, wl_420, wl_820, wl_1340, wl_5480, wl_9999, true_and, and_true, true_or, or_true, if_true, if_false, and_self, or_self, false_and, and_false, false_or, or_false, not_true_eq_false, not_false_eq_true, Int.reduceEq, Int.reduceLT, Int.reduceLE, Int.reduceToNat, Int.reduceAdd, Int.reduceMul, Int.reduceSub, Int.reduceMod, Int.reduceDiv, Int.reduceNeg, Nat.reduceEqDiff, sm_rd_ok, sm_rd_ok2, sm_wt_ok, sm_cp_ok, Option.isSome_some, Option.getD_some, w_cont, Option.toList_some, Option.toList_none, List.cons_append, List.nil_append]
    rw [b72_103]
theorem m_hs_loop (H : sm_sh Rf K) {set : Int} (hset : 0 ≤ set ∧ set < 64) : ∀ (k i : Nat) (M : Nat → Int) (Z : Nat → Nat → Int), ((i + k : Nat) : Int) = M 7 → Z 80 = M → htI M → ∀ Q, sm_wp d 189 6 [some (.inr (some 79)), some (.inl set), some (.inl (i : Int))] [] (Z, Rf, K, n, z) Q = sm_wp d 189 66 [some (.inr (some 79)), some (.inl set), some (.inl (M 7))] [] (sm_r Z 80 (htR set k i M), Rf, K, n, z) Q := by
  intro k
  induction k with
  | zero =>
    intro i M Z hik hM hh Q
    have : (i : Int) = M 7 := by omega
    have e : sm_r Z 80 M = Z := by
      funext a j
      unfold sm_r
      split
      · rename_i ha; rw [ha, hM]
      · rfl
    rw [this, b189_6, kk_79 H, rr_79_0 H]
    simp (disch := omega) only [wr_id, wr_b2i, wr_wr, b2i_eq0, b2i_eq1, b2i_01, sm_rem_eq, sm_div_eq, wl_m2, wl_m1, wl_0, wl_1, wl_2, wl_3, wl_4, wl_5, wl_6, wl_7, wl_8, wl_9, wl_10, wl_12, wl_13, wl_14, wl_16, wl_20, wl_21, wl_22, wl_23, wl_32, wl_36, wl_40, wl_41, wl_42, wl_43, wl_44, wl_45, wl_46, wl_47, wl_48, wl_57, wl_59, wl_60, wl_61, wl_62, wl_65, wl_90, wl_97, wl_99, wl_100, wl_121, wl_122, wl_140, wl_142, wl_143, wl_145, wl_147, wl_160, wl_161, wl_162, wl_242, wl_380, wl_400, wl_420, wl_820, wl_1340, wl_5480, wl_9999, true_and, and_true, true_or, or_true, if_true, if_false, and_self, or_self, false_and, and_false, false_or, or_false, not_true_eq_false, not_false_eq_true, Int.reduceEq, Int.reduceLT, Int.reduceLE, Int.reduceToNat, Int.reduceAdd, Int.reduceMul, Int.reduceSub, Int.reduceMod, Int.reduceDiv, Int.reduceNeg, Nat.reduceEqDiff, sm_rd_ok, sm_rd_ok2, sm_wt_ok, sm_cp_ok, Option.isSome_some, Option.getD_some, w_cont, Option.toList_some, Option.toList_none, List.cons_append, List.nil_append, kk_80 H, hM]
    rw [if_pos (Int.le_refl _)]
    show _ = sm_wp d 189 66 _ _ (sm_r Z 80 M, Rf, K, n, z) Q
    rw [e]
  | succ k ih =>
    intro i M Z hik hM hh Q
    have h7 := hh.1
    have bd := htI_bd hh (i := i) (by omega)
    have n1 : (1900 + 3 * (i : Int)).toNat = 1900 + 3 * i := by omega
    have n2 : (1900 + 3 * (i : Int) + 1).toNat = 1901 + 3 * i := by omega
    have n3 : (20 + M (1900 + 3 * i)).toNat = 20 + (M (1900 + 3 * i)).toNat := by omega
    rw [b189_6, kk_79 H, rr_79_0 H]
    simp (disch := omega) only [wr_id, wr_b2i, wr_wr, b2i_eq0, b2i_eq1, b2i_01, sm_rem_eq, sm_div_eq, wl_m2, wl_m1, wl_0, wl_1, wl_2, wl_3, wl_4, wl_5, wl_6, wl_7, wl_8, wl_9, wl_10, wl_12, wl_13, wl_14, wl_16, wl_20, wl_21, wl_22, wl_23, wl_32, wl_36, wl_40, wl_41, wl_42, wl_43, wl_44, wl_45, wl_46, wl_47, wl_48, wl_57, wl_59, wl_60, wl_61, wl_62, wl_65, wl_90, wl_97, wl_99, wl_100, wl_121, wl_122, wl_140, wl_142, wl_143, wl_145, wl_147, wl_160, wl_161, wl_162, wl_242, wl_380, wl_400, wl_420, wl_820, wl_1340, wl_5480, wl_9999, true_and, and_true, true_or, or_true, if_true, if_false, and_self, or_self, false_and, and_false, false_or, or_false, not_true_eq_false, not_false_eq_true, Int.reduceEq, Int.reduceLT, Int.reduceLE, Int.reduceToNat, Int.reduceAdd, Int.reduceMul, Int.reduceSub, Int.reduceMod, Int.reduceDiv, Int.reduceNeg, Nat.reduceEqDiff, sm_rd_ok, sm_rd_ok2, sm_wt_ok, sm_cp_ok, Option.isSome_some, Option.getD_some, w_cont, Option.toList_some, Option.toList_none, List.cons_append, List.nil_append, kk_80 H, hM]
    rw [if_neg (by omega), b189_17, kk_79 H, rr_79_0 H]
    simp (disch := omega) only [wr_id, wr_b2i, wr_wr, b2i_eq0, b2i_eq1, b2i_01, sm_rem_eq, sm_div_eq, wl_m2, wl_m1, wl_0, wl_1, wl_2, wl_3, wl_4, wl_5, wl_6, wl_7, wl_8, wl_9, wl_10, wl_12, wl_13, wl_14, wl_16, wl_20, wl_21, wl_22, wl_23, wl_32, wl_36, wl_40, wl_41, wl_42, wl_43, wl_44, wl_45, wl_46, wl_47, wl_48, wl_57, wl_59, wl_60, wl_61, wl_62, wl_65, wl_90, wl_97, wl_99, wl_100, wl_121, wl_122, wl_140, wl_142, wl_143, wl_145, wl_147, wl_160, wl_161, wl_162, wl_242, wl_380, wl_400, wl_420, wl_820, wl_1340, wl_5480, wl_9999, true_and, and_true, true_or, or_true, if_true, if_false, and_self, or_self, false_and, and_false, false_or, or_false, not_true_eq_false, not_false_eq_true, Int.reduceEq, Int.reduceLT, Int.reduceLE, Int.reduceToNat, Int.reduceAdd, Int.reduceMul, Int.reduceSub, Int.reduceMod, Int.reduceDiv, Int.reduceNeg, Nat.reduceEqDiff, sm_rd_ok, sm_rd_ok2, sm_wt_ok, sm_cp_ok, Option.isSome_some, Option.getD_some, w_cont, Option.toList_some, Option.toList_none, List.cons_append, List.nil_append, kk_80 H, hM, n1, n2, bit_eq hset (show i < 32 by omega)]
    simp (disch := omega) only [wr_id, wr_b2i, wr_wr, b2i_eq0, b2i_eq1, b2i_01, sm_rem_eq, sm_div_eq, wl_m2, wl_m1, wl_0, wl_1, wl_2, wl_3, wl_4, wl_5, wl_6, wl_7, wl_8, wl_9, wl_10, wl_12, wl_13, wl_14, wl_16, wl_20, wl_21, wl_22, wl_23, wl_32, wl_36, wl_40, wl_41, wl_42, wl_43, wl_44, wl_45, wl_46, wl_47, wl_48, wl_57, wl_59, wl_60, wl_61, wl_62, wl_65, wl_90, wl_97, wl_99, wl_100, wl_121, wl_122, wl_140, wl_142, wl_143, wl_145, wl_147, wl_160, wl_161, wl_162, wl_242, wl_380, wl_400, wl_420, wl_820, wl_1340, wl_5480, wl_9999, true_and, and_true, true_or, or_true, if_true, if_false, and_self, or_self, false_and, and_false, false_or, or_false, not_true_eq_false, not_false_eq_true, Int.reduceEq, Int.reduceLT, Int.reduceLE, Int.reduceToNat, Int.reduceAdd, Int.reduceMul, Int.reduceSub, Int.reduceMod, Int.reduceDiv, Int.reduceNeg, Nat.reduceEqDiff, sm_rd_ok, sm_rd_ok2, sm_wt_ok, sm_cp_ok, Option.isSome_some, Option.getD_some, w_cont, Option.toList_some, Option.toList_none, List.cons_append, List.nil_append, kk_80 H, n3]
    rw [show (i : Int) + 1 = ((i + 1 : Nat) : Int) by omega]
    have eM : sm_u Z 80 (20 + (M (1900 + 3 * i)).toNat) (M (20 + (M (1900 + 3 * i)).toNat) + bitS set i * M (1901 + 3 * i)) 80 = ht1 set M i := by
      rw [sm_u_mU, hM]
      rfl
    have e7 : ht1 set M i 7 = M 7 := ht1_o bd (by omega)
    rw [ih (i + 1) (ht1 set M i) _ (by rw [e7]; omega) eM (htI_ht1 hh (by omega)), e7]
    congr 2
    funext a j
    unfold sm_u sm_r
    by_cases ha : a = 80
    · simp only [ha, if_true]
      rfl
    · simp [ha]
theorem m_hatches (H : sm_sh Rf K) {M : Nat → Int} (hM : Z 80 = M) (hi : invD M) (h6 : Z 79 6 = 0) {set : Int} (hset : 0 ≤ set ∧ set < 64) : ∃ Z', (∀ k, k < 100 → Z' 93 k = (nmS (allS true (htR set (M 7).toNat 0 M))).1 k ∧ -1 ≤ (nmS (allS true (htR set (M 7).toNat 0 M))).1 k ∧ (nmS (allS true (htR set (M 7).toNat 0 M))).1 k < 100) ∧ frU Z Z' ∧ ∀ Q, sm_call (d + 7) 189 [.inr (some 79), .inl set] (Z, Rf, K, n, z) Q = Q none (Z', Rf, K, n, z) := by
  have hh := htI_of hi
  have h7 := hh.1
  obtain ⟨Z1, a1, a2, a3, a4, a5, q1⟩ := m_out (d := d + 6) (n := n) (z := z) H hM
  have q2 := m_hs_loop (d := d + 7) (n := n) (z := z) (Rf := Rf) (K := K) H hset (M 7).toNat 0 M Z1 (by omega) a1 hh
  have o := htR_o (set := set) (M 7).toNat 0 M hh (by omega)
  have i2 : invF (htR set (M 7).toNat 0 M) := invF_cg (fun k hk => o k (by omega)) hi.1
  have w2 : swS (htR set (M 7).toNat 0 M) := swS_cg (fun k hk => o k (by omega)) hi.2.1
  obtain ⟨Z3, b1, _, b3, q3⟩ := m_allFly (d := d) (n := n) (z := z) H (th := true) (Z := sm_r Z1 80 (htR set (M 7).toNat 0 M)) sm_r_same i2 w2 (by rw [sm_r_ne (by decide), a3]; rfl)
  obtain ⟨ai, ag⟩ := allS_inv (th := true) i2 w2
  obtain ⟨Z4, c1, _, c3, c4, q4⟩ := m_laysCounties (d := d + 2) (n := n) (z := z) H b1 ai.1 ai.2.1
  have hnb := nmS_bd (M := allS true (htR set (M 7).toNat 0 M)) ai.1
  have hu := agU_allS i2 w2
  have r82 : Z4 82 = Z1 82 := by
    rw [c3 82 (by decide) (by decide) (by decide), b3 82 (by decide) (by decide) (by decide) (by decide) (by decide) (by decide) (by decide), sm_r_row (by decide)]
  obtain ⟨Z5, e1, e2, e3, e4, q5⟩ := m_back (d := d + 6) (n := n) (z := z) (Z := Z4) (M := M) H (fun k hk => by rw [r82]; exact a2 k hk) (fun k hk => by rw [c3 80 (by decide) (by decide) (by decide), b1, hu k hk, o k (by omega)])
  refine ⟨Z5, fun k hk => ⟨?_, hnb k hk⟩, ⟨fun a ha => ?_, fun j hj => ?_⟩, fun Q => ?_⟩
  · rw [e4 93 (by decide) (by decide)]
    exact c1 k hk
  · by_cases h80 : a = 80
    · rw [h80, e1, hM]
    · rw [e4 a (by omega) h80, c3 a (by omega) (by omega) (by omega), b3 a h80 (by omega) (by omega) (by omega) (by omega) (by omega) (by omega), sm_r_row h80, a5 a (by omega) (by omega)]
  · by_cases hj6 : j = 6
    · rw [hj6, e2, h6]
    · rw [e3 j hj6, c4 j (by omega), b3 79 (by decide) (by decide) (by decide) (by decide) (by decide) (by decide) (by decide), sm_r_ne (by decide), a4 j hj6]
  · rw [ce189, b189_0, kk_79 H]
    simp only [wr_id, wr_b2i, wr_wr, b2i_eq0, b2i_eq1, b2i_01, sm_rem_eq, sm_div_eq, wl_m2, wl_m1, wl_0, wl_1, wl_2, wl_3, wl_4, wl_5, wl_6, wl_7, wl_8, wl_9, wl_10, wl_12, wl_13, wl_14, wl_16, wl_20, wl_21, wl_22, wl_23, wl_32, wl_36, wl_40, wl_41, wl_42, wl_43, wl_44, wl_45, wl_46, wl_47, wl_48, wl_57, wl_59, wl_60, wl_61, wl_62, wl_65, wl_90, wl_97, wl_99, wl_100, wl_121, wl_122, wl_140, wl_142, wl_143, wl_145, wl_147, wl_160, wl_161, wl_162, wl_242, wl_380, wl_400, wl_420, wl_820, wl_1340, wl_5480, wl_9999, true_and, and_true, true_or, or_true, if_true, if_false, and_self, or_self, false_and, and_false, false_or, or_false, not_true_eq_false, not_false_eq_true, Int.reduceEq, Int.reduceLT, Int.reduceLE, Int.reduceToNat, Int.reduceAdd, Int.reduceMul, Int.reduceSub, Int.reduceMod, Int.reduceDiv, Int.reduceNeg, Nat.reduceEqDiff, sm_rd_ok, sm_rd_ok2, sm_wt_ok, sm_cp_ok, Option.isSome_some, Option.getD_some, w_cont, Option.toList_some, Option.toList_none, List.cons_append, List.nil_append]
    refine (q1 _).trans ?_
    rw [w_cont]
    simp only [wr_id, wr_b2i, wr_wr, b2i_eq0, b2i_eq1, b2i_01, sm_rem_eq, sm_div_eq, wl_m2, wl_m1, wl_0, wl_1, wl_2, wl_3, wl_4, wl_5, wl_6, wl_7, wl_8, wl_9, wl_10, wl_12, wl_13, wl_14, wl_16, wl_20, wl_21, wl_22, wl_23, wl_32, wl_36, wl_40, wl_41, wl_42, wl_43, wl_44, wl_45, wl_46, wl_47, wl_48, wl_57, wl_59, wl_60, wl_61, wl_62, wl_65, wl_90, wl_97, wl_99, wl_100, wl_121, wl_122, wl_140, wl_142, wl_143, wl_145, wl_147, wl_160, wl_161, wl_162, wl_242, wl_380, wl_400, wl_420, wl_820, wl_1340, wl_5480, wl_9999, true_and, and_true, true_or, or_true, if_true, if_false, and_self, or_self, false_and, and_false, false_or, or_false, not_true_eq_false, not_false_eq_true, Int.reduceEq, Int.reduceLT, Int.reduceLE, Int.reduceToNat, Int.reduceAdd, Int.reduceMul, Int.reduceSub, Int.reduceMod, Int.reduceDiv, Int.reduceNeg, Nat.reduceEqDiff, sm_rd_ok, sm_rd_ok2, sm_wt_ok, sm_cp_ok, Option.isSome_some, Option.getD_some, w_cont, Option.toList_some, Option.toList_none, List.cons_append, List.nil_append]
    rw [b189_4]
    refine (q2 Q).trans ?_
    rw [b189_66, kk_79 H]
    simp only [wr_id, wr_b2i, wr_wr, b2i_eq0, b2i_eq1, b2i_01, sm_rem_eq, sm_div_eq, wl_m2, wl_m1, wl_0, wl_1, wl_2, wl_3, wl_4, wl_5, wl_6, wl_7, wl_8, wl_9, wl_10, wl_12, wl_13, wl_14, wl_16, wl_20, wl_21, wl_22, wl_23, wl_32, wl_36, wl_40, wl_41, wl_42, wl_43, wl_44, wl_45, wl_46, wl_47, wl_48, wl_57, wl_59, wl_60, wl_61, wl_62, wl_65, wl_90, wl_97, wl_99, wl_100, wl_121, wl_122, wl_140, wl_142, wl_143, wl_145, wl_147, wl_160, wl_161, wl_162, wl_242, wl_380, wl_400, wl_420, wl_820, wl_1340, wl_5480, wl_9999, true_and, and_true, true_or, or_true, if_true, if_false, and_self, or_self, false_and, and_false, false_or, or_false, not_true_eq_false, not_false_eq_true, Int.reduceEq, Int.reduceLT, Int.reduceLE, Int.reduceToNat, Int.reduceAdd, Int.reduceMul, Int.reduceSub, Int.reduceMod, Int.reduceDiv, Int.reduceNeg, Nat.reduceEqDiff, sm_rd_ok, sm_rd_ok2, sm_wt_ok, sm_cp_ok, Option.isSome_some, Option.getD_some, w_cont, Option.toList_some, Option.toList_none, List.cons_append, List.nil_append]
    refine (q3 _).trans ?_
    rw [w_cont]
    simp only [wr_id, wr_b2i, wr_wr, b2i_eq0, b2i_eq1, b2i_01, sm_rem_eq, sm_div_eq, wl_m2, wl_m1, wl_0, wl_1, wl_2, wl_3, wl_4, wl_5, wl_6, wl_7, wl_8, wl_9, wl_10, wl_12, wl_13, wl_14, wl_16, wl_20, wl_21, wl_22, wl_23, wl_32, wl_36, wl_40, wl_41, wl_42, wl_43, wl_44, wl_45, wl_46, wl_47, wl_48, wl_57, wl_59, wl_60, wl_61, wl_62, wl_65, wl_90, wl_97, wl_99, wl_100, wl_121, wl_122, wl_140, wl_142, wl_143, wl_145, wl_147, wl_160, wl_161, wl_162, wl_242, wl_380, wl_400, wl_420, wl_820, wl_1340, wl_5480, wl_9999, true_and, and_true, true_or, or_true, if_true, if_false, and_self, or_self, false_and, and_false, false_or, or_false, not_true_eq_false, not_false_eq_true, Int.reduceEq, Int.reduceLT, Int.reduceLE, Int.reduceToNat, Int.reduceAdd, Int.reduceMul, Int.reduceSub, Int.reduceMod, Int.reduceDiv, Int.reduceNeg, Nat.reduceEqDiff, sm_rd_ok, sm_rd_ok2, sm_wt_ok, sm_cp_ok, Option.isSome_some, Option.getD_some, w_cont, Option.toList_some, Option.toList_none, List.cons_append, List.nil_append]
    rw [b189_70, kk_79 H]
    simp only [wr_id, wr_b2i, wr_wr, b2i_eq0, b2i_eq1, b2i_01, sm_rem_eq, sm_div_eq, wl_m2, wl_m1, wl_0, wl_1, wl_2, wl_3, wl_4, wl_5, wl_6, wl_7, wl_8, wl_9, wl_10, wl_12, wl_13, wl_14, wl_16, wl_20, wl_21, wl_22, wl_23, wl_32, wl_36, wl_40, wl_41, wl_42, wl_43, wl_44, wl_45, wl_46, wl_47, wl_48, wl_57, wl_59, wl_60, wl_61, wl_62, wl_65, wl_90, wl_97, wl_99, wl_100, wl_121, wl_122, wl_140, wl_142, wl_143, wl_145, wl_147, wl_160, wl_161, wl_162, wl_242, wl_380, wl_400, wl_420, wl_820, wl_1340, wl_5480, wl_9999, true_and, and_true, true_or, or_true, if_true, if_false, and_self, or_self, false_and, and_false, false_or, or_false, not_true_eq_false, not_false_eq_true, Int.reduceEq, Int.reduceLT, Int.reduceLE, Int.reduceToNat, Int.reduceAdd, Int.reduceMul, Int.reduceSub, Int.reduceMod, Int.reduceDiv, Int.reduceNeg, Nat.reduceEqDiff, sm_rd_ok, sm_rd_ok2, sm_wt_ok, sm_cp_ok, Option.isSome_some, Option.getD_some, w_cont, Option.toList_some, Option.toList_none, List.cons_append, List.nil_append]
    refine (q4 _).trans ?_
    rw [w_cont]
    simp only [wr_id, wr_b2i, wr_wr, b2i_eq0, b2i_eq1, b2i_01, sm_rem_eq, sm_div_eq, wl_m2, wl_m1, wl_0, wl_1, wl_2, wl_3, wl_4, wl_5, wl_6, wl_7, wl_8, wl_9, wl_10, wl_12, wl_13, wl_14, wl_16, wl_20, wl_21, wl_22, wl_23, wl_32, wl_36, wl_40, wl_41, wl_42, wl_43, wl_44, wl_45, wl_46, wl_47, wl_48, wl_57, wl_59, wl_60, wl_61, wl_62, wl_65, wl_90, wl_97, wl_99, wl_100, wl_121, wl_122, wl_140, wl_142, wl_143, wl_145, wl_147, wl_160, wl_161, wl_162, wl_242, wl_380, wl_400, wl_420, wl_820, wl_1340, wl_5480, wl_9999, true_and, and_true, true_or, or_true, if_true, if_false, and_self, or_self, false_and, and_false, false_or, or_false, not_true_eq_false, not_false_eq_true, Int.reduceEq, Int.reduceLT, Int.reduceLE, Int.reduceToNat, Int.reduceAdd, Int.reduceMul, Int.reduceSub, Int.reduceMod, Int.reduceDiv, Int.reduceNeg, Nat.reduceEqDiff, sm_rd_ok, sm_rd_ok2, sm_wt_ok, sm_cp_ok, Option.isSome_some, Option.getD_some, w_cont, Option.toList_some, Option.toList_none, List.cons_append, List.nil_append]
    rw [b189_74, kk_79 H]
    simp only [wr_id, wr_b2i, wr_wr, b2i_eq0, b2i_eq1, b2i_01, sm_rem_eq, sm_div_eq, wl_m2, wl_m1, wl_0, wl_1, wl_2, wl_3, wl_4, wl_5, wl_6, wl_7, wl_8, wl_9, wl_10, wl_12, wl_13, wl_14, wl_16, wl_20, wl_21, wl_22, wl_23, wl_32, wl_36, wl_40, wl_41, wl_42, wl_43, wl_44, wl_45, wl_46, wl_47, wl_48, wl_57, wl_59, wl_60, wl_61, wl_62, wl_65, wl_90, wl_97, wl_99, wl_100, wl_121, wl_122, wl_140, wl_142, wl_143, wl_145, wl_147, wl_160, wl_161, wl_162, wl_242, wl_380, wl_400, wl_420, wl_820, wl_1340, wl_5480, wl_9999, true_and, and_true, true_or, or_true, if_true, if_false, and_self, or_self, false_and, and_false, false_or, or_false, not_true_eq_false, not_false_eq_true, Int.reduceEq, Int.reduceLT, Int.reduceLE, Int.reduceToNat, Int.reduceAdd, Int.reduceMul, Int.reduceSub, Int.reduceMod, Int.reduceDiv, Int.reduceNeg, Nat.reduceEqDiff, sm_rd_ok, sm_rd_ok2, sm_wt_ok, sm_cp_ok, Option.isSome_some, Option.getD_some, w_cont, Option.toList_some, Option.toList_none, List.cons_append, List.nil_append]
    refine (q5 _).trans ?_
    rw [w_cont]
    simp only [wr_id, wr_b2i, wr_wr, b2i_eq0, b2i_eq1, b2i_01, sm_rem_eq, sm_div_eq, wl_m2, wl_m1, wl_0, wl_1, wl_2, wl_3, wl_4, wl_5, wl_6, wl_7, wl_8, wl_9, wl_10, wl_12, wl_13, wl_14, wl_16, wl_20, wl_21, wl_22, wl_23, wl_32, wl_36, wl_40, wl_41, wl_42, wl_43, wl_44, wl_45, wl_46, wl_47, wl_48, wl_57, wl_59, wl_60, wl_61, wl_62, wl_65, wl_90, wl_97, wl_99, wl_100, wl_121, wl_122, wl_140, wl_142, wl_143, wl_145, wl_147, wl_160, wl_161, wl_162, wl_242, wl_380, wl_400, wl_420, wl_820, wl_1340, wl_5480, wl_9999, true_and, and_true, true_or, or_true, if_true, if_false, and_self, or_self, false_and, and_false, false_or, or_false, not_true_eq_false, not_false_eq_true, Int.reduceEq, Int.reduceLT, Int.reduceLE, Int.reduceToNat, Int.reduceAdd, Int.reduceMul, Int.reduceSub, Int.reduceMod, Int.reduceDiv, Int.reduceNeg, Nat.reduceEqDiff, sm_rd_ok, sm_rd_ok2, sm_wt_ok, sm_cp_ok, Option.isSome_some, Option.getD_some, w_cont, Option.toList_some, Option.toList_none, List.cons_append, List.nil_append]
    rw [b189_78]
end HATCH2
