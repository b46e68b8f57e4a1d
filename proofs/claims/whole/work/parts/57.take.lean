def mU (M : Nat → Int) (i : Nat) (v : Int) : Nat → Int := fun k => if k = i then v else M k
/-- what a pond at (a, b) adds to what is seen at (x, y) -/
def wtS (x y a b : Int) : Int := if x = a ∧ y = b then 20 else if (x = a ∧ (y = b - 1 ∨ y = b + 1)) ∨ (y = b ∧ (x = a - 1 ∨ x = a + 1)) then 5 else 0
theorem pondS_upd {M : Nat → Int} {a b v : Int} (hs : szN M) (hp : 0 ≤ a ∧ a < M 0 ∧ 0 ≤ b ∧ b < M 1) (x y : Int) : pondS (mU M (120 + 10 * b + a).toNat v) x y = if x = a ∧ y = b then v else pondS M x y := by
  unfold szN at hs
  have e0 : mU M (120 + 10 * b + a).toNat v 0 = M 0 := by unfold mU; rw [if_neg (by omega)]
  have e1 : mU M (120 + 10 * b + a).toNat v 1 = M 1 := by unfold mU; rw [if_neg (by omega)]
  unfold pondS
  rw [e0, e1]
  by_cases h1 : 0 ≤ x ∧ x < M 0 ∧ 0 ≤ y ∧ y < M 1
  · rw [if_pos h1, if_pos h1]
    unfold mU
    by_cases h2 : x = a ∧ y = b
    · rw [if_pos h2, if_pos (by rw [h2.1, h2.2])]
    · rw [if_neg h2, if_neg (by omega)]
  · rw [if_neg h1, if_neg h1, if_neg (by omega)]
theorem seenS_upd {M : Nat → Int} {a b v : Int} (hs : szN M) (hp : 0 ≤ a ∧ a < M 0 ∧ 0 ≤ b ∧ b < M 1) {x y : Int} (hq : 0 ≤ x ∧ x < M 0 ∧ 0 ≤ y ∧ y < M 1) : seenS (mU M (120 + 10 * b + a).toNat v) x y = seenS M x y + (v - pondS M a b) * wtS x y a b := by
  have hs' := hs
  unfold szN at hs'
  have e0 : mU M (120 + 10 * b + a).toNat v 0 = M 0 := by unfold mU; rw [if_neg (by omega)]
  have e1 : mU M (120 + 10 * b + a).toNat v 1 = M 1 := by unfold mU; rw [if_neg (by omega)]
  have e2 : mU M (120 + 10 * b + a).toNat v (20 + 10 * y + x).toNat = M (20 + 10 * y + x).toNat := by unfold mU; rw [if_neg (by omega)]
  unfold seenS
  rw [e0, e1, if_pos hq, if_pos hq, e2, pondS_upd hs hp, pondS_upd hs hp, pondS_upd hs hp, pondS_upd hs hp, pondS_upd hs hp]
  unfold wtS
  by_cases h1 : x = a ∧ y = b
  · rw [if_pos h1, if_pos h1, if_neg (by omega), if_neg (by omega), if_neg (by omega), if_neg (by omega), h1.1, h1.2]
    omega
  · rw [if_neg h1, if_neg h1]
    by_cases h2 : x = a ∧ y - 1 = b
    · rw [if_pos h2, if_neg (by omega), if_neg (by omega), if_neg (by omega), if_pos (by omega), ← h2.1, ← h2.2]
      omega
    · rw [if_neg h2]
      by_cases h3 : x + 1 = a ∧ y = b
      · rw [if_pos h3, if_neg (by omega), if_neg (by omega), if_pos (by omega), ← h3.1, ← h3.2]
        omega
      · rw [if_neg h3]
        by_cases h4 : x = a ∧ y + 1 = b
        · rw [if_pos h4, if_neg (by omega), if_pos (by omega), ← h4.1, ← h4.2]
          omega
        · rw [if_neg h4]
          by_cases h5 : x - 1 = a ∧ y = b
          · rw [if_pos h5, if_pos (by omega), ← h5.1, ← h5.2]
            omega
          · rw [if_neg h5, if_neg (by omega)]
            omega
theorem rSi_upd {Z Z' : Nat → Nat → Int} {M : Nat → Int} {a b v m : Int} (hs : szN M) (hp : 0 ≤ a ∧ a < M 0 ∧ 0 ≤ b ∧ b < M 1) (hr : rSi Z M) (hm : v - pondS M a b = m) (h53 : ∀ x y, (0 ≤ x ∧ x < M 0 ∧ 0 ≤ y ∧ y < M 1) → Z' 53 (10 * y + x).toNat = Z 53 (10 * y + x).toNat + m * wtS x y a b) (h54 : ∀ x y, (0 ≤ x ∧ x < M 0 ∧ 0 ≤ y ∧ y < M 1) → Z' 54 (10 * y + x).toNat = Z 54 (10 * y + x).toNat + (if x = a ∧ y = b then m else 0)) : rSi Z' (mU M (120 + 10 * b + a).toNat v) := by
  have hs' := hs
  unfold szN at hs'
  have e0 : mU M (120 + 10 * b + a).toNat v 0 = M 0 := by unfold mU; rw [if_neg (by omega)]
  have e1 : mU M (120 + 10 * b + a).toNat v 1 = M 1 := by unfold mU; rw [if_neg (by omega)]
  intro x y hq
  rw [e0, e1] at hq
  have h := hr x y hq
  constructor
  · rw [h53 x y hq, seenS_upd hs hp hq, h.1, hm]
  · rw [h54 x y hq, pondS_upd hs hp, h.2]
    by_cases h1 : x = a ∧ y = b
    · rw [if_pos h1, if_pos h1, h1.1, h1.2]
      omega
    · rw [if_neg h1, if_neg h1]
      omega
section TAKE
variable {d n z : Nat} {Rf : Nat → Nat → Option Nat} {K : Nat → Nat × Nat} {Q : Option sm_V → sm_S → Prop} {M : Nat → Int} {c m : Int}
/-- the row of what is seen, one side on -/
def ppU (Z : Nat → Nat → Int) (b m : Int) : Nat → Nat → Int := if b = -1 then Z else sm_u Z 53 b.toNat (Z 53 b.toNat + m * 5)
theorem c_pp_side (H : sm_sh Rf K) {Z : Nat → Nat → Int} (hz : sm_zs Z) (hs : szC Z) (hc : 0 ≤ c ∧ c < 100) (i : Nat) (hi : i < 4) (l5 : Option sm_V) : ∃ l5', sm_wp (d + 1) 58 35 [some (.inr (some 52)), some (.inr (some 1)), some (.inl c), some (.inl m), some (.inl (i : Int)), l5] [] (Z, Rf, K, n, z) Q = sm_wp (d + 1) 58 35 [some (.inr (some 52)), some (.inr (some 1)), some (.inl c), some (.inl m), some (.inl ((i + 1 : Nat) : Int)), l5'] [] (ppU Z (cAt (Z 1 0) (Z 1 1) (c % 10 + dX (i : Int)) (c / 10 + dY (i : Int))) m, Rf, K, n, z) Q := by
  have hs' := hs
  unfold szC at hs'
  have hK1 : (K 1).1 = 1 := by rw [kk_1 H]
  have hcb := cAt_bd (w := Z 1 0) (h := Z 1 1) (c % 10 + dX (i : Int)) (c / 10 + dY (i : Int)) hs'.1.2 hs'.2.2
  have ein : Z 1000000 i = dX (i : Int) ∧ Z 1000001 i = dY (i : Int) := by
    have hc : i = 0 ∨ i = 1 ∨ i = 2 ∨ i = 3 := by omega
    rcases hc with rfl | rfl | rfl | rfl
    · rw [zs_0_0 hz, zs_1_0 hz]; decide
    · rw [zs_0_1 hz, zs_1_1 hz]; decide
    · rw [zs_0_2 hz, zs_1_2 hz]; decide
    · rw [zs_0_3 hz, zs_1_3 hz]; decide
  have bx : -1 ≤ dX (i : Int) ∧ dX (i : Int) ≤ 1 := by unfold dX; repeat' split
                                                       all_goals omega
  have b_y : -1 ≤ dY (i : Int) ∧ dY (i : Int) ≤ 1 := by unfold dY; repeat' split
                                                        all_goals omega
  refine ⟨some (.inl (cAt (Z 1 0) (Z 1 1) (c % 10 + dX (i : Int)) (c / 10 + dY (i : Int)))), ?_⟩
  rw [b58_35, wr_id (by omega) (by omega), if_neg (by omega), b58_41, ks_0 H, ks_1 H, kk_1 H]
  simp (disch := omega) only [wr_id, wr_b2i, wr_wr, b2i_eq0, b2i_eq1, b2i_01, sm_rem_eq, sm_div_eq, wl_m2, wl_m1, wl_0, wl_1, wl_2, wl_3, wl_4, wl_5, wl_6, wl_7, wl_8, wl_9, wl_10, wl_12, wl_13, wl_14, wl_16, wl_20, wl_21, wl_22, wl_23, wl_32, wl_36, wl_40, wl_41, wl_42, wl_43, wl_44, wl_45, wl_46, wl_47, wl_48, wl_57, wl_59, wl_60, wl_61, wl_62, wl_65, wl_90, wl_97, wl_99, wl_100, wl_121, wl_122, wl_140, wl_142, wl_143, wl_145, wl_147, wl_160, wl_161, wl_162, wl_242, wl_380, wl_400, wl_420, wl_820, wl_1340, wl_5480, wl_9999, true_and, and_true, true_or, or_true, if_true, if_false, and_self, or_self, false_and, and_false, false_or, or_false, not_true_eq_false, not_false_eq_true, Int.reduceEq, Int.reduceLT, Int.reduceLE, Int.reduceToNat, Int.reduceAdd, Int.reduceMul, Int.reduceSub, Int.reduceMod, Int.reduceDiv, Int.reduceNeg, Nat.reduceEqDiff, sm_rd_ok, sm_rd_ok2, sm_wt_ok, sm_cp_ok, Option.isSome_some, Option.getD_some, w_cont, Option.toList_some, Option.toList_none, List.cons_append, List.nil_append, Int.toNat_natCast, ein.1, ein.2]
  rw [c_cellAt hK1 hs'.1 hs'.2 (by omega) (by omega), w_cont]
  simp only [wr_id, wr_b2i, wr_wr, b2i_eq0, b2i_eq1, b2i_01, sm_rem_eq, sm_div_eq, wl_m2, wl_m1, wl_0, wl_1, wl_2, wl_3, wl_4, wl_5, wl_6, wl_7, wl_8, wl_9, wl_10, wl_12, wl_13, wl_14, wl_16, wl_20, wl_21, wl_22, wl_23, wl_32, wl_36, wl_40, wl_41, wl_42, wl_43, wl_44, wl_45, wl_46, wl_47, wl_48, wl_57, wl_59, wl_60, wl_61, wl_62, wl_65, wl_90, wl_97, wl_99, wl_100, wl_121, wl_122, wl_140, wl_142, wl_143, wl_145, wl_147, wl_160, wl_161, wl_162, wl_242, wl_380, wl_400, wl_420, wl_820, wl_1340, wl_5480, wl_9999, true_and, and_true, true_or, or_true, if_true, if_false, and_self, or_self, false_and, and_false, false_or, or_false, not_true_eq_false, not_false_eq_true, Int.reduceEq, Int.reduceLT, Int.reduceLE, Int.reduceToNat, Int.reduceAdd, Int.reduceMul, Int.reduceSub, Int.reduceMod, Int.reduceDiv, Int.reduceNeg, Nat.reduceEqDiff, sm_rd_ok, sm_rd_ok2, sm_wt_ok, sm_cp_ok, Option.isSome_some, Option.getD_some, w_cont, Option.toList_some, Option.toList_none, List.cons_append, List.nil_append]
  rw [b58_67, wr_id (by omega) (by omega)]
  unfold ppU
  by_cases h1 : cAt (Z 1 0) (Z 1 1) (c % 10 + dX (i : Int)) (c / 10 + dY (i : Int)) = -1
  · rw [if_pos h1, if_pos h1, b58_88]
    rfl
  · rw [if_neg h1, if_neg h1, b58_75, kk_52 H, rr_52_0 H]
    simp (disch := omega) only [wr_id, wr_b2i, wr_wr, b2i_eq0, b2i_eq1, b2i_01, sm_rem_eq, sm_div_eq, wl_m2, wl_m1, wl_0, wl_1, wl_2, wl_3, wl_4, wl_5, wl_6, wl_7, wl_8, wl_9, wl_10, wl_12, wl_13, wl_14, wl_16, wl_20, wl_21, wl_22, wl_23, wl_32, wl_36, wl_40, wl_41, wl_42, wl_43, wl_44, wl_45, wl_46, wl_47, wl_48, wl_57, wl_59, wl_60, wl_61, wl_62, wl_65, wl_90, wl_97, wl_99, wl_100, wl_121, wl_122, wl_140, wl_142, wl_143, wl_145, wl_147, wl_160, wl_161, wl_162, wl_242, wl_380, wl_400, wl_420, wl_820, wl_1340, wl_5480, wl_9999, true_and, and_true, true_or, or_true, if_true, if_false, and_self, or_self, false_and, and_false, false_or, or_false, not_true_eq_false, not_false_eq_true, Int.reduceEq, Int.reduceLT, Int.reduceLE, Int.reduceToNat, Int.reduceAdd, Int.reduceMul, Int.reduceSub, Int.reduceMod, Int.reduceDiv, Int.reduceNeg, Nat.reduceEqDiff, sm_rd_ok, sm_rd_ok2, sm_wt_ok, sm_cp_ok, Option.isSome_some, Option.getD_some, w_cont, Option.toList_some, Option.toList_none, List.cons_append, List.nil_append, kk_53 H]
    rw [b58_88]
    rfl
theorem ppU_row {Z : Nat → Nat → Int} {b m : Int} {a : Nat} (h : a ≠ 53) : ppU Z b m a = Z a := by
  unfold ppU
  split
  · rfl
  · exact sm_u_row h
theorem ppU_zs {Z : Nat → Nat → Int} {b m : Int} (h : sm_zs Z) : sm_zs (ppU Z b m) := by
  refine ⟨fun i k h1 h2 => ?_, fun i k h1 h2 => ?_⟩
  · rw [ppU_row (by omega)]; exact h.1 i k h1 h2
  · rw [ppU_row (by omega)]; exact h.2 i k h1 h2
theorem ppU_53 {Z : Nat → Nat → Int} {w h m a b x y : Int} (hw : w ≤ 10) (hq : 0 ≤ x ∧ x < w ∧ 0 ≤ y ∧ y < h) : ppU Z (cAt w h a b) m 53 (10 * y + x).toNat = Z 53 (10 * y + x).toNat + (if x = a ∧ y = b then m * 5 else 0) := by
  unfold ppU
  by_cases h1 : 0 ≤ a ∧ a < w ∧ 0 ≤ b ∧ b < h
  · rw [cAt_pos h1, if_neg (by omega), sm_u_eq]
    by_cases h2 : x = a ∧ y = b
    · rw [if_pos h2, if_pos (by omega), h2.1, h2.2, show 10 * b + a = b * 10 + a by omega]
    · rw [if_neg h2, if_neg (by omega)]
      omega
  · rw [cAt_neg h1, if_pos rfl, if_neg (by omega)]
    omega
theorem c_putPonds (H : sm_sh Rf K) {Z : Nat → Nat → Int} (hz : sm_zs Z) (hs : szN M) (hw : Z 1 0 = M 0 ∧ Z 1 1 = M 1) (hc : isC (M 0) (M 1) c = true) : ∃ Z', (∀ a, a ≠ 53 → a ≠ 54 → Z' a = Z a) ∧ (∀ x y, (0 ≤ x ∧ x < M 0 ∧ 0 ≤ y ∧ y < M 1) → Z' 53 (10 * y + x).toNat = Z 53 (10 * y + x).toNat + m * wtS x y (c % 10) (c / 10)) ∧ (∀ x y, (0 ≤ x ∧ x < M 0 ∧ 0 ≤ y ∧ y < M 1) → Z' 54 (10 * y + x).toNat = Z 54 (10 * y + x).toNat + (if x = c % 10 ∧ y = c / 10 then m else 0)) ∧ ∀ Q, sm_call (d + 1) 58 [.inr (some 52), .inr (some 1), .inl c, .inl m] (Z, Rf, K, n, z) Q = Q none (Z', Rf, K, n, z) := by
  have hs' := hs
  unfold szN at hs'
  have hc' := hc
  simp only [isC, decide_eq_true_eq] at hc'
  have hK1 : (K 1).1 = 1 := by rw [kk_1 H]
  let Z0 := sm_u (sm_u Z 54 c.toNat (Z 54 c.toNat + m)) 53 c.toNat (Z 53 c.toNat + m * 20)
  let b := fun (i : Int) => cAt (M 0) (M 1) (c % 10 + dX i) (c / 10 + dY i)
  have r0 : ∀ a, a ≠ 53 → a ≠ 54 → Z0 a = Z a := fun a h1 h2 => by
    show sm_u (sm_u Z 54 c.toNat _) 53 c.toNat _ a = _
    rw [sm_u_row h1, sm_u_row h2]
  have hz0 : sm_zs Z0 := by
    refine ⟨fun i k h1 h2 => ?_, fun i k h1 h2 => ?_⟩
    · rw [r0 _ (by omega) (by omega)]; exact hz.1 i k h1 h2
    · rw [r0 _ (by omega) (by omega)]; exact hz.2 i k h1 h2
  have w0 : Z0 1 = Z 1 := r0 1 (by decide) (by decide)
  have hpp : ∀ (Y : Nat → Nat → Int) (x : Int), Y 1 = Z 1 → ppU Y x m 1 = Z 1 := fun Y x h => by rw [ppU_row (by decide)]; exact h
  have sz : ∀ (Y : Nat → Nat → Int), Y 1 = Z 1 → szC Y := fun Y h => by
    unfold szC
    rw [h, hw.1, hw.2]
    exact hs'
  refine ⟨ppU (ppU (ppU (ppU Z0 (b 0) m) (b 1) m) (b 2) m) (b 3) m, ?_, ?_, ?_, ?_⟩
  · intro a h1 h2
    rw [ppU_row h1, ppU_row h1, ppU_row h1, ppU_row h1, r0 a h1 h2]
  · intro x y hq
    rw [ppU_53 hs'.1.2 hq, ppU_53 hs'.1.2 hq, ppU_53 hs'.1.2 hq, ppU_53 hs'.1.2 hq]
    show (sm_u (sm_u Z 54 c.toNat _) 53 c.toNat _ 53 _) + _ + _ + _ + _ = _
    rw [sm_u_eq, sm_u_ne (by decide)]
    have dx0 : dX 0 = 0 := by decide
    have dx1 : dX 1 = 1 := by decide
    have dx2 : dX 2 = 0 := by decide
    have dx3 : dX 3 = -1 := by decide
    have dy0 : dY 0 = -1 := by decide
    have dy1 : dY 1 = 0 := by decide
    have dy2 : dY 2 = 1 := by decide
    have dy3 : dY 3 = 0 := by decide
    rw [dx0, dx1, dx2, dx3, dy0, dy1, dy2, dy3]
    unfold wtS
    by_cases h1 : x = c % 10 ∧ y = c / 10
    · rw [if_pos (by omega), if_neg (by omega), if_neg (by omega), if_neg (by omega), if_neg (by omega), if_pos h1, show (10 * y + x).toNat = c.toNat by omega]
      omega
    · rw [if_neg (by omega), if_neg h1]
      by_cases h2 : x = c % 10 ∧ y = c / 10 - 1
      · rw [if_pos (by omega), if_neg (by omega), if_neg (by omega), if_neg (by omega), if_pos (by omega)]
        omega
      · rw [if_neg (by omega)]
        by_cases h3 : x = c % 10 + 1 ∧ y = c / 10
        · rw [if_pos (by omega), if_neg (by omega), if_neg (by omega), if_pos (by omega)]
          omega
        · rw [if_neg (by omega)]
          by_cases h4 : x = c % 10 ∧ y = c / 10 + 1
          · rw [if_pos (by omega), if_neg (by omega), if_pos (by omega)]
            omega
          · rw [if_neg (by omega)]
            by_cases h5 : x = c % 10 - 1 ∧ y = c / 10
            · rw [if_pos (by omega), if_pos (by omega)]
              omega
            · rw [if_neg (by omega), if_neg (by omega)]
              omega
  · intro x y hq
    rw [ppU_row (by decide), ppU_row (by decide), ppU_row (by decide), ppU_row (by decide)]
    show sm_u (sm_u Z 54 c.toNat _) 53 c.toNat _ 54 _ = _
    rw [sm_u_ne (by decide), sm_u_eq]
    by_cases h1 : x = c % 10 ∧ y = c / 10
    · rw [if_pos h1, if_pos (by omega), show (10 * y + x).toNat = c.toNat by omega]
    · rw [if_neg h1, if_neg (by omega)]
      omega
  · intro Q
    rw [ce58, b58_0, kk_1 H, c_hasCell hK1 (by omega) (by omega) (by omega), w_cont, hw.1, hw.2, hc]
    simp only [wr_id, wr_b2i, wr_wr, b2i_eq0, b2i_eq1, b2i_01, sm_rem_eq, sm_div_eq, wl_m2, wl_m1, wl_0, wl_1, wl_2, wl_3, wl_4, wl_5, wl_6, wl_7, wl_8, wl_9, wl_10, wl_12, wl_13, wl_14, wl_16, wl_20, wl_21, wl_22, wl_23, wl_32, wl_36, wl_40, wl_41, wl_42, wl_43, wl_44, wl_45, wl_46, wl_47, wl_48, wl_57, wl_59, wl_60, wl_61, wl_62, wl_65, wl_90, wl_97, wl_99, wl_100, wl_121, wl_122, wl_140, wl_142, wl_143, wl_145, wl_147, wl_160, wl_161, wl_162, wl_242, wl_380, wl_400, wl_420, wl_820, wl_1340, wl_5480, wl_9999, true_and, and_true, true_or, or_true, if_true, if_false, and_self, or_self, false_and, and_false, false_or, or_false, not_true_eq_false, not_false_eq_true, Int.reduceEq, Int.reduceLT, Int.reduceLE, Int.reduceToNat, Int.reduceAdd, Int.reduceMul, Int.reduceSub, Int.reduceMod, Int.reduceDiv, Int.reduceNeg, Nat.reduceEqDiff, sm_rd_ok, sm_rd_ok2, sm_wt_ok, sm_cp_ok, Option.isSome_some, Option.getD_some, w_cont, Option.toList_some, Option.toList_none, List.cons_append, List.nil_append]
    rw [b58_5]
    simp only [wr_id, wr_b2i, wr_wr, b2i_eq0, b2i_eq1, b2i_01, sm_rem_eq, sm_div_eq, wl_m2, wl_m1, wl_0, wl_1, wl_2, wl_3, wl_4, wl_5, wl_6, wl_7, wl_8, wl_9, wl_10, wl_12, wl_13, wl_14, wl_16, wl_20, wl_21, wl_22, wl_23, wl_32, wl_36, wl_40, wl_41, wl_42, wl_43, wl_44, wl_45, wl_46, wl_47, wl_48, wl_57, wl_59, wl_60, wl_61, wl_62, wl_65, wl_90, wl_97, wl_99, wl_100, wl_121, wl_122, wl_140, wl_142, wl_143, wl_145, wl_147, wl_160, wl_161, wl_162, wl_242, wl_380, wl_400, wl_420, wl_820, wl_1340, wl_5480, wl_9999, true_and, and_true, true_or, or_true, if_true, if_false, and_self, or_self, false_and, and_false, false_or, or_false, not_true_eq_false, not_false_eq_true, Int.reduceEq, Int.reduceLT, Int.reduceLE, Int.reduceToNat, Int.reduceAdd, Int.reduceMul, Int.reduceSub, Int.reduceMod, Int.reduceDiv, Int.reduceNeg, Nat.reduceEqDiff, sm_rd_ok, sm_rd_ok2, sm_wt_ok, sm_cp_ok, Option.isSome_some, Option.getD_some, w_cont, Option.toList_some, Option.toList_none, List.cons_append, List.nil_append, reduceCtorEq]
    rw [b58_9, kk_52 H, rr_52_0 H, rr_52_1 H]
    simp (disch := omega) only [wr_id, wr_b2i, wr_wr, b2i_eq0, b2i_eq1, b2i_01, sm_rem_eq, sm_div_eq, wl_m2, wl_m1, wl_0, wl_1, wl_2, wl_3, wl_4, wl_5, wl_6, wl_7, wl_8, wl_9, wl_10, wl_12, wl_13, wl_14, wl_16, wl_20, wl_21, wl_22, wl_23, wl_32, wl_36, wl_40, wl_41, wl_42, wl_43, wl_44, wl_45, wl_46, wl_47, wl_48, wl_57, wl_59, wl_60, wl_61, wl_62, wl_65, wl_90, wl_97, wl_99, wl_100, wl_121, wl_122, wl_140, wl_142, wl_143, wl_145, wl_147, wl_160, wl_161, wl_162, wl_242, wl_380, wl_400, wl_420, wl_820, wl_1340, wl_5480, wl_9999, true_and, and_true, true_or, or_true, if_true, if_false, and_self, or_self, false_and, and_false, false_or, or_false, not_true_eq_false, not_false_eq_true, Int.reduceEq, Int.reduceLT, Int.reduceLE, Int.reduceToNat, Int.reduceAdd, Int.reduceMul, Int.reduceSub, Int.reduceMod, Int.reduceDiv, Int.reduceNeg, Nat.reduceEqDiff, sm_rd_ok, sm_rd_ok2, sm_wt_ok, sm_cp_ok, Option.isSome_some, Option.getD_some, w_cont, Option.toList_some, Option.toList_none, List.cons_append, List.nil_append, kk_53 H, kk_54 H, sm_u_ne]
    obtain ⟨l1, e1⟩ := c_pp_side (d := d) (n := n) (z := z) (Q := Q) (m := m) (c := c) H (Z := Z0) hz0 (sz _ w0) (by omega) 0 (by omega) none
    obtain ⟨l2, e2⟩ := c_pp_side (d := d) (n := n) (z := z) (Q := Q) (m := m) (c := c) H (Z := ppU Z0 (b 0) m) (ppU_zs hz0) (sz _ (hpp _ _ w0)) (by omega) 1 (by omega) l1
    obtain ⟨l3, e3⟩ := c_pp_side (d := d) (n := n) (z := z) (Q := Q) (m := m) (c := c) H (Z := ppU (ppU Z0 (b 0) m) (b 1) m) (ppU_zs (ppU_zs hz0)) (sz _ (hpp _ _ (hpp _ _ w0))) (by omega) 2 (by omega) l2
    obtain ⟨l4, e4⟩ := c_pp_side (d := d) (n := n) (z := z) (Q := Q) (m := m) (c := c) H (Z := ppU (ppU (ppU Z0 (b 0) m) (b 1) m) (b 2) m) (ppU_zs (ppU_zs (ppU_zs hz0))) (sz _ (hpp _ _ (hpp _ _ (hpp _ _ w0)))) (by omega) 3 (by omega) l3
    rw [w0, hw.1, hw.2] at e1
    rw [hpp _ _ w0, hw.1, hw.2] at e2
    rw [hpp _ _ (hpp _ _ w0), hw.1, hw.2] at e3
    rw [hpp _ _ (hpp _ _ (hpp _ _ w0)), hw.1, hw.2] at e4
    refine Eq.trans e1 (Eq.trans e2 (Eq.trans e3 (Eq.trans e4 ?_)))
    rw [b58_35, wr_id (by omega) (by omega), if_pos (by omega), b58_94]
    rfl
theorem c_putNone (H : sm_sh Rf K) {Z : Nat → Nat → Int} (hs : szC Z) (hc : aI c) (hn : isC (Z 1 0) (Z 1 1) c = false) : sm_call (d + 1) 58 [.inr (some 52), .inr (some 1), .inl c, .inl m] (Z, Rf, K, n, z) Q = Q none (Z, Rf, K, n, z) := by
  have hs' := hs
  unfold szC at hs'
  have hK1 : (K 1).1 = 1 := by rw [kk_1 H]
  rw [ce58, b58_0, kk_1 H, c_hasCell hK1 (by omega) (by omega) hc, w_cont, hn]
  simp only [wr_id, wr_b2i, wr_wr, b2i_eq0, b2i_eq1, b2i_01, sm_rem_eq, sm_div_eq, wl_m2, wl_m1, wl_0, wl_1, wl_2, wl_3, wl_4, wl_5, wl_6, wl_7, wl_8, wl_9, wl_10, wl_12, wl_13, wl_14, wl_16, wl_20, wl_21, wl_22, wl_23, wl_32, wl_36, wl_40, wl_41, wl_42, wl_43, wl_44, wl_45, wl_46, wl_47, wl_48, wl_57, wl_59, wl_60, wl_61, wl_62, wl_65, wl_90, wl_97, wl_99, wl_100, wl_121, wl_122, wl_140, wl_142, wl_143, wl_145, wl_147, wl_160, wl_161, wl_162, wl_242, wl_380, wl_400, wl_420, wl_820, wl_1340, wl_5480, wl_9999, true_and, and_true, true_or, or_true, if_true, if_false, and_self, or_self, false_and, and_false, false_or, or_false, not_true_eq_false, not_false_eq_true, Int.reduceEq, Int.reduceLT, Int.reduceLE, Int.reduceToNat, Int.reduceAdd, Int.reduceMul, Int.reduceSub, Int.reduceMod, Int.reduceDiv, Int.reduceNeg, Nat.reduceEqDiff, sm_rd_ok, sm_rd_ok2, sm_wt_ok, sm_cp_ok, Option.isSome_some, Option.getD_some, w_cont, Option.toList_some, Option.toList_none, List.cons_append, List.nil_append]
  rw [b58_5]
  simp only [wr_id, wr_b2i, wr_wr, b2i_eq0, b2i_eq1, b2i_01, sm_rem_eq, sm_div_eq, wl_m2, wl_m1, wl_0, wl_1, wl_2, wl_3, wl_4, wl_5, wl_6, wl_7, wl_8, wl_9, wl_10, wl_12, wl_13, wl_14, wl_16, wl_20, wl_21, wl_22, wl_23, wl_32, wl_36, wl_40, wl_41, wl_42, wl_43, wl_44, wl_45, wl_46, wl_47, wl_48, wl_57, wl_59, wl_60, wl_61, wl_62, wl_65, wl_90, wl_97, wl_99, wl_100, wl_121, wl_122, wl_140, wl_142, wl_143, wl_145, wl_147, wl_160, wl_161, wl_162, wl_242, wl_380, wl_400, wl_420, wl_820, wl_1340, wl_5480, wl_9999, true_and, and_true, true_or, or_true, if_true, if_false, and_self, or_self, false_and, and_false, false_or, or_false, not_true_eq_false, not_false_eq_true, Int.reduceEq, Int.reduceLT, Int.reduceLE, Int.reduceToNat, Int.reduceAdd, Int.reduceMul, Int.reduceSub, Int.reduceMod, Int.reduceDiv, Int.reduceNeg, Nat.reduceEqDiff, sm_rd_ok, sm_rd_ok2, sm_wt_ok, sm_cp_ok, Option.isSome_some, Option.getD_some, w_cont, Option.toList_some, Option.toList_none, List.cons_append, List.nil_append, reduceCtorEq]
  rw [b58_8]
/-- only the ponds below i -/
def mPo (M : Nat → Int) (i : Nat) : Nat → Int := fun k => if 120 + i ≤ k ∧ k < 220 then 0 else M k
theorem rSi_skip {Z : Nat → Nat → Int} {M : Nat → Int} (i : Nat) (hi : i < 100) (hs : szN M) (hn : isC (M 0) (M 1) (i : Int) = false ∨ M (120 + i) = 0) (hr : rSi Z (mPo M i)) : rSi Z (mPo M (i + 1)) := by
  unfold szN at hs
  have e0 : ∀ j, mPo M j 0 = M 0 := fun j => by unfold mPo; rw [if_neg (by omega)]
  have e1 : ∀ j, mPo M j 1 = M 1 := fun j => by unfold mPo; rw [if_neg (by omega)]
  have ep : ∀ x y, pondS (mPo M (i + 1)) x y = pondS (mPo M i) x y := by
    intro x y
    unfold pondS
    rw [e0, e0, e1, e1]
    by_cases h1 : 0 ≤ x ∧ x < M 0 ∧ 0 ≤ y ∧ y < M 1
    · rw [if_pos h1, if_pos h1]
      unfold mPo
      by_cases h2 : (120 + 10 * y + x).toNat = 120 + i
      · rcases hn with hn | hn
        · simp only [isC, decide_eq_false_iff_not] at hn
          exfalso
          omega
        · rw [if_neg (by omega), if_pos (by omega), h2, hn]
      · by_cases h3 : 120 + i ≤ (120 + 10 * y + x).toNat ∧ (120 + 10 * y + x).toNat < 220
        · rw [if_pos h3, if_pos (by omega)]
        · rw [if_neg h3, if_neg (by omega)]
    · rw [if_neg h1, if_neg h1]
  intro x y hq
  rw [e0, e1] at hq
  have h := hr x y (by rw [e0, e1]; exact hq)
  rw [ep]
  refine ⟨?_, h.2⟩
  rw [h.1]
  unfold seenS
  rw [e0, e0, e1, e1, if_pos hq, if_pos hq, ep, ep, ep, ep, ep]
  have : mPo M (i + 1) (20 + 10 * y + x).toNat = mPo M i (20 + 10 * y + x).toNat := by
    unfold mPo
    rw [if_neg (by omega), if_neg (by omega)]
  rw [this]
theorem c_take_loop (H : sm_sh Rf K) (hs : szN M) (hp01 : ∀ c, c < 100 → M (120 + c) = 0 ∨ M (120 + c) = 1) : ∀ (k i : Nat) (Z : Nat → Nat → Int), i + k = 100 → sm_zs Z → (Z 1 0 = M 0 ∧ Z 1 1 = M 1) → (∀ c, c < 100 → Z 5 c = M (120 + c)) → rSi Z (mPo M i) → ∃ Z', (∀ a, a ≠ 53 → a ≠ 54 → Z' a = Z a) ∧ rSi Z' (mPo M 100) ∧ ∀ Q, sm_wp (d + 2) 57 25 [some (.inr (some 52)), some (.inr (some 1)), some (.inl (i : Int))] [] (Z, Rf, K, n, z) Q = Q none (Z', Rf, K, n, z) := by
  have hs' := hs
  unfold szN at hs'
  intro k
  induction k with
  | zero =>
    intro i Z hi hz hw hpo hr
    have hi : i = 100 := by omega
    subst hi
    refine ⟨Z, fun a _ _ => rfl, hr, fun Q => ?_⟩
    rw [b57_25, wr_id (by omega) (by omega), if_pos (by omega), b57_53]
  | succ k ih =>
    intro i Z hi hz hw hpo hr
    have hpi := hp01 i (by omega)
    have hpz := hpo i (by omega)
    have head : ∀ Q, sm_wp (d + 2) 57 25 [some (.inr (some 52)), some (.inr (some 1)), some (.inl (i : Int))] [] (Z, Rf, K, n, z) Q = if M (120 + i) = 0 then sm_wp (d + 2) 57 47 [some (.inr (some 52)), some (.inr (some 1)), some (.inl (i : Int))] [] (Z, Rf, K, n, z) Q else sm_wp (d + 2) 57 40 [some (.inr (some 52)), some (.inr (some 1)), some (.inl (i : Int))] [] (Z, Rf, K, n, z) Q := by
      intro Q
      rw [b57_25, wr_id (by omega) (by omega), if_neg (by omega), b57_31, kk_1 H, rr_1_7 H]
      simp (disch := omega) only [wr_id, wr_b2i, wr_wr, b2i_eq0, b2i_eq1, b2i_01, sm_rem_eq, sm_div_eq, wl_m2, wl_m1, wl_0, wl_1, wl_2, wl_3, wl_4, wl_5, wl_6, wl_7, wl_8, wl_9, wl_10, wl_12, wl_13, wl_14, wl_16, wl_20, wl_21, wl_22, wl_23, wl_32, wl_36, wl_40, wl_41, wl_42, wl_43, wl_44, wl_45, wl_46, wl_47, wl_48, wl_57, wl_59, wl_60, wl_61, wl_62, wl_65, wl_90, wl_97, wl_99, wl_100, wl_121, wl_122, wl_140, wl_142, wl_143, wl_145, wl_147, wl_160, wl_161, wl_162, wl_242, wl_380, wl_400, wl_420, wl_820, wl_1340, wl_5480, wl_9999, true_and, and_true, true_or, or_true, if_true, if_false, and_self, or_self, false_and, and_false, false_or, or_false, not_true_eq_false, not_false_eq_true, Int.reduceEq, Int.reduceLT, Int.reduceLE, Int.reduceToNat, Int.reduceAdd, Int.reduceMul, Int.reduceSub, Int.reduceMod, Int.reduceDiv, Int.reduceNeg, Nat.reduceEqDiff, sm_rd_ok, sm_rd_ok2, sm_wt_ok, sm_cp_ok, Option.isSome_some, Option.getD_some, w_cont, Option.toList_some, Option.toList_none, List.cons_append, List.nil_append, kk_5 H, Int.toNat_natCast, hpz]
    by_cases h0 : M (120 + i) = 0
    · obtain ⟨Z', g1, g2, g3⟩ := ih (i + 1) Z (by omega) hz hw hpo (rSi_skip i (by omega) hs (Or.inr h0) hr)
      refine ⟨Z', g1, g2, fun Q => ?_⟩
      rw [head, if_pos h0, b57_47, show (i : Int) + 1 = ((i + 1 : Nat) : Int) by omega, g3]
    · by_cases hc : isC (M 0) (M 1) (i : Int) = true
      · obtain ⟨Z1, f1, f2, f3, f4⟩ := c_putPonds (d := d) (n := n) (z := z) (M := M) (c := (i : Int)) (m := 1) H hz hs hw hc
        have hc' := hc
        simp only [isC, decide_eq_true_eq] at hc'
        have e0 : mPo M i 0 = M 0 := by unfold mPo; rw [if_neg (by omega)]
        have e1 : mPo M i 1 = M 1 := by unfold mPo; rw [if_neg (by omega)]
        have hsi : szN (mPo M i) := by unfold szN; rw [e0, e1]; exact hs'
        have hzs : sm_zs Z1 := ⟨fun i k h1 h2 => by rw [f1 _ (by omega) (by omega)]; exact hz.1 i k h1 h2, fun i k h1 h2 => by rw [f1 _ (by omega) (by omega)]; exact hz.2 i k h1 h2⟩
        have hup : mPo M (i + 1) = mU (mPo M i) (120 + 10 * ((i : Int) / 10) + (i : Int) % 10).toNat 1 := by
          funext k
          rw [show (120 + 10 * ((i : Int) / 10) + (i : Int) % 10).toNat = 120 + i by omega]
          unfold mU mPo
          by_cases h1 : k = 120 + i
          · rw [if_pos h1, if_neg (by omega), h1]
            omega
          · rw [if_neg h1]
            by_cases h2 : 120 + i ≤ k ∧ k < 220
            · rw [if_pos h2, if_pos (by omega)]
            · rw [if_neg h2, if_neg (by omega)]
        have hp0 : pondS (mPo M i) ((i : Int) % 10) ((i : Int) / 10) = 0 := by
          unfold pondS
          split
          · unfold mPo
            rw [if_pos (by omega)]
          · rfl
        have hr1 : rSi Z1 (mPo M (i + 1)) := by
          rw [hup]
          refine rSi_upd (m := 1) hsi (by rw [e0, e1]; omega) hr (by rw [hp0]; rfl) ?_ ?_
          · rw [e0, e1]; exact f2
          · rw [e0, e1]; exact f3
        obtain ⟨Z', g1, g2, g3⟩ := ih (i + 1) Z1 (by omega) hzs (by rw [f1 1 (by decide) (by decide)]; exact hw) (fun c hc => by rw [f1 5 (by decide) (by decide)]; exact hpo c hc) hr1
        refine ⟨Z', fun a h1 h2 => by rw [g1 a h1 h2, f1 a h1 h2], g2, fun Q => ?_⟩
        rw [head, if_neg h0, b57_40, kk_52 H, f4, w_cont]
        simp only [wr_id, wr_b2i, wr_wr, b2i_eq0, b2i_eq1, b2i_01, sm_rem_eq, sm_div_eq, wl_m2, wl_m1, wl_0, wl_1, wl_2, wl_3, wl_4, wl_5, wl_6, wl_7, wl_8, wl_9, wl_10, wl_12, wl_13, wl_14, wl_16, wl_20, wl_21, wl_22, wl_23, wl_32, wl_36, wl_40, wl_41, wl_42, wl_43, wl_44, wl_45, wl_46, wl_47, wl_48, wl_57, wl_59, wl_60, wl_61, wl_62, wl_65, wl_90, wl_97, wl_99, wl_100, wl_121, wl_122, wl_140, wl_142, wl_143, wl_145, wl_147, wl_160, wl_161, wl_162, wl_242, wl_380, wl_400, wl_420, wl_820, wl_1340, wl_5480, wl_9999, true_and, and_true, true_or, or_true, if_true, if_false, and_self, or_self, false_and, and_false, false_or, or_false, not_true_eq_false, not_false_eq_true, Int.reduceEq, Int.reduceLT, Int.reduceLE, Int.reduceToNat, Int.reduceAdd, Int.reduceMul, Int.reduceSub, Int.reduceMod, Int.reduceDiv, Int.reduceNeg, Nat.reduceEqDiff, sm_rd_ok, sm_rd_ok2, sm_wt_ok, sm_cp_ok, Option.isSome_some, Option.getD_some, w_cont, Option.toList_some, Option.toList_none, List.cons_append, List.nil_append]
        rw [b57_47, show (i : Int) + 1 = ((i + 1 : Nat) : Int) by omega, g3]
      · have hn : isC (M 0) (M 1) (i : Int) = false := by
          cases hq : isC (M 0) (M 1) (i : Int) with
          | false => rfl
          | true => exact absurd hq hc
        obtain ⟨Z', g1, g2, g3⟩ := ih (i + 1) Z (by omega) hz hw hpo (rSi_skip i (by omega) hs (Or.inl hn) hr)
        refine ⟨Z', g1, g2, fun Q => ?_⟩
        rw [head, if_neg h0, b57_40, kk_52 H, c_putNone H (by unfold szC; rw [hw.1, hw.2]; exact hs') ⟨by omega, by omega⟩ (by rw [hw.1, hw.2]; exact hn), w_cont]
        simp only [wr_id, wr_b2i, wr_wr, b2i_eq0, b2i_eq1, b2i_01, sm_rem_eq, sm_div_eq, wl_m2, wl_m1, wl_0, wl_1, wl_2, wl_3, wl_4, wl_5, wl_6, wl_7, wl_8, wl_9, wl_10, wl_12, wl_13, wl_14, wl_16, wl_20, wl_21, wl_22, wl_23, wl_32, wl_36, wl_40, wl_41, wl_42, wl_43, wl_44, wl_45, wl_46, wl_47, wl_48, wl_57, wl_59, wl_60, wl_61, wl_62, wl_65, wl_90, wl_97, wl_99, wl_100, wl_121, wl_122, wl_140, wl_142, wl_143, wl_145, wl_147, wl_160, wl_161, wl_162, wl_242, wl_380, wl_400, wl_420, wl_820, wl_1340, wl_5480, wl_9999, true_and, and_true, true_or, or_true, if_true, if_false, and_self, or_self, false_and, and_false, false_or, or_false, not_true_eq_false, not_false_eq_true, Int.reduceEq, Int.reduceLT, Int.reduceLE, Int.reduceToNat, Int.reduceAdd, Int.reduceMul, Int.reduceSub, Int.reduceMod, Int.reduceDiv, Int.reduceNeg, Nat.reduceEqDiff, sm_rd_ok, sm_rd_ok2, sm_wt_ok, sm_cp_ok, Option.isSome_some, Option.getD_some, w_cont, Option.toList_some, Option.toList_none, List.cons_append, List.nil_append]
        rw [b57_47, show (i : Int) + 1 = ((i + 1 : Nat) : Int) by omega, g3]
end TAKE
