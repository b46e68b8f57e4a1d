theorem cAt_bd {w h : Int} (x y : Int) (hw : w ≤ 10) (hh : h ≤ 10) : -1 ≤ cAt w h x y ∧ cAt w h x y < 100 := by
  unfold cAt
  split <;> omega
theorem cAt_ne {w h : Int} (x y : Int) : ¬ cAt w h x y = -1 ↔ (0 ≤ x ∧ x < w ∧ 0 ≤ y ∧ y < h) := by
  unfold cAt
  split <;> omega
theorem cAt_pos {w h x y : Int} (hp : 0 ≤ x ∧ x < w ∧ 0 ≤ y ∧ y < h) : cAt w h x y = y * 10 + x := by
  unfold cAt
  rw [if_pos hp]
theorem cAt_neg {w h x y : Int} (hp : ¬ (0 ≤ x ∧ x < w ∧ 0 ≤ y ∧ y < h)) : cAt w h x y = -1 := by
  unfold cAt
  rw [if_neg hp]
/-- the yard between a cell and that beside it -/
def yB (w h x y s : Int) : Int := if s = 0 then yF w h x y 1 else if s = 1 then yF w h (x + 1) y 2 else if s = 2 then yF w h x (y + 1) 1 else yF w h x y 2
def catA (f : Nat → Int) (w h cx cy : Int) : Bool := decide (¬ cAt w h cx cy = -1 ∧ ¬ f (cAt w h cx cy).toNat = 0)
def catS (f : Nat → Int) (w h x y : Int) : Bool := (catA f w h (x - 1) (y - 1) || catA f w h x (y - 1) || catA f w h x y || catA f w h (x - 1) y)
/-- the heading behind a turn: the class's turns -/
def hdA (h t : Int) (m : Bool) : Int := if t = 1 then (if m = true then (h + 1) % 4 else (h + 3) % 4) else if t = 2 then (if m = true then (h + 3) % 4 else (h + 1) % 4) else if t = 3 then (h + 2) % 4 else h
def joS (k a b : Int) : Int := if k = 4 then a * b else if k = 5 then a + b else if k = 6 then a - b else if k = 7 then (if wr a < wr b then 1 else 0) else if k = 8 then (if wr a = wr b then 1 else 0) else if k = 9 then (if wr b < wr a then 1 else 0) else if k = 10 then sm_and a b else sm_or a b
section FLY1
variable {d n z : Nat} {Z : Nat → Nat → Int} {Rf : Nat → Nat → Option Nat} {K : Nat → Nat × Nat} {Q : Option sm_V → sm_S → Prop} {r q : Nat} {c x y h v l m a b e f i s k : Int}
set_option maxHeartbeats 1000000 in
theorem c_yardBeside (H : sm_sh Rf K) (hz : sm_zs Z) (hs : szC Z) (hx : -2 ≤ x ∧ x ≤ 100) (hy : -2 ≤ y ∧ y ≤ 100) (hk : 0 ≤ s ∧ s ≤ 3) : sm_call (d + 1) 12 [.inr (some 1), .inl x, .inl y, .inl s] (Z, Rf, K, n, z) Q = Q (some (.inl (yB (Z 1 0) (Z 1 1) x y s))) (Z, Rf, K, n, z) := by
  unfold szC at hs
  have hK1 : (K 1).1 = 1 := by rw [kk_1 H]
  have hc : s = 0 ∨ s = 1 ∨ s = 2 ∨ s = 3 := by omega
  rw [ce12]
  rcases hc with rfl | rfl | rfl | rfl
  all_goals
    repeat' first | (simp (disch := first | omega | assumption) only [wr_id, wr_b2i, wr_wr, b2i_eq0, b2i_eq1, b2i_01, sm_rem_eq, sm_div_eq, wl_m2, wl_m1, wl_0, wl_1, wl_2, wl_3, wl_4, wl_5, wl_6, wl_7, wl_8, wl_9, wl_10, wl_12, wl_13, wl_14, wl_16, wl_20, wl_21, wl_22, wl_23, wl_32, wl_36, wl_40, wl_41, wl_42, wl_43, wl_44, wl_45, wl_46, wl_47, wl_48, wl_57, wl_59, wl_60, wl_61, wl_62, wl_65, wl_90, wl_97, wl_99, wl_100, wl_121, wl_122, wl_140, wl_142, wl_143, wl_145, wl_147, wl_160, wl_161, wl_162, wl_242, wl_380, wl_400, wl_420, wl_820, wl_1340, wl_5480, wl_9999, true_and, and_true, true_or, or_true, if_true, if_false, and_self, or_self, false_and, and_false, false_or, or_false, not_true_eq_false, not_false_eq_true, Int.reduceEq, Int.reduceLT, Int.reduceLE, Int.reduceToNat, Int.reduceAdd, Int.reduceMul, Int.reduceSub, Int.reduceMod, Int.reduceDiv, Int.reduceNeg, Nat.reduceEqDiff, sm_rd_ok, sm_rd_ok2, sm_wt_ok, sm_cp_ok, Option.isSome_some, Option.getD_some, w_cont, Option.toList_some, Option.toList_none, List.cons_append, List.nil_append, c_yardFrom H hz, kk_1 H, sm_sel]) | split | rw [b12_0] | rw [b12_28] | rw [b12_35] | rw [b12_36] | rw [b12_45] | rw [b12_46] | rw [b12_55] | rw [b12_56] | rw [b12_63]
  all_goals rfl
set_option maxHeartbeats 1000000 in
theorem c_hasMirror (H : sm_sh Rf K) (hs : szC Z) (hp : isP (Z 1 0) (Z 1 1) x y = true) (hm : Z 9 (y * 11 + x).toNat = 0 ∨ Z 9 (y * 11 + x).toNat = 1) : sm_call (d + 1) 13 [.inr (some 1), .inl x, .inl y] (Z, Rf, K, n, z) Q = Q (some (.inl (Z 9 (y * 11 + x).toNat))) (Z, Rf, K, n, z) := by
  unfold szC at hs
  have hK1 : (K 1).1 = 1 := by rw [kk_1 H]
  have hp' := hp
  simp only [isP, decide_eq_true_eq] at hp'
  rw [ce13]
  rcases hm with hm | hm
  all_goals
    repeat' first | (simp (disch := first | omega | assumption) only [wr_id, wr_b2i, wr_wr, b2i_eq0, b2i_eq1, b2i_01, sm_rem_eq, sm_div_eq, wl_m2, wl_m1, wl_0, wl_1, wl_2, wl_3, wl_4, wl_5, wl_6, wl_7, wl_8, wl_9, wl_10, wl_12, wl_13, wl_14, wl_16, wl_20, wl_21, wl_22, wl_23, wl_32, wl_36, wl_40, wl_41, wl_42, wl_43, wl_44, wl_45, wl_46, wl_47, wl_48, wl_57, wl_59, wl_60, wl_61, wl_62, wl_65, wl_90, wl_97, wl_99, wl_100, wl_121, wl_122, wl_140, wl_142, wl_143, wl_145, wl_147, wl_160, wl_161, wl_162, wl_242, wl_380, wl_400, wl_420, wl_820, wl_1340, wl_5480, wl_9999, true_and, and_true, true_or, or_true, if_true, if_false, and_self, or_self, false_and, and_false, false_or, or_false, not_true_eq_false, not_false_eq_true, Int.reduceEq, Int.reduceLT, Int.reduceLE, Int.reduceToNat, Int.reduceAdd, Int.reduceMul, Int.reduceSub, Int.reduceMod, Int.reduceDiv, Int.reduceNeg, Nat.reduceEqDiff, sm_rd_ok, sm_rd_ok2, sm_wt_ok, sm_cp_ok, Option.isSome_some, Option.getD_some, w_cont, Option.toList_some, Option.toList_none, List.cons_append, List.nil_append, c_hasPoint, kk_1 H, kk_9 H, rr_1_11 H, hp, hm, reduceCtorEq]) | split | rw [b13_0] | rw [b13_6] | rw [b13_9] | rw [b13_23] | rw [b13_27] | rw [b13_28]
set_option maxHeartbeats 4000000 in
theorem c_hasCatAt (H : sm_sh Rf K) (hz : sm_zs Z) (hs : szC Z) (hx : -2 ≤ x ∧ x ≤ 100) (hy : -2 ≤ y ∧ y ≤ 100) (hb : ∀ c, c < 100 → aI (Z 4 c)) : sm_call (d + 1) 14 [.inr (some 1), .inl x, .inl y] (Z, Rf, K, n, z) Q = Q (some (.inl (b2i (catS (Z 4) (Z 1 0) (Z 1 1) x y)))) (Z, Rf, K, n, z) := by
  unfold szC at hs
  have hK1 : (K 1).1 = 1 := by rw [kk_1 H]
  have one : ∀ (i : Nat) (cx cy : Int) (l4 : Option sm_V), (i = 0 ∧ cx = x + -1 ∧ cy = y + -1) ∨ (i = 1 ∧ cx = x + 0 ∧ cy = y + -1) ∨ (i = 2 ∧ cx = x + 0 ∧ cy = y + 0) ∨ (i = 3 ∧ cx = x + -1 ∧ cy = y + 0) → ∃ l4', sm_wp (d + 1) 14 2 [some (.inr (some 1)), some (.inl x), some (.inl y), some (.inl (i : Int)), l4] [] (Z, Rf, K, n, z) Q = if catA (Z 4) (Z 1 0) (Z 1 1) cx cy = true then Q (some (.inl 1)) (Z, Rf, K, n, z) else sm_wp (d + 1) 14 2 [some (.inr (some 1)), some (.inl x), some (.inl y), some (.inl ((i + 1 : Nat) : Int)), l4'] [] (Z, Rf, K, n, z) Q := by
    intro i cx cy l4 hi
    have hcb := cAt_bd (w := Z 1 0) (h := Z 1 1) cx cy (by omega) (by omega)
    refine ⟨some (.inl (cAt (Z 1 0) (Z 1 1) cx cy)), ?_⟩
    have ein : (Z 1000002 i = cx - x) ∧ (Z 1000003 i = cy - y) := by
      rcases hi with ⟨rfl, rfl, rfl⟩ | ⟨rfl, rfl, rfl⟩ | ⟨rfl, rfl, rfl⟩ | ⟨rfl, rfl, rfl⟩
      · rw [zs_2_0 hz, zs_3_0 hz]; omega
      · rw [zs_2_1 hz, zs_3_1 hz]; omega
      · rw [zs_2_2 hz, zs_3_2 hz]; omega
      · rw [zs_2_3 hz, zs_3_3 hz]; omega
    rw [b14_2, wr_id (by omega) (by omega), if_neg (by omega), b14_7, ks_2 H, ks_3 H, kk_1 H]
    simp (disch := omega) only [wr_id, wr_b2i, wr_wr, b2i_eq0, b2i_eq1, b2i_01, sm_rem_eq, sm_div_eq, wl_m2, wl_m1, wl_0, wl_1, wl_2, wl_3, wl_4, wl_5, wl_6, wl_7, wl_8, wl_9, wl_10, wl_12, wl_13, wl_14, wl_16, wl_20, wl_21, wl_22, wl_23, wl_32, wl_36, wl_40, wl_41, wl_42, wl_43, wl_44, wl_45, wl_46, wl_47, wl_48, wl_57, wl_59, wl_60, wl_61, wl_62, wl_65, wl_90, wl_97, wl_99, wl_100, wl_121, wl_122, wl_140, wl_142, wl_143, wl_145, wl_147, wl_160, wl_161, wl_162, wl_242, wl_380, wl_400, wl_420, wl_820, wl_1340, wl_5480, wl_9999, true_and, and_true, true_or, or_true, if_true, if_false, and_self, or_self, false_and, and_false, false_or, or_false, not_true_eq_false, not_false_eq_true, Int.reduceEq, Int.reduceLT, Int.reduceLE, Int.reduceToNat, Int.reduceAdd, Int.reduceMul, Int.reduceSub, Int.reduceMod, Int.reduceDiv, Int.reduceNeg, Nat.reduceEqDiff, sm_rd_ok, sm_rd_ok2, sm_wt_ok, sm_cp_ok, Option.isSome_some, Option.getD_some, w_cont, Option.toList_some, Option.toList_none, List.cons_append, List.nil_append, Int.toNat_natCast, ein.1, ein.2]
    rw [show x + (cx - x) = cx by omega, show y + (cy - y) = cy by omega, c_cellAt hK1 hs.1 hs.2 (by omega) (by omega)]
    simp (disch := omega) only [wr_id, wr_b2i, wr_wr, b2i_eq0, b2i_eq1, b2i_01, sm_rem_eq, sm_div_eq, wl_m2, wl_m1, wl_0, wl_1, wl_2, wl_3, wl_4, wl_5, wl_6, wl_7, wl_8, wl_9, wl_10, wl_12, wl_13, wl_14, wl_16, wl_20, wl_21, wl_22, wl_23, wl_32, wl_36, wl_40, wl_41, wl_42, wl_43, wl_44, wl_45, wl_46, wl_47, wl_48, wl_57, wl_59, wl_60, wl_61, wl_62, wl_65, wl_90, wl_97, wl_99, wl_100, wl_121, wl_122, wl_140, wl_142, wl_143, wl_145, wl_147, wl_160, wl_161, wl_162, wl_242, wl_380, wl_400, wl_420, wl_820, wl_1340, wl_5480, wl_9999, true_and, and_true, true_or, or_true, if_true, if_false, and_self, or_self, false_and, and_false, false_or, or_false, not_true_eq_false, not_false_eq_true, Int.reduceEq, Int.reduceLT, Int.reduceLE, Int.reduceToNat, Int.reduceAdd, Int.reduceMul, Int.reduceSub, Int.reduceMod, Int.reduceDiv, Int.reduceNeg, Nat.reduceEqDiff, sm_rd_ok, sm_rd_ok2, sm_wt_ok, sm_cp_ok, Option.isSome_some, Option.getD_some, w_cont, Option.toList_some, Option.toList_none, List.cons_append, List.nil_append]
    rw [b14_25, wr_id (by omega) (by omega)]
    simp only [catA, decide_eq_true_eq]
    by_cases h1 : cAt (Z 1 0) (Z 1 1) cx cy = -1
    · rw [if_pos h1, b14_45, if_neg (by intro h; exact h.1 h1)]
      rfl
    · have hbc := hb (cAt (Z 1 0) (Z 1 1) cx cy).toNat (by omega)
      unfold aI at hbc
      rw [if_neg h1, b14_33, kk_1 H, rr_1_6 H]
      simp (disch := omega) only [wr_id, wr_b2i, wr_wr, b2i_eq0, b2i_eq1, b2i_01, sm_rem_eq, sm_div_eq, wl_m2, wl_m1, wl_0, wl_1, wl_2, wl_3, wl_4, wl_5, wl_6, wl_7, wl_8, wl_9, wl_10, wl_12, wl_13, wl_14, wl_16, wl_20, wl_21, wl_22, wl_23, wl_32, wl_36, wl_40, wl_41, wl_42, wl_43, wl_44, wl_45, wl_46, wl_47, wl_48, wl_57, wl_59, wl_60, wl_61, wl_62, wl_65, wl_90, wl_97, wl_99, wl_100, wl_121, wl_122, wl_140, wl_142, wl_143, wl_145, wl_147, wl_160, wl_161, wl_162, wl_242, wl_380, wl_400, wl_420, wl_820, wl_1340, wl_5480, wl_9999, true_and, and_true, true_or, or_true, if_true, if_false, and_self, or_self, false_and, and_false, false_or, or_false, not_true_eq_false, not_false_eq_true, Int.reduceEq, Int.reduceLT, Int.reduceLE, Int.reduceToNat, Int.reduceAdd, Int.reduceMul, Int.reduceSub, Int.reduceMod, Int.reduceDiv, Int.reduceNeg, Nat.reduceEqDiff, sm_rd_ok, sm_rd_ok2, sm_wt_ok, sm_cp_ok, Option.isSome_some, Option.getD_some, w_cont, Option.toList_some, Option.toList_none, List.cons_append, List.nil_append, kk_4 H]
      by_cases h2 : Z 4 (cAt (Z 1 0) (Z 1 1) cx cy).toNat = 0
      · rw [if_pos h2, if_neg (by intro h; exact h.2 h2), b14_45]
        rfl
      · rw [if_neg h2, if_pos ⟨h1, h2⟩, b14_43]
        simp only [wr_id, wr_b2i, wr_wr, b2i_eq0, b2i_eq1, b2i_01, sm_rem_eq, sm_div_eq, wl_m2, wl_m1, wl_0, wl_1, wl_2, wl_3, wl_4, wl_5, wl_6, wl_7, wl_8, wl_9, wl_10, wl_12, wl_13, wl_14, wl_16, wl_20, wl_21, wl_22, wl_23, wl_32, wl_36, wl_40, wl_41, wl_42, wl_43, wl_44, wl_45, wl_46, wl_47, wl_48, wl_57, wl_59, wl_60, wl_61, wl_62, wl_65, wl_90, wl_97, wl_99, wl_100, wl_121, wl_122, wl_140, wl_142, wl_143, wl_145, wl_147, wl_160, wl_161, wl_162, wl_242, wl_380, wl_400, wl_420, wl_820, wl_1340, wl_5480, wl_9999, true_and, and_true, true_or, or_true, if_true, if_false, and_self, or_self, false_and, and_false, false_or, or_false, not_true_eq_false, not_false_eq_true, Int.reduceEq, Int.reduceLT, Int.reduceLE, Int.reduceToNat, Int.reduceAdd, Int.reduceMul, Int.reduceSub, Int.reduceMod, Int.reduceDiv, Int.reduceNeg, Nat.reduceEqDiff, sm_rd_ok, sm_rd_ok2, sm_wt_ok, sm_cp_ok, Option.isSome_some, Option.getD_some, w_cont, Option.toList_some, Option.toList_none, List.cons_append, List.nil_append]
  rw [ce14, b14_0]
  obtain ⟨l0, e0⟩ := one 0 (x + -1) (y + -1) none (by omega)
  obtain ⟨l1, e1⟩ := one 1 (x + 0) (y + -1) l0 (by omega)
  obtain ⟨l2, e2⟩ := one 2 (x + 0) (y + 0) l1 (by omega)
  obtain ⟨l3, e3⟩ := one 3 (x + -1) (y + 0) l2 (by omega)
  simp only [Int.add_zero] at e0 e1 e2 e3
  have e00 := e0.trans (by rw [e1, e2, e3])
  refine Eq.trans e00 ?_
  unfold catS
  rw [show x - 1 = x + -1 by omega, show y - 1 = y + -1 by omega]
  by_cases h1 : catA (Z 4) (Z 1 0) (Z 1 1) (x + -1) (y + -1) = true
  · simp [h1, b2i]
  · by_cases h2 : catA (Z 4) (Z 1 0) (Z 1 1) x (y + -1) = true
    · simp [h1, h2, b2i]
    · by_cases h3 : catA (Z 4) (Z 1 0) (Z 1 1) x y = true
      · simp [h1, h2, h3, b2i]
      · by_cases h4 : catA (Z 4) (Z 1 0) (Z 1 1) (x + -1) y = true
        · simp [h1, h2, h3, h4, b2i]
        · rw [if_neg h1, if_neg h2, if_neg h3, if_neg h4, b14_2, wr_id (by omega) (by omega), if_pos (by omega), b14_51]
          simp [h1, h2, h3, h4, b2i]
theorem m_hasCat (H : sm_sh Rf K) (hs : szM Z) (hx : -2 ≤ x ∧ x ≤ 100) (hy : -2 ≤ y ∧ y ≤ 100) (hb : ∀ c, c < 100 → Z 80 (320 + c) = 0 ∨ Z 80 (320 + c) = 1) : sm_call (d + 2) 168 [.inr (some 79), .inl x, .inl y] (Z, Rf, K, n, z) Q = Q (some (.inl (b2i (catS (fun c => Z 80 (320 + c)) (Z 80 0) (Z 80 1) x y)))) (Z, Rf, K, n, z) := by
  have hs' := hs
  unfold szM at hs'
  have one : ∀ (cx cy : Int), (x - 1 ≤ cx ∧ cx ≤ x) → (y - 1 ≤ cy ∧ cy ≤ y) → sm_wp (d + 2) 168 14 [some (.inr (some 79)), some (.inl x), some (.inl y), some (.inl cx), some (.inl cy)] [] (Z, Rf, K, n, z) Q = if catA (fun c => Z 80 (320 + c)) (Z 80 0) (Z 80 1) cx cy = true then Q (some (.inl 1)) (Z, Rf, K, n, z) else sm_wp (d + 2) 168 14 [some (.inr (some 79)), some (.inl x), some (.inl y), some (.inl cx), some (.inl (cy + 1))] [] (Z, Rf, K, n, z) Q := by
    intro cx cy hcx hcy
    have hcb := cAt_bd (w := Z 80 0) (h := Z 80 1) cx cy (by omega) (by omega)
    rw [b168_14, wr_id (by omega) (by omega), wr_id (by omega) (by omega), if_neg (by omega), b168_20, kk_79 H, m_isPlace H hs ⟨by omega, by omega⟩ ⟨by omega, by omega⟩]
    simp only [wr_id, wr_b2i, wr_wr, b2i_eq0, b2i_eq1, b2i_01, sm_rem_eq, sm_div_eq, wl_m2, wl_m1, wl_0, wl_1, wl_2, wl_3, wl_4, wl_5, wl_6, wl_7, wl_8, wl_9, wl_10, wl_12, wl_13, wl_14, wl_16, wl_20, wl_21, wl_22, wl_23, wl_32, wl_36, wl_40, wl_41, wl_42, wl_43, wl_44, wl_45, wl_46, wl_47, wl_48, wl_57, wl_59, wl_60, wl_61, wl_62, wl_65, wl_90, wl_97, wl_99, wl_100, wl_121, wl_122, wl_140, wl_142, wl_143, wl_145, wl_147, wl_160, wl_161, wl_162, wl_242, wl_380, wl_400, wl_420, wl_820, wl_1340, wl_5480, wl_9999, true_and, and_true, true_or, or_true, if_true, if_false, and_self, or_self, false_and, and_false, false_or, or_false, not_true_eq_false, not_false_eq_true, Int.reduceEq, Int.reduceLT, Int.reduceLE, Int.reduceToNat, Int.reduceAdd, Int.reduceMul, Int.reduceSub, Int.reduceMod, Int.reduceDiv, Int.reduceNeg, Nat.reduceEqDiff, sm_rd_ok, sm_rd_ok2, sm_wt_ok, sm_cp_ok, Option.isSome_some, Option.getD_some, w_cont, Option.toList_some, Option.toList_none, List.cons_append, List.nil_append]
    rw [b168_27]
    simp only [wr_id, wr_b2i, wr_wr, b2i_eq0, b2i_eq1, b2i_01, sm_rem_eq, sm_div_eq, wl_m2, wl_m1, wl_0, wl_1, wl_2, wl_3, wl_4, wl_5, wl_6, wl_7, wl_8, wl_9, wl_10, wl_12, wl_13, wl_14, wl_16, wl_20, wl_21, wl_22, wl_23, wl_32, wl_36, wl_40, wl_41, wl_42, wl_43, wl_44, wl_45, wl_46, wl_47, wl_48, wl_57, wl_59, wl_60, wl_61, wl_62, wl_65, wl_90, wl_97, wl_99, wl_100, wl_121, wl_122, wl_140, wl_142, wl_143, wl_145, wl_147, wl_160, wl_161, wl_162, wl_242, wl_380, wl_400, wl_420, wl_820, wl_1340, wl_5480, wl_9999, true_and, and_true, true_or, or_true, if_true, if_false, and_self, or_self, false_and, and_false, false_or, or_false, not_true_eq_false, not_false_eq_true, Int.reduceEq, Int.reduceLT, Int.reduceLE, Int.reduceToNat, Int.reduceAdd, Int.reduceMul, Int.reduceSub, Int.reduceMod, Int.reduceDiv, Int.reduceNeg, Nat.reduceEqDiff, sm_rd_ok, sm_rd_ok2, sm_wt_ok, sm_cp_ok, Option.isSome_some, Option.getD_some, w_cont, Option.toList_some, Option.toList_none, List.cons_append, List.nil_append, decide_eq_false_iff_not]
    simp only [catA, decide_eq_true_eq]
    by_cases h1 : 0 ≤ cx ∧ cx < Z 80 0 ∧ 0 ≤ cy ∧ cy < Z 80 1
    · have h1' := (cAt_ne (w := Z 80 0) (h := Z 80 1) cx cy).2 h1
      have e1 := cAt_pos h1
      have hbc := hb (cAt (Z 80 0) (Z 80 1) cx cy).toNat (by omega)
      rw [if_neg (by intro h; exact h h1), b168_30, kk_79 H, rr_79_0 H]
      have ei : (320 + 10 * cy + cx).toNat = 320 + (cAt (Z 80 0) (Z 80 1) cx cy).toNat := by omega
      simp (disch := omega) only [wr_id, wr_b2i, wr_wr, b2i_eq0, b2i_eq1, b2i_01, sm_rem_eq, sm_div_eq, wl_m2, wl_m1, wl_0, wl_1, wl_2, wl_3, wl_4, wl_5, wl_6, wl_7, wl_8, wl_9, wl_10, wl_12, wl_13, wl_14, wl_16, wl_20, wl_21, wl_22, wl_23, wl_32, wl_36, wl_40, wl_41, wl_42, wl_43, wl_44, wl_45, wl_46, wl_47, wl_48, wl_57, wl_59, wl_60, wl_61, wl_62, wl_65, wl_90, wl_97, wl_99, wl_100, wl_121, wl_122, wl_140, wl_142, wl_143, wl_145, wl_147, wl_160, wl_161, wl_162, wl_242, wl_380, wl_400, wl_420, wl_820, wl_1340, wl_5480, wl_9999, true_and, and_true, true_or, or_true, if_true, if_false, and_self, or_self, false_and, and_false, false_or, or_false, not_true_eq_false, not_false_eq_true, Int.reduceEq, Int.reduceLT, Int.reduceLE, Int.reduceToNat, Int.reduceAdd, Int.reduceMul, Int.reduceSub, Int.reduceMod, Int.reduceDiv, Int.reduceNeg, Nat.reduceEqDiff, sm_rd_ok, sm_rd_ok2, sm_wt_ok, sm_cp_ok, Option.isSome_some, Option.getD_some, w_cont, Option.toList_some, Option.toList_none, List.cons_append, List.nil_append, kk_80 H, ei]
      by_cases h2 : Z 80 (320 + (cAt (Z 80 0) (Z 80 1) cx cy).toNat) = 1
      · rw [if_pos h2, if_pos ⟨h1', by omega⟩, b168_50]
        simp only [wr_id, wr_b2i, wr_wr, b2i_eq0, b2i_eq1, b2i_01, sm_rem_eq, sm_div_eq, wl_m2, wl_m1, wl_0, wl_1, wl_2, wl_3, wl_4, wl_5, wl_6, wl_7, wl_8, wl_9, wl_10, wl_12, wl_13, wl_14, wl_16, wl_20, wl_21, wl_22, wl_23, wl_32, wl_36, wl_40, wl_41, wl_42, wl_43, wl_44, wl_45, wl_46, wl_47, wl_48, wl_57, wl_59, wl_60, wl_61, wl_62, wl_65, wl_90, wl_97, wl_99, wl_100, wl_121, wl_122, wl_140, wl_142, wl_143, wl_145, wl_147, wl_160, wl_161, wl_162, wl_242, wl_380, wl_400, wl_420, wl_820, wl_1340, wl_5480, wl_9999, true_and, and_true, true_or, or_true, if_true, if_false, and_self, or_self, false_and, and_false, false_or, or_false, not_true_eq_false, not_false_eq_true, Int.reduceEq, Int.reduceLT, Int.reduceLE, Int.reduceToNat, Int.reduceAdd, Int.reduceMul, Int.reduceSub, Int.reduceMod, Int.reduceDiv, Int.reduceNeg, Nat.reduceEqDiff, sm_rd_ok, sm_rd_ok2, sm_wt_ok, sm_cp_ok, Option.isSome_some, Option.getD_some, w_cont, Option.toList_some, Option.toList_none, List.cons_append, List.nil_append]
      · rw [if_neg h2, if_neg (by intro h; exact h.2 (by omega)), b168_52]
    · rw [if_pos h1, b168_52, if_neg (by intro h; exact h1 ((cAt_ne cx cy).1 h.1))]
  have two : ∀ (cx : Int), (x - 1 ≤ cx ∧ cx ≤ x) → sm_wp (d + 2) 168 14 [some (.inr (some 79)), some (.inl x), some (.inl y), some (.inl cx), some (.inl (y - 1 + 1 + 1))] [] (Z, Rf, K, n, z) Q = sm_wp (d + 2) 168 4 [some (.inr (some 79)), some (.inl x), some (.inl y), some (.inl (cx + 1)), some (.inl (y - 1 + 1 + 1))] [] (Z, Rf, K, n, z) Q := by
    intro cx hcx
    rw [b168_14, wr_id (by omega) (by omega), wr_id (by omega) (by omega), if_pos (by omega), b168_58]
  have three : ∀ (cx : Int) (l4 : Option sm_V), (x - 1 ≤ cx ∧ cx ≤ x) → sm_wp (d + 2) 168 4 [some (.inr (some 79)), some (.inl x), some (.inl y), some (.inl cx), l4] [] (Z, Rf, K, n, z) Q = if catA (fun c => Z 80 (320 + c)) (Z 80 0) (Z 80 1) cx (y - 1) = true then Q (some (.inl 1)) (Z, Rf, K, n, z) else if catA (fun c => Z 80 (320 + c)) (Z 80 0) (Z 80 1) cx (y - 1 + 1) = true then Q (some (.inl 1)) (Z, Rf, K, n, z) else sm_wp (d + 2) 168 4 [some (.inr (some 79)), some (.inl x), some (.inl y), some (.inl (cx + 1)), some (.inl (y - 1 + 1 + 1))] [] (Z, Rf, K, n, z) Q := by
    intro cx l4 hcx
    rw [b168_4, wr_id (by omega) (by omega), wr_id (by omega) (by omega), if_neg (by omega), b168_9, one _ _ (by omega) (by omega), one _ _ (by omega) (by omega), two _ (by omega)]
  have four : ∀ (l4 : Option sm_V), sm_wp (d + 2) 168 4 [some (.inr (some 79)), some (.inl x), some (.inl y), some (.inl (x - 1 + 1 + 1)), l4] [] (Z, Rf, K, n, z) Q = Q (some (.inl 0)) (Z, Rf, K, n, z) := by
    intro l4
    rw [b168_4, wr_id (by omega) (by omega), wr_id (by omega) (by omega), if_pos (by omega), b168_64]
    simp only [wr_id, wr_b2i, wr_wr, b2i_eq0, b2i_eq1, b2i_01, sm_rem_eq, sm_div_eq, wl_m2, wl_m1, wl_0, wl_1, wl_2, wl_3, wl_4, wl_5, wl_6, wl_7, wl_8, wl_9, wl_10, wl_12, wl_13, wl_14, wl_16, wl_20, wl_21, wl_22, wl_23, wl_32, wl_36, wl_40, wl_41, wl_42, wl_43, wl_44, wl_45, wl_46, wl_47, wl_48, wl_57, wl_59, wl_60, wl_61, wl_62, wl_65, wl_90, wl_97, wl_99, wl_100, wl_121, wl_122, wl_140, wl_142, wl_143, wl_145, wl_147, wl_160, wl_161, wl_162, wl_242, wl_380, wl_400, wl_420, wl_820, wl_1340, wl_5480, wl_9999, true_and, and_true, true_or, or_true, if_true, if_false, and_self, or_self, false_and, and_false, false_or, or_false, not_true_eq_false, not_false_eq_true, Int.reduceEq, Int.reduceLT, Int.reduceLE, Int.reduceToNat, Int.reduceAdd, Int.reduceMul, Int.reduceSub, Int.reduceMod, Int.reduceDiv, Int.reduceNeg, Nat.reduceEqDiff, sm_rd_ok, sm_rd_ok2, sm_wt_ok, sm_cp_ok, Option.isSome_some, Option.getD_some, w_cont, Option.toList_some, Option.toList_none, List.cons_append, List.nil_append]
  rw [ce168, b168_0, three _ _ (by omega), three _ _ (by omega), four]
  unfold catS
  rw [show y - 1 + 1 = y by omega, show x - 1 + 1 = x by omega]
  by_cases h1 : catA (fun c => Z 80 (320 + c)) (Z 80 0) (Z 80 1) (x - 1) (y - 1) = true
  · simp [h1, b2i]
  · by_cases h2 : catA (fun c => Z 80 (320 + c)) (Z 80 0) (Z 80 1) x (y - 1) = true
    · simp [h1, h2, b2i]
    · by_cases h3 : catA (fun c => Z 80 (320 + c)) (Z 80 0) (Z 80 1) x y = true
      · simp [h1, h2, h3, b2i]
      · by_cases h4 : catA (fun c => Z 80 (320 + c)) (Z 80 0) (Z 80 1) (x - 1) y = true
        · simp [h1, h2, h3, h4, b2i]
        · simp [h1, h2, h3, h4, b2i]
set_option maxHeartbeats 1000000 in
theorem c_headingAfter {mb : Bool} (H : sm_sh Rf K) (hh : 0 ≤ Z 51 7 ∧ Z 51 7 ≤ 3) (ht : 0 ≤ v ∧ v ≤ 4) : sm_call d 63 [.inr (some 51), .inl v, .inl (b2i mb)] (Z, Rf, K, n, z) Q = Q (some (.inl (hdA (Z 51 7) v mb))) (Z, Rf, K, n, z) := by
  have hc : v = 0 ∨ v = 1 ∨ v = 2 ∨ v = 3 ∨ v = 4 := by omega
  rw [ce63]
  rcases hc with rfl | rfl | rfl | rfl | rfl
  all_goals
    repeat' first | (simp (disch := first | omega | assumption) only [wr_id, wr_b2i, wr_wr, b2i_eq0, b2i_eq1, b2i_01, sm_rem_eq, sm_div_eq, wl_m2, wl_m1, wl_0, wl_1, wl_2, wl_3, wl_4, wl_5, wl_6, wl_7, wl_8, wl_9, wl_10, wl_12, wl_13, wl_14, wl_16, wl_20, wl_21, wl_22, wl_23, wl_32, wl_36, wl_40, wl_41, wl_42, wl_43, wl_44, wl_45, wl_46, wl_47, wl_48, wl_57, wl_59, wl_60, wl_61, wl_62, wl_65, wl_90, wl_97, wl_99, wl_100, wl_121, wl_122, wl_140, wl_142, wl_143, wl_145, wl_147, wl_160, wl_161, wl_162, wl_242, wl_380, wl_400, wl_420, wl_820, wl_1340, wl_5480, wl_9999, true_and, and_true, true_or, or_true, if_true, if_false, and_self, or_self, false_and, and_false, false_or, or_false, not_true_eq_false, not_false_eq_true, Int.reduceEq, Int.reduceLT, Int.reduceLE, Int.reduceToNat, Int.reduceAdd, Int.reduceMul, Int.reduceSub, Int.reduceMod, Int.reduceDiv, Int.reduceNeg, Nat.reduceEqDiff, sm_rd_ok, sm_rd_ok2, sm_wt_ok, sm_cp_ok, Option.isSome_some, Option.getD_some, w_cont, Option.toList_some, Option.toList_none, List.cons_append, List.nil_append, kk_51 H, sm_sel, and_3]) | split | rw [b63_0] | rw [b63_28] | rw [b63_36] | rw [b63_40] | rw [b63_41] | rw [b63_45] | rw [b63_53] | rw [b63_57] | rw [b63_58] | rw [b63_62] | rw [b63_71]
  all_goals (try (simp (disch := omega) only [hdA, wr_id, wr_b2i, wr_wr, b2i_eq0, b2i_eq1, b2i_01, sm_rem_eq, sm_div_eq, wl_m2, wl_m1, wl_0, wl_1, wl_2, wl_3, wl_4, wl_5, wl_6, wl_7, wl_8, wl_9, wl_10, wl_12, wl_13, wl_14, wl_16, wl_20, wl_21, wl_22, wl_23, wl_32, wl_36, wl_40, wl_41, wl_42, wl_43, wl_44, wl_45, wl_46, wl_47, wl_48, wl_57, wl_59, wl_60, wl_61, wl_62, wl_65, wl_90, wl_97, wl_99, wl_100, wl_121, wl_122, wl_140, wl_142, wl_143, wl_145, wl_147, wl_160, wl_161, wl_162, wl_242, wl_380, wl_400, wl_420, wl_820, wl_1340, wl_5480, wl_9999, true_and, and_true, true_or, or_true, if_true, if_false, and_self, or_self, false_and, and_false, false_or, or_false, not_true_eq_false, not_false_eq_true, Int.reduceEq, Int.reduceLT, Int.reduceLE, Int.reduceToNat, Int.reduceAdd, Int.reduceMul, Int.reduceSub, Int.reduceMod, Int.reduceDiv, Int.reduceNeg, Nat.reduceEqDiff, sm_rd_ok, sm_rd_ok2, sm_wt_ok, sm_cp_ok, Option.isSome_some, Option.getD_some, w_cont, Option.toList_some, Option.toList_none, List.cons_append, List.nil_append, *]))
  all_goals (try simp only [hdA, Int.reduceEq, if_true, if_false, *])
  all_goals (try simp)
theorem c_lay (H : sm_sh Rf K) {o p : Nat} (hK : (K r).1 = 9) (ho : Rf r 0 = some o) (hp : Rf r 1 = some p) (hKo : K o = (100, 242)) (hKp : K p = (100, 242)) (hop : o ≠ p) (hy : 0 ≤ y ∧ y < 242) (hb : aI (Z o y.toNat)) : sm_call d 78 [.inr (some r), .inl y, .inl a, .inl b] (Z, Rf, K, n, z) Q = Q none (if Z o y.toNat = -1 then sm_u (sm_u Z o y.toNat a) p y.toNat b else Z, Rf, K, n, z) := by
  unfold aI at hb
  rw [ce78, b78_0, wr_id (by omega) (by omega), if_neg (by omega), b78_4, wr_id (by omega) (by omega), if_neg (by omega), b78_11, hK, ho]
  simp (disch := omega) only [wr_id, wr_b2i, wr_wr, b2i_eq0, b2i_eq1, b2i_01, sm_rem_eq, sm_div_eq, wl_m2, wl_m1, wl_0, wl_1, wl_2, wl_3, wl_4, wl_5, wl_6, wl_7, wl_8, wl_9, wl_10, wl_12, wl_13, wl_14, wl_16, wl_20, wl_21, wl_22, wl_23, wl_32, wl_36, wl_40, wl_41, wl_42, wl_43, wl_44, wl_45, wl_46, wl_47, wl_48, wl_57, wl_59, wl_60, wl_61, wl_62, wl_65, wl_90, wl_97, wl_99, wl_100, wl_121, wl_122, wl_140, wl_142, wl_143, wl_145, wl_147, wl_160, wl_161, wl_162, wl_242, wl_380, wl_400, wl_420, wl_820, wl_1340, wl_5480, wl_9999, true_and, and_true, true_or, or_true, if_true, if_false, and_self, or_self, false_and, and_false, false_or, or_false, not_true_eq_false, not_false_eq_true, Int.reduceEq, Int.reduceLT, Int.reduceLE, Int.reduceToNat, Int.reduceAdd, Int.reduceMul, Int.reduceSub, Int.reduceMod, Int.reduceDiv, Int.reduceNeg, Nat.reduceEqDiff, sm_rd_ok, sm_rd_ok2, sm_wt_ok, sm_cp_ok, Option.isSome_some, Option.getD_some, w_cont, Option.toList_some, Option.toList_none, List.cons_append, List.nil_append, hKo]
  by_cases h1 : Z o y.toNat = -1
  · rw [if_pos h1, if_pos h1, b78_21, hK, ho, hp]
    simp (disch := omega) only [wr_id, wr_b2i, wr_wr, b2i_eq0, b2i_eq1, b2i_01, sm_rem_eq, sm_div_eq, wl_m2, wl_m1, wl_0, wl_1, wl_2, wl_3, wl_4, wl_5, wl_6, wl_7, wl_8, wl_9, wl_10, wl_12, wl_13, wl_14, wl_16, wl_20, wl_21, wl_22, wl_23, wl_32, wl_36, wl_40, wl_41, wl_42, wl_43, wl_44, wl_45, wl_46, wl_47, wl_48, wl_57, wl_59, wl_60, wl_61, wl_62, wl_65, wl_90, wl_97, wl_99, wl_100, wl_121, wl_122, wl_140, wl_142, wl_143, wl_145, wl_147, wl_160, wl_161, wl_162, wl_242, wl_380, wl_400, wl_420, wl_820, wl_1340, wl_5480, wl_9999, true_and, and_true, true_or, or_true, if_true, if_false, and_self, or_self, false_and, and_false, false_or, or_false, not_true_eq_false, not_false_eq_true, Int.reduceEq, Int.reduceLT, Int.reduceLE, Int.reduceToNat, Int.reduceAdd, Int.reduceMul, Int.reduceSub, Int.reduceMod, Int.reduceDiv, Int.reduceNeg, Nat.reduceEqDiff, sm_rd_ok, sm_rd_ok2, sm_wt_ok, sm_cp_ok, Option.isSome_some, Option.getD_some, w_cont, Option.toList_some, Option.toList_none, List.cons_append, List.nil_append, hKo, hKp]
    rw [b78_35]
  · rw [if_neg h1, if_neg h1, b78_35]
set_option maxHeartbeats 1000000 in
theorem c_join (hk : 4 ≤ k ∧ k ≤ 11) : sm_call d 23 [.inl k, .inl a, .inl b] (Z, Rf, K, n, z) Q = Q (some (.inl (joS k a b))) (Z, Rf, K, n, z) := by
  have hc : k = 4 ∨ k = 5 ∨ k = 6 ∨ k = 7 ∨ k = 8 ∨ k = 9 ∨ k = 10 ∨ k = 11 := by omega
  rw [ce23]
  rcases hc with rfl | rfl | rfl | rfl | rfl | rfl | rfl | rfl
  all_goals
    repeat' first | (simp (disch := first | omega | assumption) only [wr_id, wr_b2i, wr_wr, b2i_eq0, b2i_eq1, b2i_01, sm_rem_eq, sm_div_eq, wl_m2, wl_m1, wl_0, wl_1, wl_2, wl_3, wl_4, wl_5, wl_6, wl_7, wl_8, wl_9, wl_10, wl_12, wl_13, wl_14, wl_16, wl_20, wl_21, wl_22, wl_23, wl_32, wl_36, wl_40, wl_41, wl_42, wl_43, wl_44, wl_45, wl_46, wl_47, wl_48, wl_57, wl_59, wl_60, wl_61, wl_62, wl_65, wl_90, wl_97, wl_99, wl_100, wl_121, wl_122, wl_140, wl_142, wl_143, wl_145, wl_147, wl_160, wl_161, wl_162, wl_242, wl_380, wl_400, wl_420, wl_820, wl_1340, wl_5480, wl_9999, true_and, and_true, true_or, or_true, if_true, if_false, and_self, or_self, false_and, and_false, false_or, or_false, not_true_eq_false, not_false_eq_true, Int.reduceEq, Int.reduceLT, Int.reduceLE, Int.reduceToNat, Int.reduceAdd, Int.reduceMul, Int.reduceSub, Int.reduceMod, Int.reduceDiv, Int.reduceNeg, Nat.reduceEqDiff, sm_rd_ok, sm_rd_ok2, sm_wt_ok, sm_cp_ok, Option.isSome_some, Option.getD_some, w_cont, Option.toList_some, Option.toList_none, List.cons_append, List.nil_append, sm_sel]) | split | rw [b23_0] | rw [b23_44] | rw [b23_48] | rw [b23_52] | rw [b23_56] | rw [b23_61] | rw [b23_65] | rw [b23_66] | rw [b23_67] | rw [b23_72] | rw [b23_76] | rw [b23_77] | rw [b23_78] | rw [b23_83] | rw [b23_87] | rw [b23_88] | rw [b23_89] | rw [b23_93]
  all_goals first | rfl | (congr 3; simp only [joS, Int.reduceEq, if_true, if_false]; done) | (congr 3; simp only [joS, Int.reduceEq, if_true, if_false]; first | rw [if_pos (by omega)] | rw [if_neg (by omega)])
/-- the model's sign of a step, as the class's kind -/
def kiS (s : Int) : Int := if s = 13 then 5 else if s = 14 then 6 else if s = 15 then 4 else if s = 17 then 7 else if s = 18 then 8 else if s = 19 then 9 else if s = 21 then 10 else 11
set_option maxHeartbeats 1000000 in
theorem m_both (hk : s = 13 ∨ s = 14 ∨ s = 15 ∨ s = 17 ∨ s = 18 ∨ s = 19 ∨ s = 21 ∨ s = 22) : sm_call d 158 [.inl s, .inl a, .inl b] (Z, Rf, K, n, z) Q = Q (some (.inl (joS (kiS s) a b))) (Z, Rf, K, n, z) := by
  rw [ce158]
  rcases hk with rfl | rfl | rfl | rfl | rfl | rfl | rfl | rfl
  all_goals
    repeat' first | (simp (disch := first | omega | assumption) only [wr_id, wr_b2i, wr_wr, b2i_eq0, b2i_eq1, b2i_01, sm_rem_eq, sm_div_eq, wl_m2, wl_m1, wl_0, wl_1, wl_2, wl_3, wl_4, wl_5, wl_6, wl_7, wl_8, wl_9, wl_10, wl_12, wl_13, wl_14, wl_16, wl_20, wl_21, wl_22, wl_23, wl_32, wl_36, wl_40, wl_41, wl_42, wl_43, wl_44, wl_45, wl_46, wl_47, wl_48, wl_57, wl_59, wl_60, wl_61, wl_62, wl_65, wl_90, wl_97, wl_99, wl_100, wl_121, wl_122, wl_140, wl_142, wl_143, wl_145, wl_147, wl_160, wl_161, wl_162, wl_242, wl_380, wl_400, wl_420, wl_820, wl_1340, wl_5480, wl_9999, true_and, and_true, true_or, or_true, if_true, if_false, and_self, or_self, false_and, and_false, false_or, or_false, not_true_eq_false, not_false_eq_true, Int.reduceEq, Int.reduceLT, Int.reduceLE, Int.reduceToNat, Int.reduceAdd, Int.reduceMul, Int.reduceSub, Int.reduceMod, Int.reduceDiv, Int.reduceNeg, Nat.reduceEqDiff, sm_rd_ok, sm_rd_ok2, sm_wt_ok, sm_cp_ok, Option.isSome_some, Option.getD_some, w_cont, Option.toList_some, Option.toList_none, List.cons_append, List.nil_append, sm_sel]) | split | rw [b158_0] | rw [b158_52] | rw [b158_56] | rw [b158_60] | rw [b158_64] | rw [b158_69] | rw [b158_73] | rw [b158_74] | rw [b158_75] | rw [b158_80] | rw [b158_84] | rw [b158_85] | rw [b158_86] | rw [b158_91] | rw [b158_95] | rw [b158_96] | rw [b158_97] | rw [b158_101]
  all_goals first | rfl | (congr 3; simp only [joS, kiS, Int.reduceEq, if_true, if_false]; done) | (congr 3; simp only [joS, kiS, Int.reduceEq, if_true, if_false]; first | rw [if_pos (by omega)] | rw [if_neg (by omega)])
end FLY1
