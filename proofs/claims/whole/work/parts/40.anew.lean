theorem sm_sh_u {Rf : Nat → Nat → Option Nat} {K : Nat → Nat × Nat} (H : sm_sh Rf K) {a k : Nat} {v : Option Nat} (ha : a = 18 ∨ a = 43) : sm_sh (sm_u Rf a k v) K := by
  obtain ⟨h1, h2, h3, h4, h5⟩ := H
  refine ⟨h1, fun b j hb h18 h43 h19 hj hk hf => ?_, h3, fun i hi => ?_, h5⟩
  · rw [sm_u_ne (by omega)]
    exact h2 b j hb h18 h43 h19 hj hk hf
  · rw [sm_u_ne (by omega)]
    exact h4 i hi
theorem nc4 : ((4 : Nat) : Int) = 4 := rfl
def hbE (Rf : Nat → Nat → Option Nat) : Nat → Nat → Option Nat := sm_u (sm_u (sm_u (sm_u Rf 18 0 (some 19)) 18 1 (some 19)) 18 2 (some 19)) 18 3 (some 19)
/-- the class's duchy anew -/
def c_new1 (Z : Nat → Nat → Int) (w h : Int) : Nat → Nat → Int := sm_u (sm_u (sm_u (sm_u (sm_fr (sm_fr (sm_fr (sm_fr (sm_fr (sm_fr (sm_fr (sm_fr (sm_u (sm_u (sm_u Z 1 0 w) 1 1 h) 1 3 0) 2 0 100 0) 3 0 100 1) 4 0 100 0) 5 0 100 0) 6 0 100 0) 7 0 100 0) 8 0 100 (-1)) 9 0 121 0) 10 2 0) 12 2 0) 14 2 0) 16 2 0
def c_new (Z : Nat → Nat → Int) (w h : Int) : Nat → Nat → Int := sm_u (sm_fr (sm_fr (c_new1 Z w h) 22 0 242 (-1)) 23 0 242 (-1)) 24 2 0
section ANEW
variable {d n z : Nat} {Z : Nat → Nat → Int} {Rf : Nat → Nat → Option Nat} {K : Nat → Nat × Nat} {Q : Option sm_V → sm_S → Prop} {w h : Int}
set_option maxHeartbeats 4000000 in
theorem c_startAnew (H : sm_sh Rf K) : sm_call (d + 2) 6 [.inr (some 1), .inl w, .inl h] (Z, Rf, K, n, z) Q = Q none (c_new Z w h, hbE Rf, K, n, z) := by
  have H1 := sm_sh_u H (a := 18) (k := 0) (v := some 19) (Or.inl rfl)
  have H2 := sm_sh_u H1 (a := 18) (k := 1) (v := some 19) (Or.inl rfl)
  have H3 := sm_sh_u H2 (a := 18) (k := 2) (v := some 19) (Or.inl rfl)
  have H4 := sm_sh_u H3 (a := 18) (k := 3) (v := some 19) (Or.inl rfl)
  rw [ce6]
  repeat' first | (simp (disch := first | omega | assumption) only [wr_id, wr_b2i, wr_wr, b2i_eq0, b2i_eq1, b2i_01, sm_rem_eq, sm_div_eq, wl_m2, wl_m1, wl_0, wl_1, wl_2, wl_3, wl_4, wl_5, wl_6, wl_7, wl_8, wl_9, wl_10, wl_12, wl_13, wl_14, wl_16, wl_20, wl_21, wl_22, wl_23, wl_32, wl_36, wl_40, wl_41, wl_42, wl_43, wl_44, wl_45, wl_46, wl_47, wl_48, wl_57, wl_59, wl_60, wl_61, wl_62, wl_65, wl_90, wl_97, wl_99, wl_100, wl_121, wl_122, wl_140, wl_142, wl_143, wl_145, wl_147, wl_160, wl_161, wl_162, wl_242, wl_380, wl_400, wl_420, wl_820, wl_1340, wl_5480, wl_9999, true_and, and_true, true_or, or_true, if_true, if_false, and_self, or_self, false_and, and_false, false_or, or_false, not_true_eq_false, not_false_eq_true, Int.reduceEq, Int.reduceLT, Int.reduceLE, Int.reduceToNat, Int.reduceAdd, Int.reduceMul, Int.reduceSub, Int.reduceMod, Int.reduceDiv, Int.reduceNeg, Nat.reduceEqDiff, sm_rd_ok, sm_rd_ok2, sm_wt_ok, sm_cp_ok, Option.isSome_some, Option.getD_some, w_cont, Option.toList_some, Option.toList_none, List.cons_append, List.nil_append, nc4, kk_1 H, kk_10 H, kk_12 H, kk_14 H, kk_16 H, kk_18 H, H.2.2.2.2, rr_1_4 H, rr_1_5 H, rr_1_6 H, rr_1_7 H, rr_1_8 H, rr_1_9 H, rr_1_10 H, rr_1_11 H, rr_1_12 H, rr_1_13 H, rr_1_14 H, rr_1_15 H, rr_1_16 H, rr_1_17 H, rr_1_18 H, sm_u_ne (show (1 : Nat) ≠ 18 by decide), kk_21 H, c_fill (r := 2) (kk_2 H) (by decide), c_fill (r := 3) (kk_3 H) (by decide), c_fill (r := 4) (kk_4 H) (by decide), c_fill (r := 5) (kk_5 H) (by decide), c_fill (r := 6) (kk_6 H) (by decide), c_fill (r := 7) (kk_7 H) (by decide), c_fill (r := 8) (kk_8 H) (by decide), c_fill (r := 9) (kk_9 H) (by decide), c_clear (r := 21) (kk_21 H4) (rr_21_0 H4) (rr_21_1 H4) (rr_21_2 H4) (kk_22 H4) (kk_23 H4) (kk_24 H4)]) | split | rw [b6_0] | rw [b6_23] | rw [b6_31] | rw [b6_39] | rw [b6_47] | rw [b6_55] | rw [b6_63] | rw [b6_71] | rw [b6_79] | rw [b6_113] | rw [b6_118] | rw [b6_134] | rw [b6_141]
  rfl
set_option maxHeartbeats 2000000 in
theorem c_land (H : sm_sh Rf K) (hw : aI w) (hh : aI h) : sm_call (d + 3) 84 [.inr (some 0), .inl w, .inl h] (Z, Rf, K, n, z) Q = if (2 ≤ w ∧ w ≤ 10) ∧ (2 ≤ h ∧ h ≤ 10) then Q (some (.inl 1)) (sm_u (c_new Z w h) 0 12 0, hbE Rf, K, n, z) else Q (some (.inl 0)) (Z, Rf, K, n, z) := by
  unfold aI at hw hh
  rw [ce84]
  repeat' first | (simp (disch := first | omega | assumption) only [wr_id, wr_b2i, wr_wr, b2i_eq0, b2i_eq1, b2i_01, sm_rem_eq, sm_div_eq, wl_m2, wl_m1, wl_0, wl_1, wl_2, wl_3, wl_4, wl_5, wl_6, wl_7, wl_8, wl_9, wl_10, wl_12, wl_13, wl_14, wl_16, wl_20, wl_21, wl_22, wl_23, wl_32, wl_36, wl_40, wl_41, wl_42, wl_43, wl_44, wl_45, wl_46, wl_47, wl_48, wl_57, wl_59, wl_60, wl_61, wl_62, wl_65, wl_90, wl_97, wl_99, wl_100, wl_121, wl_122, wl_140, wl_142, wl_143, wl_145, wl_147, wl_160, wl_161, wl_162, wl_242, wl_380, wl_400, wl_420, wl_820, wl_1340, wl_5480, wl_9999, true_and, and_true, true_or, or_true, if_true, if_false, and_self, or_self, false_and, and_false, false_or, or_false, not_true_eq_false, not_false_eq_true, Int.reduceEq, Int.reduceLT, Int.reduceLE, Int.reduceToNat, Int.reduceAdd, Int.reduceMul, Int.reduceSub, Int.reduceMod, Int.reduceDiv, Int.reduceNeg, Nat.reduceEqDiff, sm_rd_ok, sm_rd_ok2, sm_wt_ok, sm_cp_ok, Option.isSome_some, Option.getD_some, w_cont, Option.toList_some, Option.toList_none, List.cons_append, List.nil_append, c_within, isInB, c_startAnew H, kk_0 H, kk_1 H, rr_0_0 H, decide_eq_true_eq, decide_eq_false_iff_not]) | split | rw [b84_0] | rw [b84_7] | rw [b84_10] | rw [b84_17] | rw [b84_20] | rw [b84_22] | rw [b84_31]
  all_goals (try first | rfl | omega | (exfalso; omega))
end ANEW
