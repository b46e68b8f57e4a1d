def frE (Z Z' : Nat → Nat → Int) (t : Nat) : Prop := ∀ a, a ≠ 51 → a ≠ 59 → a ≠ 60 → a ≠ 61 → a ≠ 62 → a ≠ t + 1 → a ≠ t + 2 → a ≠ t + 3 → a ≠ t + 4 → Z' a = Z a
/-- behind a flight of the class: where it ended stands in the row -/
def enC (Z Z' : Nat → Nat → Int) (t s : Nat) (r : (Nat → Int) × Int × Int × Int × Int) : Prop := Z' 59 0 = 8 ∧ Z' 59 2 = (s : Int) + 1 ∧ (∀ j, j < 5 * s → Z' 60 j = Z 60 j) ∧ Z' 60 (5 * s) = r.2.1 ∧ Z' 60 (5 * s + 1) = r.2.2.1 ∧ Z' 60 (5 * s + 2) = r.2.2.2.2 ∧ Z' 60 (5 * s + 3) = r.2.2.2.1 ∧ frE Z Z' t
section CFLY4
variable {d n z : Nat} {Rf : Nat → Nat → Option Nat} {K : Nat → Nat × Nat} {Q : Option sm_V → sm_S → Prop} {t : Nat} {th : Bool}
set_option maxHeartbeats 2000000 in
theorem c_fly (H : sm_sh Rf K) (hT : shT Rf K t th) {s : Nat} {M : Nat → Int} {Z : Nat → Nat → Int} (hi : invF M) (hw : swS M) (hx : rFx Z Rf K M) (hsi : rSi Z M) (hr : rTh Z M t th) (hz : sm_zs Z) (hs : (s : Int) < M 4) (h59 : Z 59 2 = (s : Int)) : ∃ Z', rTh Z' (flO th s M).1 t th ∧ enC Z Z' t s (flO th s M) ∧ ∀ Q, sm_call (d + 3) 61 [.inr (some 51), .inr (some 1), .inr (some t), .inl (s : Int)] (Z, Rf, K, n, z) Q = Q none (Z', Rf, K, n, z) := by
  obtain ⟨h1, h2, h3, h4⟩ := hw.2 s hs
  have h8 := hw.1
  have ht : t = 21 ∨ t = 64 := by rcases hT.1 with h | h <;> omega
  obtain ⟨a, q, L, P, u1, u2, u3, u4, u5, hwf, u7, u8, u9⟩ := hx.2.2.2.2.2.1 (M (1859 + 5 * s)).toNat (by omega)
  have g0 : Z 13 (5 * s) = M (1855 + 5 * s) := hx.2.2.2.2.1 s hs 0 (by omega)
  have g1 : Z 13 (5 * s + 1) = M (1856 + 5 * s) := (hx.2.2.2.2.1 s hs 1 (by omega)).trans (by congr 1; omega)
  have g2 : Z 13 (5 * s + 2) = M (1857 + 5 * s) := (hx.2.2.2.2.1 s hs 2 (by omega)).trans (by congr 1; omega)
  have g3 : Z 13 (5 * s + 3) = M (1858 + 5 * s) := (hx.2.2.2.2.1 s hs 3 (by omega)).trans (by congr 1; omega)
  let Z1 := sm_u (sm_u (sm_u Z 51 5 (M (1855 + 5 * s))) 51 6 (M (1856 + 5 * s))) 51 7 (M (1857 + 5 * s))
  have r1 : ∀ a, a ≠ 51 → Z1 a = Z a := fun a ha => by
    show sm_u (sm_u (sm_u Z 51 5 _) 51 6 _) 51 7 _ a = _
    rw [sm_u_row ha, sm_u_row ha, sm_u_row ha]
  have hx1 : rFx Z1 Rf K M := rFx_ag (agT_refl M) (fun a ha => r1 a (by omega)) (by rw [r1 59 (by decide)]) hx
  have hsi1 : rSi Z1 M := rSi_ag (agT_refl M) hi.1 (r1 53 (by decide)) (r1 54 (by decide)) hsi
  have hr1 : rTh Z1 M t th := rTh_row (r1 _ (by omega)) (r1 _ (by omega)) (r1 _ (by omega)) (r1 _ (by omega)) hr
  have hz1 : sm_zs Z1 := zs_fr hz (fun a ha => r1 a (by omega))
  obtain ⟨Z2, l6, l8, l9, w1, w2, w3, w4, w5, w6⟩ := c_fly_loop (d := d) (n := n) (z := z) H hT s (M (1859 + 5 * s)).toNat (M (1858 + 5 * s)).toNat a (by omega) (by omega) (by omega) u1 (M (1858 + 5 * s)).toNat 0 M Z1 (M (1855 + 5 * s)) (M (1856 + 5 * s)) (M (1857 + 5 * s)) none none (by omega) hi hx1 hsi1 hr1 hz1 rfl rfl rfl h1 h2
  have hlen : (((M (1858 + 5 * s)).toNat : Nat) : Int) = M (1858 + 5 * s) := by omega
  rw [hlen] at w1 w2 w3 w4 w6
  have e592 : Z2 59 = Z 59 := by rw [w5 59 (by decide) (by decide) (by decide) (by omega) (by omega) (by omega) (by omega), r1 59 (by decide)]
  have e602 : Z2 60 = Z 60 := by rw [w5 60 (by decide) (by decide) (by decide) (by omega) (by omega) (by omega) (by omega), r1 60 (by decide)]
  have f0 : flO th s M = flR th (M (1859 + 5 * s)).toNat (s : Int) (M (1858 + 5 * s)) (M (1858 + 5 * s)).toNat M (M (1855 + 5 * s)) (M (1856 + 5 * s)) (M (1857 + 5 * s)) 0 := rfl
  have c0 : (((0 : Nat) : Int)) = 0 := rfl
  rw [c0, ← f0] at w1 w2 w3 w4 w6
  refine ⟨rAdd Z2 59 60 (flO th s M).2.1 (flO th s M).2.2.1 (flO th s M).2.2.2.2 (flO th s M).2.2.2.1 0, ?_, ?_, fun Q => ?_⟩
  · refine rTh_row ?_ ?_ ?_ ?_ w1
    all_goals (unfold rAdd; rw [sm_u_row (by omega), sm_u_row (by omega), sm_u_row (by omega), sm_u_row (by omega), sm_u_row (by omega), sm_u_row (by omega)])
  · have n0 : ((s : Int) * 5).toNat = 5 * s := by omega
    have n1 : ((s : Int) * 5 + 1).toNat = 5 * s + 1 := by omega
    have n2 : ((s : Int) * 5 + 2).toNat = 5 * s + 2 := by omega
    have n3 : ((s : Int) * 5 + 3).toNat = 5 * s + 3 := by omega
    have n4 : ((s : Int) * 5 + 4).toNat = 5 * s + 4 := by omega
    unfold enC rAdd
    rw [e592, h59, n0, n1, n2, n3, n4]
    refine ⟨?_, ?_, fun j hj => ?_, ?_, ?_, ?_, ?_, ?_⟩
    · rw [sm_u_eq, if_neg (by decide), sm_u_ne (by decide), sm_u_ne (by decide), sm_u_ne (by decide), sm_u_ne (by decide), sm_u_ne (by decide), e592]
      exact hx.2.2.2.2.2.2
    · rw [sm_u_self]
    · rw [sm_u_ne (by decide), sm_u_eq, if_neg (by omega), sm_u_eq, if_neg (by omega), sm_u_eq, if_neg (by omega), sm_u_eq, if_neg (by omega), sm_u_eq, if_neg (by omega), e602]
    · rw [sm_u_ne (by decide), sm_u_eq, if_neg (by omega), sm_u_eq, if_neg (by omega), sm_u_eq, if_neg (by omega), sm_u_eq, if_neg (by omega), sm_u_self]
    · rw [sm_u_ne (by decide), sm_u_eq, if_neg (by omega), sm_u_eq, if_neg (by omega), sm_u_eq, if_neg (by omega), sm_u_self]
    · rw [sm_u_ne (by decide), sm_u_eq, if_neg (by omega), sm_u_eq, if_neg (by omega), sm_u_self]
    · rw [sm_u_ne (by decide), sm_u_eq, if_neg (by omega), sm_u_self]
    · intro a b1 b2 b3 b4 b5 b6 b7 b8 b9
      rw [sm_u_row b2, sm_u_row b3, sm_u_row b3, sm_u_row b3, sm_u_row b3, sm_u_row b3, w5 a b1 b4 b5 b6 b7 b8 b9, r1 a b1]
  · have hg := fun (Y : Nat → Nat → Int) (hY12 : Y 12 = Z 12) (c : Nat) (hc : c < 5) (Q : Option sm_V → sm_S → Prop) => c_getSw (d := d + 2) (n := n) (z := z) (Z := Y) (Q := Q) H h8 (by rw [hY12]; exact hx.2.2.2.1) hs c hc
    have hK59 : (K 59).1 = 5 := by rw [kk_59 H]
    rw [ce61, b61_0, kk_1 H, c_habitOf (k := (M (1859 + 5 * s)).toNat) H hw hx hs (by omega) u1, w_cont]
    simp only [wr_id, wr_b2i, wr_wr, b2i_eq0, b2i_eq1, b2i_01, sm_rem_eq, sm_div_eq, wl_m2, wl_m1, wl_0, wl_1, wl_2, wl_3, wl_4, wl_5, wl_6, wl_7, wl_8, wl_9, wl_10, wl_12, wl_13, wl_14, wl_16, wl_20, wl_21, wl_22, wl_23, wl_32, wl_36, wl_40, wl_41, wl_42, wl_43, wl_44, wl_45, wl_46, wl_47, wl_48, wl_57, wl_59, wl_60, wl_61, wl_62, wl_65, wl_90, wl_97, wl_99, wl_100, wl_121, wl_122, wl_140, wl_142, wl_143, wl_145, wl_147, wl_160, wl_161, wl_162, wl_242, wl_380, wl_400, wl_420, wl_820, wl_1340, wl_5480, wl_9999, true_and, and_true, true_or, or_true, if_true, if_false, and_self, or_self, false_and, and_false, false_or, or_false, not_true_eq_false, not_false_eq_true, Int.reduceEq, Int.reduceLT, Int.reduceLE, Int.reduceToNat, Int.reduceAdd, Int.reduceMul, Int.reduceSub, Int.reduceMod, Int.reduceDiv, Int.reduceNeg, Nat.reduceEqDiff, sm_rd_ok, sm_rd_ok2, sm_wt_ok, sm_cp_ok, Option.isSome_some, Option.getD_some, w_cont, Option.toList_some, Option.toList_none, List.cons_append, List.nil_append]
    rw [b61_5, kk_1 H, rr_1_13 H]
    simp only [wr_id, wr_b2i, wr_wr, b2i_eq0, b2i_eq1, b2i_01, sm_rem_eq, sm_div_eq, wl_m2, wl_m1, wl_0, wl_1, wl_2, wl_3, wl_4, wl_5, wl_6, wl_7, wl_8, wl_9, wl_10, wl_12, wl_13, wl_14, wl_16, wl_20, wl_21, wl_22, wl_23, wl_32, wl_36, wl_40, wl_41, wl_42, wl_43, wl_44, wl_45, wl_46, wl_47, wl_48, wl_57, wl_59, wl_60, wl_61, wl_62, wl_65, wl_90, wl_97, wl_99, wl_100, wl_121, wl_122, wl_140, wl_142, wl_143, wl_145, wl_147, wl_160, wl_161, wl_162, wl_242, wl_380, wl_400, wl_420, wl_820, wl_1340, wl_5480, wl_9999, true_and, and_true, true_or, or_true, if_true, if_false, and_self, or_self, false_and, and_false, false_or, or_false, not_true_eq_false, not_false_eq_true, Int.reduceEq, Int.reduceLT, Int.reduceLE, Int.reduceToNat, Int.reduceAdd, Int.reduceMul, Int.reduceSub, Int.reduceMod, Int.reduceDiv, Int.reduceNeg, Nat.reduceEqDiff, sm_rd_ok, sm_rd_ok2, sm_wt_ok, sm_cp_ok, Option.isSome_some, Option.getD_some, w_cont, Option.toList_some, Option.toList_none, List.cons_append, List.nil_append, kk_12 H]
    rw [show ([.inr (some 12), .inl (s : Int), .inl 3] : List sm_V) = [.inr (some 12), .inl (s : Int), .inl ((3 : Nat) : Int)] from rfl, hg Z rfl 3 (by omega), w_cont, g3]
    simp only [wr_id, wr_b2i, wr_wr, b2i_eq0, b2i_eq1, b2i_01, sm_rem_eq, sm_div_eq, wl_m2, wl_m1, wl_0, wl_1, wl_2, wl_3, wl_4, wl_5, wl_6, wl_7, wl_8, wl_9, wl_10, wl_12, wl_13, wl_14, wl_16, wl_20, wl_21, wl_22, wl_23, wl_32, wl_36, wl_40, wl_41, wl_42, wl_43, wl_44, wl_45, wl_46, wl_47, wl_48, wl_57, wl_59, wl_60, wl_61, wl_62, wl_65, wl_90, wl_97, wl_99, wl_100, wl_121, wl_122, wl_140, wl_142, wl_143, wl_145, wl_147, wl_160, wl_161, wl_162, wl_242, wl_380, wl_400, wl_420, wl_820, wl_1340, wl_5480, wl_9999, true_and, and_true, true_or, or_true, if_true, if_false, and_self, or_self, false_and, and_false, false_or, or_false, not_true_eq_false, not_false_eq_true, Int.reduceEq, Int.reduceLT, Int.reduceLE, Int.reduceToNat, Int.reduceAdd, Int.reduceMul, Int.reduceSub, Int.reduceMod, Int.reduceDiv, Int.reduceNeg, Nat.reduceEqDiff, sm_rd_ok, sm_rd_ok2, sm_wt_ok, sm_cp_ok, Option.isSome_some, Option.getD_some, w_cont, Option.toList_some, Option.toList_none, List.cons_append, List.nil_append]
    rw [b61_16, kk_1 H, rr_1_13 H]
    simp only [wr_id, wr_b2i, wr_wr, b2i_eq0, b2i_eq1, b2i_01, sm_rem_eq, sm_div_eq, wl_m2, wl_m1, wl_0, wl_1, wl_2, wl_3, wl_4, wl_5, wl_6, wl_7, wl_8, wl_9, wl_10, wl_12, wl_13, wl_14, wl_16, wl_20, wl_21, wl_22, wl_23, wl_32, wl_36, wl_40, wl_41, wl_42, wl_43, wl_44, wl_45, wl_46, wl_47, wl_48, wl_57, wl_59, wl_60, wl_61, wl_62, wl_65, wl_90, wl_97, wl_99, wl_100, wl_121, wl_122, wl_140, wl_142, wl_143, wl_145, wl_147, wl_160, wl_161, wl_162, wl_242, wl_380, wl_400, wl_420, wl_820, wl_1340, wl_5480, wl_9999, true_and, and_true, true_or, or_true, if_true, if_false, and_self, or_self, false_and, and_false, false_or, or_false, not_true_eq_false, not_false_eq_true, Int.reduceEq, Int.reduceLT, Int.reduceLE, Int.reduceToNat, Int.reduceAdd, Int.reduceMul, Int.reduceSub, Int.reduceMod, Int.reduceDiv, Int.reduceNeg, Nat.reduceEqDiff, sm_rd_ok, sm_rd_ok2, sm_wt_ok, sm_cp_ok, Option.isSome_some, Option.getD_some, w_cont, Option.toList_some, Option.toList_none, List.cons_append, List.nil_append, kk_12 H]
    rw [show ([.inr (some 12), .inl (s : Int), .inl 0] : List sm_V) = [.inr (some 12), .inl (s : Int), .inl ((0 : Nat) : Int)] from rfl, hg Z rfl 0 (by omega), w_cont, show 5 * s + 0 = 5 * s from rfl, g0]
    simp only [wr_id, wr_b2i, wr_wr, b2i_eq0, b2i_eq1, b2i_01, sm_rem_eq, sm_div_eq, wl_m2, wl_m1, wl_0, wl_1, wl_2, wl_3, wl_4, wl_5, wl_6, wl_7, wl_8, wl_9, wl_10, wl_12, wl_13, wl_14, wl_16, wl_20, wl_21, wl_22, wl_23, wl_32, wl_36, wl_40, wl_41, wl_42, wl_43, wl_44, wl_45, wl_46, wl_47, wl_48, wl_57, wl_59, wl_60, wl_61, wl_62, wl_65, wl_90, wl_97, wl_99, wl_100, wl_121, wl_122, wl_140, wl_142, wl_143, wl_145, wl_147, wl_160, wl_161, wl_162, wl_242, wl_380, wl_400, wl_420, wl_820, wl_1340, wl_5480, wl_9999, true_and, and_true, true_or, or_true, if_true, if_false, and_self, or_self, false_and, and_false, false_or, or_false, not_true_eq_false, not_false_eq_true, Int.reduceEq, Int.reduceLT, Int.reduceLE, Int.reduceToNat, Int.reduceAdd, Int.reduceMul, Int.reduceSub, Int.reduceMod, Int.reduceDiv, Int.reduceNeg, Nat.reduceEqDiff, sm_rd_ok, sm_rd_ok2, sm_wt_ok, sm_cp_ok, Option.isSome_some, Option.getD_some, w_cont, Option.toList_some, Option.toList_none, List.cons_append, List.nil_append]
    rw [b61_28, kk_51 H, kk_1 H, rr_1_13 H]
    simp only [wr_id, wr_b2i, wr_wr, b2i_eq0, b2i_eq1, b2i_01, sm_rem_eq, sm_div_eq, wl_m2, wl_m1, wl_0, wl_1, wl_2, wl_3, wl_4, wl_5, wl_6, wl_7, wl_8, wl_9, wl_10, wl_12, wl_13, wl_14, wl_16, wl_20, wl_21, wl_22, wl_23, wl_32, wl_36, wl_40, wl_41, wl_42, wl_43, wl_44, wl_45, wl_46, wl_47, wl_48, wl_57, wl_59, wl_60, wl_61, wl_62, wl_65, wl_90, wl_97, wl_99, wl_100, wl_121, wl_122, wl_140, wl_142, wl_143, wl_145, wl_147, wl_160, wl_161, wl_162, wl_242, wl_380, wl_400, wl_420, wl_820, wl_1340, wl_5480, wl_9999, true_and, and_true, true_or, or_true, if_true, if_false, and_self, or_self, false_and, and_false, false_or, or_false, not_true_eq_false, not_false_eq_true, Int.reduceEq, Int.reduceLT, Int.reduceLE, Int.reduceToNat, Int.reduceAdd, Int.reduceMul, Int.reduceSub, Int.reduceMod, Int.reduceDiv, Int.reduceNeg, Nat.reduceEqDiff, sm_rd_ok, sm_rd_ok2, sm_wt_ok, sm_cp_ok, Option.isSome_some, Option.getD_some, w_cont, Option.toList_some, Option.toList_none, List.cons_append, List.nil_append, kk_12 H]
    rw [show ([.inr (some 12), .inl (s : Int), .inl 1] : List sm_V) = [.inr (some 12), .inl (s : Int), .inl ((1 : Nat) : Int)] from rfl, hg _ (sm_u_row (by decide)) 1 (by omega), w_cont, sm_u_ne (by decide), g1]
    simp only [wr_id, wr_b2i, wr_wr, b2i_eq0, b2i_eq1, b2i_01, sm_rem_eq, sm_div_eq, wl_m2, wl_m1, wl_0, wl_1, wl_2, wl_3, wl_4, wl_5, wl_6, wl_7, wl_8, wl_9, wl_10, wl_12, wl_13, wl_14, wl_16, wl_20, wl_21, wl_22, wl_23, wl_32, wl_36, wl_40, wl_41, wl_42, wl_43, wl_44, wl_45, wl_46, wl_47, wl_48, wl_57, wl_59, wl_60, wl_61, wl_62, wl_65, wl_90, wl_97, wl_99, wl_100, wl_121, wl_122, wl_140, wl_142, wl_143, wl_145, wl_147, wl_160, wl_161, wl_162, wl_242, wl_380, wl_400, wl_420, wl_820, wl_1340, wl_5480, wl_9999, true_and, and_true, true_or, or_true, if_true, if_false, and_self, or_self, false_and, and_false, false_or, or_false, not_true_eq_false, not_false_eq_true, Int.reduceEq, Int.reduceLT, Int.reduceLE, Int.reduceToNat, Int.reduceAdd, Int.reduceMul, Int.reduceSub, Int.reduceMod, Int.reduceDiv, Int.reduceNeg, Nat.reduceEqDiff, sm_rd_ok, sm_rd_ok2, sm_wt_ok, sm_cp_ok, Option.isSome_some, Option.getD_some, w_cont, Option.toList_some, Option.toList_none, List.cons_append, List.nil_append]
    rw [b61_41, kk_51 H, kk_1 H, rr_1_13 H]
    simp only [wr_id, wr_b2i, wr_wr, b2i_eq0, b2i_eq1, b2i_01, sm_rem_eq, sm_div_eq, wl_m2, wl_m1, wl_0, wl_1, wl_2, wl_3, wl_4, wl_5, wl_6, wl_7, wl_8, wl_9, wl_10, wl_12, wl_13, wl_14, wl_16, wl_20, wl_21, wl_22, wl_23, wl_32, wl_36, wl_40, wl_41, wl_42, wl_43, wl_44, wl_45, wl_46, wl_47, wl_48, wl_57, wl_59, wl_60, wl_61, wl_62, wl_65, wl_90, wl_97, wl_99, wl_100, wl_121, wl_122, wl_140, wl_142, wl_143, wl_145, wl_147, wl_160, wl_161, wl_162, wl_242, wl_380, wl_400, wl_420, wl_820, wl_1340, wl_5480, wl_9999, true_and, and_true, true_or, or_true, if_true, if_false, and_self, or_self, false_and, and_false, false_or, or_false, not_true_eq_false, not_false_eq_true, Int.reduceEq, Int.reduceLT, Int.reduceLE, Int.reduceToNat, Int.reduceAdd, Int.reduceMul, Int.reduceSub, Int.reduceMod, Int.reduceDiv, Int.reduceNeg, Nat.reduceEqDiff, sm_rd_ok, sm_rd_ok2, sm_wt_ok, sm_cp_ok, Option.isSome_some, Option.getD_some, w_cont, Option.toList_some, Option.toList_none, List.cons_append, List.nil_append, kk_12 H]
    rw [show ([.inr (some 12), .inl (s : Int), .inl 2] : List sm_V) = [.inr (some 12), .inl (s : Int), .inl ((2 : Nat) : Int)] from rfl, hg _ (by rw [sm_u_row (by decide), sm_u_row (by decide)]) 2 (by omega), w_cont, sm_u_ne (by decide), sm_u_ne (by decide), g2]
    simp only [wr_id, wr_b2i, wr_wr, b2i_eq0, b2i_eq1, b2i_01, sm_rem_eq, sm_div_eq, wl_m2, wl_m1, wl_0, wl_1, wl_2, wl_3, wl_4, wl_5, wl_6, wl_7, wl_8, wl_9, wl_10, wl_12, wl_13, wl_14, wl_16, wl_20, wl_21, wl_22, wl_23, wl_32, wl_36, wl_40, wl_41, wl_42, wl_43, wl_44, wl_45, wl_46, wl_47, wl_48, wl_57, wl_59, wl_60, wl_61, wl_62, wl_65, wl_90, wl_97, wl_99, wl_100, wl_121, wl_122, wl_140, wl_142, wl_143, wl_145, wl_147, wl_160, wl_161, wl_162, wl_242, wl_380, wl_400, wl_420, wl_820, wl_1340, wl_5480, wl_9999, true_and, and_true, true_or, or_true, if_true, if_false, and_self, or_self, false_and, and_false, false_or, or_false, not_true_eq_false, not_false_eq_true, Int.reduceEq, Int.reduceLT, Int.reduceLE, Int.reduceToNat, Int.reduceAdd, Int.reduceMul, Int.reduceSub, Int.reduceMod, Int.reduceDiv, Int.reduceNeg, Nat.reduceEqDiff, sm_rd_ok, sm_rd_ok2, sm_wt_ok, sm_cp_ok, Option.isSome_some, Option.getD_some, w_cont, Option.toList_some, Option.toList_none, List.cons_append, List.nil_append]
    have h2a : sm_and (M (1857 + 5 * s)) 3 = M (1857 + 5 * s) := by rw [and_3, wr_id (by omega) (by omega)]; omega
    rw [b61_54, kk_51 H]
    simp only [wr_id, wr_b2i, wr_wr, b2i_eq0, b2i_eq1, b2i_01, sm_rem_eq, sm_div_eq, wl_m2, wl_m1, wl_0, wl_1, wl_2, wl_3, wl_4, wl_5, wl_6, wl_7, wl_8, wl_9, wl_10, wl_12, wl_13, wl_14, wl_16, wl_20, wl_21, wl_22, wl_23, wl_32, wl_36, wl_40, wl_41, wl_42, wl_43, wl_44, wl_45, wl_46, wl_47, wl_48, wl_57, wl_59, wl_60, wl_61, wl_62, wl_65, wl_90, wl_97, wl_99, wl_100, wl_121, wl_122, wl_140, wl_142, wl_143, wl_145, wl_147, wl_160, wl_161, wl_162, wl_242, wl_380, wl_400, wl_420, wl_820, wl_1340, wl_5480, wl_9999, true_and, and_true, true_or, or_true, if_true, if_false, and_self, or_self, false_and, and_false, false_or, or_false, not_true_eq_false, not_false_eq_true, Int.reduceEq, Int.reduceLT, Int.reduceLE, Int.reduceToNat, Int.reduceAdd, Int.reduceMul, Int.reduceSub, Int.reduceMod, Int.reduceDiv, Int.reduceNeg, Nat.reduceEqDiff, sm_rd_ok, sm_rd_ok2, sm_wt_ok, sm_cp_ok, Option.isSome_some, Option.getD_some, w_cont, Option.toList_some, Option.toList_none, List.cons_append, List.nil_append, h2a]
    refine (w6 Q).trans ?_
    rw [b61_278, kk_51 H, rr_51_2 H, w2, w3, w4]
    simp only [wr_id, wr_b2i, wr_wr, b2i_eq0, b2i_eq1, b2i_01, sm_rem_eq, sm_div_eq, wl_m2, wl_m1, wl_0, wl_1, wl_2, wl_3, wl_4, wl_5, wl_6, wl_7, wl_8, wl_9, wl_10, wl_12, wl_13, wl_14, wl_16, wl_20, wl_21, wl_22, wl_23, wl_32, wl_36, wl_40, wl_41, wl_42, wl_43, wl_44, wl_45, wl_46, wl_47, wl_48, wl_57, wl_59, wl_60, wl_61, wl_62, wl_65, wl_90, wl_97, wl_99, wl_100, wl_121, wl_122, wl_140, wl_142, wl_143, wl_145, wl_147, wl_160, wl_161, wl_162, wl_242, wl_380, wl_400, wl_420, wl_820, wl_1340, wl_5480, wl_9999, true_and, and_true, true_or, or_true, if_true, if_false, and_self, or_self, false_and, and_false, false_or, or_false, not_true_eq_false, not_false_eq_true, Int.reduceEq, Int.reduceLT, Int.reduceLE, Int.reduceToNat, Int.reduceAdd, Int.reduceMul, Int.reduceSub, Int.reduceMod, Int.reduceDiv, Int.reduceNeg, Nat.reduceEqDiff, sm_rd_ok, sm_rd_ok2, sm_wt_ok, sm_cp_ok, Option.isSome_some, Option.getD_some, w_cont, Option.toList_some, Option.toList_none, List.cons_append, List.nil_append, kk_59 H]
    rw [c_add (len := 40) hK59 (rr_59_1 H) (by decide) (kk_60 H) (by rw [e592, hx.2.2.2.2.2.2]; omega) (by rw [e592, hx.2.2.2.2.2.2, h59]; omega), e592, if_neg (by rw [hx.2.2.2.2.2.2, h59]; omega), w_cont]
    simp only [wr_id, wr_b2i, wr_wr, b2i_eq0, b2i_eq1, b2i_01, sm_rem_eq, sm_div_eq, wl_m2, wl_m1, wl_0, wl_1, wl_2, wl_3, wl_4, wl_5, wl_6, wl_7, wl_8, wl_9, wl_10, wl_12, wl_13, wl_14, wl_16, wl_20, wl_21, wl_22, wl_23, wl_32, wl_36, wl_40, wl_41, wl_42, wl_43, wl_44, wl_45, wl_46, wl_47, wl_48, wl_57, wl_59, wl_60, wl_61, wl_62, wl_65, wl_90, wl_97, wl_99, wl_100, wl_121, wl_122, wl_140, wl_142, wl_143, wl_145, wl_147, wl_160, wl_161, wl_162, wl_242, wl_380, wl_400, wl_420, wl_820, wl_1340, wl_5480, wl_9999, true_and, and_true, true_or, or_true, if_true, if_false, and_self, or_self, false_and, and_false, false_or, or_false, not_true_eq_false, not_false_eq_true, Int.reduceEq, Int.reduceLT, Int.reduceLE, Int.reduceToNat, Int.reduceAdd, Int.reduceMul, Int.reduceSub, Int.reduceMod, Int.reduceDiv, Int.reduceNeg, Nat.reduceEqDiff, sm_rd_ok, sm_rd_ok2, sm_wt_ok, sm_cp_ok, Option.isSome_some, Option.getD_some, w_cont, Option.toList_some, Option.toList_none, List.cons_append, List.nil_append]
    rw [b61_300]
theorem c_flyAll_loop (H : sm_sh Rf K) (hT : shT Rf K t th) : ∀ (c s : Nat) (M : Nat → Int) (Z : Nat → Nat → Int), ((s + c : Nat) : Int) = M 4 → invF M → swS M → rFx Z Rf K M → rSi Z M → rTh Z M t th → sm_zs Z → Z 59 2 = (s : Int) → ∃ Z', rTh Z' (alR th c s M) t th ∧ Z' 59 0 = 8 ∧ Z' 59 2 = M 4 ∧ (∀ u, (u < s → ∀ j, j < 5 → Z' 60 (5 * u + j) = Z 60 (5 * u + j)) ∧ (s ≤ u → u < s + c → Z' 60 (5 * u) = (enR th u c s M).2.1 ∧ Z' 60 (5 * u + 1) = (enR th u c s M).2.2.1 ∧ Z' 60 (5 * u + 2) = (enR th u c s M).2.2.2.2 ∧ Z' 60 (5 * u + 3) = (enR th u c s M).2.2.2.1)) ∧ frE Z Z' t ∧ ∀ Q, sm_wp (d + 4) 60 14 [some (.inr (some 51)), some (.inr (some 1)), some (.inr (some t)), some (.inl (s : Int))] [] (Z, Rf, K, n, z) Q = Q none (Z', Rf, K, n, z) := by
  have ht : t = 21 ∨ t = 64 := by rcases hT.1 with h | h <;> omega
  intro c
  induction c with
  | zero =>
    intro s M Z hsc hi hw hx hsi hr hz h59
    have h8 := hw.1
    refine ⟨Z, hr, hx.2.2.2.2.2.2, by omega, fun u => ⟨fun _ _ _ => rfl, fun _ _ => by omega⟩, fun a _ _ _ _ _ _ _ _ _ => rfl, fun Q => ?_⟩
    rw [b60_14, kk_1 H, rr_1_13 H]
    simp (disch := omega) only [wr_id, wr_b2i, wr_wr, b2i_eq0, b2i_eq1, b2i_01, sm_rem_eq, sm_div_eq, wl_m2, wl_m1, wl_0, wl_1, wl_2, wl_3, wl_4, wl_5, wl_6, wl_7, wl_8, wl_9, wl_10, wl_12, wl_13, wl_14, wl_16, wl_20, wl_21, wl_22, wl_23, wl_32, wl_36, wl_40, wl_41, wl_42, wl_43, wl_44, wl_45, wl_46, wl_47, wl_48, wl_57, wl_59, wl_60, wl_61, wl_62, wl_65, wl_90, wl_97, wl_99, wl_100, wl_121, wl_122, wl_140, wl_142, wl_143, wl_145, wl_147, wl_160, wl_161, wl_162, wl_242, wl_380, wl_400, wl_420, wl_820, wl_1340, wl_5480, wl_9999, true_and, and_true, true_or, or_true, if_true, if_false, and_self, or_self, false_and, and_false, false_or, or_false, not_true_eq_false, not_false_eq_true, Int.reduceEq, Int.reduceLT, Int.reduceLE, Int.reduceToNat, Int.reduceAdd, Int.reduceMul, Int.reduceSub, Int.reduceMod, Int.reduceDiv, Int.reduceNeg, Nat.reduceEqDiff, sm_rd_ok, sm_rd_ok2, sm_wt_ok, sm_cp_ok, Option.isSome_some, Option.getD_some, w_cont, Option.toList_some, Option.toList_none, List.cons_append, List.nil_append, kk_12 H, hx.2.2.2.1]
    rw [if_pos (by omega), b60_38]
  | succ c ih =>
    intro s M Z hsc hi hw hx hsi hr hz h59
    have h8 := hw.1
    obtain ⟨Z1, g1, ⟨e1, e2, e3, e4, e5, e6, e7, e8⟩, g3⟩ := c_fly (d := d) (n := n) (z := z) H hT hi hw hx hsi hr hz (s := s) (by omega) h59
    obtain ⟨hi1, ag1⟩ := flO_inv (th := th) (s := s) hi hw (by omega)
    have h4 := ag1 4 (by omega) (by omega) (by omega)
    have fr := fun (a : Nat) (h : a = 1 ∨ a = 4 ∨ a = 9 ∨ a = 12 ∨ a = 13 ∨ a = 19 ∨ a = 20 ∨ a = 53 ∨ a = 54 ∨ 97 ≤ a) => e8 a (by omega) (by omega) (by omega) (by omega) (by omega) (by omega) (by omega) (by omega) (by omega)
    have hx59 := hx.2.2.2.2.2.2
    obtain ⟨Z2, f1, f2, f3, f4, f5, f6⟩ := ih (s + 1) _ Z1 (by rw [h4]; omega) hi1 (swS_ag ag1 hw) (rFx_ag ag1 (fun a ha => fr a (by omega)) (by rw [e1, hx59]) hx) (rSi_ag ag1 hi.1 (fr 53 (by omega)) (fr 54 (by omega)) hsi) g1 (zs_fr hz (fun a ha => fr a (by omega))) (by rw [e2]; omega)
    refine ⟨Z2, f1, f2, by rw [f3, h4], ?_, fun a b1 b2 b3 b4 b5 b6 b7 b8 b9 => by rw [f5 a b1 b2 b3 b4 b5 b6 b7 b8 b9, e8 a b1 b2 b3 b4 b5 b6 b7 b8 b9], fun Q => ?_⟩
    · intro u
      constructor
      · intro hu j hj
        rw [(f4 u).1 (by omega) j hj, e3 _ (by omega)]
      · intro hu1 hu2
        simp only [enR]
        by_cases hus : s = u
        · rw [if_pos hus]
          subst hus
          have p := (f4 s).1 (by omega)
          refine ⟨?_, ?_, ?_, ?_⟩
          · rw [← e4]; exact p 0 (by omega)
          · rw [← e5]; exact p 1 (by omega)
          · rw [← e6]; exact p 2 (by omega)
          · rw [← e7]; exact p 3 (by omega)
        · rw [if_neg hus]
          exact (f4 u).2 (by omega) (by omega)
    · rw [b60_14, kk_1 H, rr_1_13 H]
      simp (disch := omega) only [wr_id, wr_b2i, wr_wr, b2i_eq0, b2i_eq1, b2i_01, sm_rem_eq, sm_div_eq, wl_m2, wl_m1, wl_0, wl_1, wl_2, wl_3, wl_4, wl_5, wl_6, wl_7, wl_8, wl_9, wl_10, wl_12, wl_13, wl_14, wl_16, wl_20, wl_21, wl_22, wl_23, wl_32, wl_36, wl_40, wl_41, wl_42, wl_43, wl_44, wl_45, wl_46, wl_47, wl_48, wl_57, wl_59, wl_60, wl_61, wl_62, wl_65, wl_90, wl_97, wl_99, wl_100, wl_121, wl_122, wl_140, wl_142, wl_143, wl_145, wl_147, wl_160, wl_161, wl_162, wl_242, wl_380, wl_400, wl_420, wl_820, wl_1340, wl_5480, wl_9999, true_and, and_true, true_or, or_true, if_true, if_false, and_self, or_self, false_and, and_false, false_or, or_false, not_true_eq_false, not_false_eq_true, Int.reduceEq, Int.reduceLT, Int.reduceLE, Int.reduceToNat, Int.reduceAdd, Int.reduceMul, Int.reduceSub, Int.reduceMod, Int.reduceDiv, Int.reduceNeg, Nat.reduceEqDiff, sm_rd_ok, sm_rd_ok2, sm_wt_ok, sm_cp_ok, Option.isSome_some, Option.getD_some, w_cont, Option.toList_some, Option.toList_none, List.cons_append, List.nil_append, kk_12 H, hx.2.2.2.1]
      rw [if_neg (by omega), b60_25, kk_51 H, g3, w_cont]
      simp only [wr_id, wr_b2i, wr_wr, b2i_eq0, b2i_eq1, b2i_01, sm_rem_eq, sm_div_eq, wl_m2, wl_m1, wl_0, wl_1, wl_2, wl_3, wl_4, wl_5, wl_6, wl_7, wl_8, wl_9, wl_10, wl_12, wl_13, wl_14, wl_16, wl_20, wl_21, wl_22, wl_23, wl_32, wl_36, wl_40, wl_41, wl_42, wl_43, wl_44, wl_45, wl_46, wl_47, wl_48, wl_57, wl_59, wl_60, wl_61, wl_62, wl_65, wl_90, wl_97, wl_99, wl_100, wl_121, wl_122, wl_140, wl_142, wl_143, wl_145, wl_147, wl_160, wl_161, wl_162, wl_242, wl_380, wl_400, wl_420, wl_820, wl_1340, wl_5480, wl_9999, true_and, and_true, true_or, or_true, if_true, if_false, and_self, or_self, false_and, and_false, false_or, or_false, not_true_eq_false, not_false_eq_true, Int.reduceEq, Int.reduceLT, Int.reduceLE, Int.reduceToNat, Int.reduceAdd, Int.reduceMul, Int.reduceSub, Int.reduceMod, Int.reduceDiv, Int.reduceNeg, Nat.reduceEqDiff, sm_rd_ok, sm_rd_ok2, sm_wt_ok, sm_cp_ok, Option.isSome_some, Option.getD_some, w_cont, Option.toList_some, Option.toList_none, List.cons_append, List.nil_append]
      rw [b60_32, show (s : Int) + 1 = ((s + 1 : Nat) : Int) by omega, f6]
theorem c_flyAll (H : sm_sh Rf K) (hT : shT Rf K t th) {M : Nat → Int} {Z : Nat → Nat → Int} (hi : invF M) (hw : swS M) (hx : rFx Z Rf K M) (hsi : rSi Z M) (hz : sm_zs Z) (hm : Z (t + 3) 0 = if th = true then 0 else 99) : ∃ Z', rTh Z' (allS th M) t th ∧ Z' 59 0 = 8 ∧ Z' 59 2 = M 4 ∧ (∀ u : Nat, (u : Int) < M 4 → Z' 60 (5 * u) = (endS th u M).2.1 ∧ Z' 60 (5 * u + 1) = (endS th u M).2.2.1 ∧ Z' 60 (5 * u + 2) = (endS th u M).2.2.2.2 ∧ Z' 60 (5 * u + 3) = (endS th u M).2.2.2.1) ∧ frE Z Z' t ∧ ∀ Q, sm_call (d + 4) 60 [.inr (some 51), .inr (some 1), .inr (some t)] (Z, Rf, K, n, z) Q = Q none (Z', Rf, K, n, z) := by
  have ht : t = 21 ∨ t = 64 := by rcases hT.1 with h | h <;> omega
  have hT' := hT
  obtain ⟨htt, k0, q0, q1, q2, k1, k2, k3, q3, k4⟩ := hT'
  have h8 := hw.1
  have h4 : clrS M 4 = M 4 := agT_clr M 4 (by omega) (by omega) (by omega)
  let Z1 := sm_u (sm_u (sm_fr (sm_fr Z (t + 1) 0 242 (-1)) (t + 2) 0 242 (-1)) (t + 3) 2 0) 59 2 0
  have r1 : ∀ a, a ≠ 59 → a ≠ t + 1 → a ≠ t + 2 → a ≠ t + 3 → Z1 a = Z a := fun a b1 b2 b3 b4 => by
    funext j
    show sm_u (sm_u (sm_fr (sm_fr Z (t + 1) 0 242 (-1)) (t + 2) 0 242 (-1)) (t + 3) 2 0) 59 2 0 a j = _
    rw [sm_u_ne b1, sm_u_ne b4, sm_fr_ne b3, sm_fr_ne b2]
  have e590 : Z1 59 0 = Z 59 0 := by
    show sm_u (sm_u (sm_fr (sm_fr Z (t + 1) 0 242 (-1)) (t + 2) 0 242 (-1)) (t + 3) 2 0) 59 2 0 59 0 = _
    rw [sm_u_eq, if_neg (by decide), sm_u_ne (by omega), sm_fr_ne (by omega), sm_fr_ne (by omega)]
  have hr1 : rTh Z1 (clrS M) t th := by
    refine ⟨fun k hk => ?_, fun k hk => ?_, ?_⟩
    · show sm_u (sm_u (sm_fr (sm_fr Z (t + 1) 0 242 (-1)) (t + 2) 0 242 (-1)) (t + 3) 2 0) 59 2 0 (t + 1) k = _
      rw [sm_u_ne (by omega), sm_u_ne (by omega), sm_fr_ne (by omega)]
      unfold sm_fr clrS
      rw [if_pos ⟨rfl, by omega, hk⟩, if_neg (by omega), if_pos (by omega)]
    · show sm_u (sm_u (sm_fr (sm_fr Z (t + 1) 0 242 (-1)) (t + 2) 0 242 (-1)) (t + 3) 2 0) 59 2 0 (t + 2) k = _
      rw [sm_u_ne (by omega), sm_u_ne (by omega)]
      unfold sm_fr clrS
      rw [if_pos ⟨rfl, by omega, hk⟩, if_neg (by omega), if_pos (by omega)]
    · have e30 : Z1 (t + 3) 0 = Z (t + 3) 0 := by
        show sm_u (sm_u (sm_fr (sm_fr Z (t + 1) 0 242 (-1)) (t + 2) 0 242 (-1)) (t + 3) 2 0) 59 2 0 (t + 3) 0 = _
        rw [sm_u_ne (by omega), sm_u_eq, if_neg (by decide), sm_fr_ne (by omega), sm_fr_ne (by omega)]
      have e32 : Z1 (t + 3) 2 = 0 := by
        show sm_u (sm_u (sm_fr (sm_fr Z (t + 1) 0 242 (-1)) (t + 2) 0 242 (-1)) (t + 3) 2 0) 59 2 0 (t + 3) 2 = _
        rw [sm_u_ne (by omega), sm_u_self]
      rcases htt with ⟨_, hth⟩ | ⟨_, hth⟩
      · subst hth
        have c6 : clrS M 6 = 0 := by unfold clrS; rw [if_pos rfl]
        refine Or.inr ⟨rfl, by rw [e30, hm]; rfl, by rw [e32, c6], fun i hi => ?_⟩
        rw [c6] at hi
        omega
      · subst hth
        exact Or.inl ⟨rfl, by rw [e30, hm]; rfl, e32⟩
  obtain ⟨Z2, f1, f2, f3, f4, f5, f6⟩ := c_flyAll_loop (d := d) (n := n) (z := z) H hT (M 4).toNat 0 (clrS M) Z1 (by rw [h4]; omega) (invF_clr hi) (swS_ag (agT_clr M) hw) (rFx_ag (agT_clr M) (fun a ha => r1 a (by omega) (by omega) (by omega) (by omega)) e590 hx) (rSi_ag (agT_clr M) hi.1 (r1 53 (by decide) (by omega) (by omega) (by omega)) (r1 54 (by decide) (by omega) (by omega) (by omega)) hsi) hr1 (zs_fr hz (fun a ha => r1 a (by omega) (by omega) (by omega) (by omega))) rfl
  refine ⟨Z2, f1, f2, by rw [f3, h4], fun u hu => (f4 u).2 (by omega) (by omega), fun a b1 b2 b3 b4 b5 b6 b7 b8 b9 => by rw [f5 a b1 b2 b3 b4 b5 b6 b7 b8 b9, r1 a b2 b6 b7 b8], fun Q => ?_⟩
  rw [ce60, b60_0, k0, c_clear k0 q0 q1 q2 k1 k2 k3, w_cont]
  simp only [wr_id, wr_b2i, wr_wr, b2i_eq0, b2i_eq1, b2i_01, sm_rem_eq, sm_div_eq, wl_m2, wl_m1, wl_0, wl_1, wl_2, wl_3, wl_4, wl_5, wl_6, wl_7, wl_8, wl_9, wl_10, wl_12, wl_13, wl_14, wl_16, wl_20, wl_21, wl_22, wl_23, wl_32, wl_36, wl_40, wl_41, wl_42, wl_43, wl_44, wl_45, wl_46, wl_47, wl_48, wl_57, wl_59, wl_60, wl_61, wl_62, wl_65, wl_90, wl_97, wl_99, wl_100, wl_121, wl_122, wl_140, wl_142, wl_143, wl_145, wl_147, wl_160, wl_161, wl_162, wl_242, wl_380, wl_400, wl_420, wl_820, wl_1340, wl_5480, wl_9999, true_and, and_true, true_or, or_true, if_true, if_false, and_self, or_self, false_and, and_false, false_or, or_false, not_true_eq_false, not_false_eq_true, Int.reduceEq, Int.reduceLT, Int.reduceLE, Int.reduceToNat, Int.reduceAdd, Int.reduceMul, Int.reduceSub, Int.reduceMod, Int.reduceDiv, Int.reduceNeg, Nat.reduceEqDiff, sm_rd_ok, sm_rd_ok2, sm_wt_ok, sm_cp_ok, Option.isSome_some, Option.getD_some, w_cont, Option.toList_some, Option.toList_none, List.cons_append, List.nil_append]
  rw [b60_4, kk_51 H, rr_51_2 H]
  simp only [wr_id, wr_b2i, wr_wr, b2i_eq0, b2i_eq1, b2i_01, sm_rem_eq, sm_div_eq, wl_m2, wl_m1, wl_0, wl_1, wl_2, wl_3, wl_4, wl_5, wl_6, wl_7, wl_8, wl_9, wl_10, wl_12, wl_13, wl_14, wl_16, wl_20, wl_21, wl_22, wl_23, wl_32, wl_36, wl_40, wl_41, wl_42, wl_43, wl_44, wl_45, wl_46, wl_47, wl_48, wl_57, wl_59, wl_60, wl_61, wl_62, wl_65, wl_90, wl_97, wl_99, wl_100, wl_121, wl_122, wl_140, wl_142, wl_143, wl_145, wl_147, wl_160, wl_161, wl_162, wl_242, wl_380, wl_400, wl_420, wl_820, wl_1340, wl_5480, wl_9999, true_and, and_true, true_or, or_true, if_true, if_false, and_self, or_self, false_and, and_false, false_or, or_false, not_true_eq_false, not_false_eq_true, Int.reduceEq, Int.reduceLT, Int.reduceLE, Int.reduceToNat, Int.reduceAdd, Int.reduceMul, Int.reduceSub, Int.reduceMod, Int.reduceDiv, Int.reduceNeg, Nat.reduceEqDiff, sm_rd_ok, sm_rd_ok2, sm_wt_ok, sm_cp_ok, Option.isSome_some, Option.getD_some, w_cont, Option.toList_some, Option.toList_none, List.cons_append, List.nil_append, kk_59 H]
  exact f6 Q
end CFLY4
