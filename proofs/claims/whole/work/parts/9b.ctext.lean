/-! A text in the class. -/
theorem sm_rw_ne {α : Type} {f : Nat → Nat → α} {a b : Nat} {v : Nat → α} (h : b ≠ a) : sm_r f a v b = f b := by
  funext j
  show (if b = a then v j else f b j) = f b j
  rw [if_neg h]
theorem sm_rw_self {α : Type} {f : Nat → Nat → α} {a : Nat} {v : Nat → α} : sm_r f a v a = v := by
  funext j
  show (if a = a then v j else f a j) = v j
  rw [if_pos rfl]
theorem sm_k_ne {α : Type} {f : Nat → α} {a b : Nat} {v : α} (h : b ≠ a) : sm_k f a v b = f b := if_neg h
theorem sm_k_self {α : Type} {f : Nat → α} {a : Nat} {v : α} : sm_k f a v a = v := if_pos rfl
theorem sm_sh_new {Rf : Nat → Nat → Option Nat} {K : Nat → Nat × Nat} (H : sm_sh Rf K) {a : Nat} {v : Nat → Option Nat} {k : Nat × Nat} (ha : 97 ≤ a ∧ a < 1000000) : sm_sh (sm_r Rf a v) (sm_k K a k) := by
  obtain ⟨h1, h2, h3, h4, h5⟩ := H
  refine ⟨fun b hb => ?_, fun b j hb h18 h43 h19 hj hk hf => ?_, fun i hi => ?_, fun i hi => ?_, by rw [sm_k_ne (by omega)]; exact h5⟩
  · rw [sm_k_ne (by omega)]
    exact h1 b hb
  · rw [sm_rw_ne (by omega)]
    exact h2 b j hb h18 h43 h19 hj hk hf
  · rw [sm_k_ne (by omega)]
    exact h3 i hi
  · rw [sm_k_ne (by omega), sm_k_ne (by omega), sm_rw_ne (by omega)]
    exact h4 i hi
theorem sm_sh_hi {Rf : Nat → Nat → Option Nat} {K : Nat → Nat × Nat} (H : sm_sh Rf K) {a k : Nat} {v : Option Nat} (ha : 97 ≤ a ∧ a < 1000000) : sm_sh (sm_u Rf a k v) K := by
  obtain ⟨h1, h2, h3, h4, h5⟩ := H
  refine ⟨h1, fun b j hb h18 h43 h19 hj hk hf => ?_, h3, fun i hi => ?_, h5⟩
  · rw [sm_u_ne (by omega)]
    exact h2 b j hb h18 h43 h19 hj hk hf
  · rw [sm_u_ne (by omega)]
    exact h4 i hi
section CTEXT
variable {d n z : Nat} {Rf : Nat → Nat → Option Nat} {K : Nat → Nat × Nat} {T : Nat → Int} {len : Nat}
theorem c_copyOf (H : sm_sh Rf K) {Z : Nat → Nat → Int} {l : Nat} (hl : l < 400) (hn : 97 ≤ n ∧ n < 1000000) {Q : Option sm_V → sm_S → Prop} : sm_call (d + 1) 206 [.inr (some 75), .inl (l : Int)] (Z, Rf, K, n, z) Q = Q (some (.inr (some n))) (sm_cr (sm_r Z n (fun _ => 0)) 75 n 0 l, sm_r Rf n (fun _ => none), sm_k K n (100, l), n + 1, z + l) := by
  have hK : K 75 = (100, 400) := kk_75 H
  have hw : wr (l : Int) = (l : Int) := wr_id (by omega) (by omega)
  have h400 : wr (((K 75).2 : Nat) : Int) = 400 := by rw [hK]; rfl
  rw [ce206, b206_0, h400, hw, if_neg (by omega), b206_14, sm_k_ne (show (75 : Nat) ≠ n by omega), sm_k_self, h400, hw, if_pos (show (l : Int) < 400 by omega), hw, hK, Int.toNat_natCast, sm_mv_cr]
  have hcp : sm_cp (100, 400) (100, l) 0 0 (l : Int) := by
    unfold sm_cp
    simp
    omega
  simp only [hcp, wr_id, wr_b2i, wr_wr, b2i_eq0, b2i_eq1, b2i_01, sm_rem_eq, sm_div_eq, wl_m2, wl_m1, wl_0, wl_1, wl_2, wl_3, wl_4, wl_5, wl_6, wl_7, wl_8, wl_9, wl_10, wl_12, wl_13, wl_14, wl_16, wl_20, wl_21, wl_22, wl_23, wl_32, wl_36, wl_40, wl_41, wl_42, wl_43, wl_44, wl_45, wl_46, wl_47, wl_48, wl_57, wl_59, wl_60, wl_61, wl_62, wl_65, wl_90, wl_97, wl_99, wl_100, wl_121, wl_122, wl_140, wl_142, wl_143, wl_145, wl_147, wl_160, wl_161, wl_162, wl_242, wl_380, wl_400, wl_420, wl_820, wl_1340, wl_5480, wl_9999, true_and, and_true, true_or, or_true, if_true, if_false, and_self, or_self, false_and, and_false, false_or, or_false, not_true_eq_false, not_false_eq_true, Int.reduceEq, Int.reduceLT, Int.reduceLE, Int.reduceToNat, Int.reduceAdd, Int.reduceMul, Int.reduceSub, Int.reduceMod, Int.reduceDiv, Int.reduceNeg, Nat.reduceEqDiff, sm_rd_ok, sm_rd_ok2, sm_wt_ok, sm_cp_ok, Option.isSome_some, Option.getD_some, w_cont, Option.toList_some, Option.toList_none, List.cons_append, List.nil_append]
  rw [eq_iff_iff]
  constructor
  · intro h; exact h.2
  · intro h; exact ⟨⟨by omega, by omega, by omega⟩, h⟩
theorem stk_cr {Z : Nat → Nat → Int} {q : Nat} {rc : List Int} (h : stk (Z 75) rc) : stk (sm_cr Z 75 q 0 rc.length q) rc := by
  refine stk_congr (fun j hj => ?_) h
  show Z 75 j = if q = q ∧ 0 ≤ j ∧ j < rc.length then Z 75 j else Z q j
  rw [if_pos ⟨rfl, Nat.zero_le _, hj⟩]
/-- a text told to the class -/
theorem c_text (H : sm_sh Rf K) {Z : Nat → Nat → Int} (hz : sm_zs Z) (ht : tpC Z T) (hl : len ≤ 400) (h8 : Z 0 8 = (len : Int)) {k : Nat} (hk : k < 4) (hn : 97 ≤ n ∧ n + 1 < 1000000) {X : Int × Nat × rdT} (hX : X = rdE T len (len + 1) (spE isBl T len 0) ([], [], 0, 0, Z 74 8, 0, 0, Z 74 11)) (h9 : ¬ X.1 = 9) (h0 : ¬ X.1 = 0) : (¬ X.1 = -1 → ∃ Z', (∀ a, a ≠ 0 → a ≠ 74 → a ≠ 75 → a ≠ 76 → Z' a = Z a) ∧ (∀ j, ¬ j = 8 → ¬ j = 9 → ¬ j = 10 → Z' 0 j = Z 0 j) ∧ Z' 0 8 = 0 ∧ Z' 0 9 = X.1 ∧ Z' 0 10 = (X.2.1 : Int) ∧ ∀ Q, sm_call (d + 7) 95 [.inr (some 0), .inl (k : Int)] (Z, Rf, K, n, z) Q = Q (some (.inl (-1))) (Z', Rf, K, n, z)) ∧ (∀ (L : Nat) (rc : List Int) (tn rt : Int), X.1 = -1 → X.2.2 = (rc, [], 0, (L : Int), tn, 0, 0, rt) → rc.length < 400 → L ≤ 16 → ∃ Z', (∀ a, a ≠ 0 → a ≠ 74 → a ≠ 75 → a ≠ 76 → a ≠ n → a ≠ n + 1 → Z' a = Z a) ∧ (∀ j, ¬ j = 8 → ¬ j = 9 → ¬ j = 10 → Z' 0 j = Z 0 j) ∧ Z' 0 8 = 0 ∧ Z' 0 9 = 0 ∧ Z' 0 10 = -1 ∧ Z' n 0 = (L : Int) ∧ stk (Z' (n + 1)) rc ∧ ∀ Q, sm_call (d + 7) 95 [.inr (some 0), .inl (k : Int)] (Z, Rf, K, n, z) Q = Q (some (.inl (L : Int))) (Z', sm_u (sm_u (sm_r (sm_r Rf n (fun _ => none)) (n + 1) (fun _ => none)) n 1 (some (n + 1))) 18 k (some n), sm_k (sm_k K n (2, 2)) (n + 1) (100, rc.length), n + 2, z + 2 + rc.length)) := by
  obtain ⟨Z1, hZ1⟩ : ∃ Z1, Z1 = sm_u (sm_u (sm_u Z 0 8 0) 0 9 0) 0 10 (-1) := ⟨_, rfl⟩
  have e1 : ∀ a, a ≠ 0 → Z1 a = Z a := fun a ha => by rw [hZ1, sm_u_row ha, sm_u_row ha, sm_u_row ha]
  have e10 : ∀ j, Z1 0 j = if j = 10 then -1 else if j = 9 then 0 else if j = 8 then 0 else Z 0 j := fun j => by rw [hZ1, sm_u_eq, sm_u_eq, sm_u_eq]
  obtain ⟨Z2, hZ2⟩ : ∃ Z2, Z2 = sm_u (sm_u (sm_u (sm_u (sm_u (sm_u (sm_u (sm_u Z1 74 3 0) 74 5 0) 74 6 0) 74 7 0) 74 9 0) 74 10 0) 74 14 0) 74 0 0 := ⟨_, rfl⟩
  have e2 : ∀ a, a ≠ 74 → Z2 a = Z1 a := fun a ha => by rw [hZ2, sm_u_row ha, sm_u_row ha, sm_u_row ha, sm_u_row ha, sm_u_row ha, sm_u_row ha, sm_u_row ha, sm_u_row ha]
  have e74 : ∀ j, Z2 74 j = if j = 0 then 0 else if j = 14 then 0 else if j = 10 then 0 else if j = 9 then 0 else if j = 7 then 0 else if j = 6 then 0 else if j = 5 then 0 else if j = 3 then 0 else Z 74 j := fun j => by rw [hZ2, sm_u_eq, sm_u_eq, sm_u_eq, sm_u_eq, sm_u_eq, sm_u_eq, sm_u_eq, sm_u_eq, e1 74 (by decide)]
  have hz2 : sm_zs Z2 := zs_fr hz (fun a ha => by rw [e2 a (by omega), e1 a (by omega)])
  have ht2 : tpC Z2 T := ⟨fun j hj => by rw [e2 77 (by decide), e1 77 (by decide)]; exact ht.1 j hj, ht.2⟩
  have hr2 : rRd Z2 ([], [], 0, 0, Z 74 8, 0, 0, Z 74 11) := ⟨⟨by rw [e74]; rfl, trivial⟩, ⟨by rw [e74]; rfl, trivial⟩, by rw [e74]; rfl, by rw [e74]; rfl, by rw [e74]; rfl, by rw [e74]; rfl, by rw [e74]; rfl, by rw [e74]; rfl⟩
  have hw2 : wfR (50 * ((0 : Nat) : Int)) ([], [], 0, 0, Z 74 8, 0, 0, Z 74 11) := ⟨fun k hk => absurd hk (by simp), by decide, by decide, fun g => absurd rfl g, by decide, by decide, fun g => by omega⟩
  obtain ⟨Z3, l4, a1, a2, a3⟩ := c_read_loop (d := d) (n := n) (z := z) H hl (some (.inl (len : Int))) (len + 1) 0 0 (spE isBl T len 0) ([], [], 0, 0, Z 74 8, 0, 0, Z 74 11) Z2 (by omega) (Nat.zero_le _) rfl (by rw [e74]; rfl) (by rw [e74]; rfl) hz2 ht2 hr2 hw2 (by rw [← hX]; exact h9) (by rw [← hX]; exact h0)
  rw [← hX] at a2 a3
  have run : ∀ Q, sm_call (d + 7) 95 [.inr (some 0), .inl (k : Int)] (Z, Rf, K, n, z) Q = sm_wp (d + 6) 30 14 [some (.inr (some 74)), some (.inr (some 77)), some (.inl (len : Int)), some (.inl (len : Int)), some (.inl ((0 : Nat) : Int))] [] (Z2, Rf, K, n, z) (sm_cont (d + 7) 95 43 [some (.inr (some 0)), some (.inl (k : Int)), some (.inl (len : Int)), none] [] Q) := by
    intro Q
    rw [ce95, b95_0, kk_0 H, h8]
    simp only [wr_id, wr_b2i, wr_wr, b2i_eq0, b2i_eq1, b2i_01, sm_rem_eq, sm_div_eq, wl_m2, wl_m1, wl_0, wl_1, wl_2, wl_3, wl_4, wl_5, wl_6, wl_7, wl_8, wl_9, wl_10, wl_12, wl_13, wl_14, wl_16, wl_20, wl_21, wl_22, wl_23, wl_32, wl_36, wl_40, wl_41, wl_42, wl_43, wl_44, wl_45, wl_46, wl_47, wl_48, wl_57, wl_59, wl_60, wl_61, wl_62, wl_65, wl_90, wl_97, wl_99, wl_100, wl_121, wl_122, wl_140, wl_142, wl_143, wl_145, wl_147, wl_160, wl_161, wl_162, wl_242, wl_380, wl_400, wl_420, wl_820, wl_1340, wl_5480, wl_9999, true_and, and_true, true_or, or_true, if_true, if_false, and_self, or_self, false_and, and_false, false_or, or_false, not_true_eq_false, not_false_eq_true, Int.reduceEq, Int.reduceLT, Int.reduceLE, Int.reduceToNat, Int.reduceAdd, Int.reduceMul, Int.reduceSub, Int.reduceMod, Int.reduceDiv, Int.reduceNeg, Nat.reduceEqDiff, sm_rd_ok, sm_rd_ok2, sm_wt_ok, sm_cp_ok, Option.isSome_some, Option.getD_some, w_cont, Option.toList_some, Option.toList_none, List.cons_append, List.nil_append]
    rw [c_within (by omega) (by omega) (by omega), w_cont]
    simp only [wr_id, wr_b2i, wr_wr, b2i_eq0, b2i_eq1, b2i_01, sm_rem_eq, sm_div_eq, wl_m2, wl_m1, wl_0, wl_1, wl_2, wl_3, wl_4, wl_5, wl_6, wl_7, wl_8, wl_9, wl_10, wl_12, wl_13, wl_14, wl_16, wl_20, wl_21, wl_22, wl_23, wl_32, wl_36, wl_40, wl_41, wl_42, wl_43, wl_44, wl_45, wl_46, wl_47, wl_48, wl_57, wl_59, wl_60, wl_61, wl_62, wl_65, wl_90, wl_97, wl_99, wl_100, wl_121, wl_122, wl_140, wl_142, wl_143, wl_145, wl_147, wl_160, wl_161, wl_162, wl_242, wl_380, wl_400, wl_420, wl_820, wl_1340, wl_5480, wl_9999, true_and, and_true, true_or, or_true, if_true, if_false, and_self, or_self, false_and, and_false, false_or, or_false, not_true_eq_false, not_false_eq_true, Int.reduceEq, Int.reduceLT, Int.reduceLE, Int.reduceToNat, Int.reduceAdd, Int.reduceMul, Int.reduceSub, Int.reduceMod, Int.reduceDiv, Int.reduceNeg, Nat.reduceEqDiff, sm_rd_ok, sm_rd_ok2, sm_wt_ok, sm_cp_ok, Option.isSome_some, Option.getD_some, w_cont, Option.toList_some, Option.toList_none, List.cons_append, List.nil_append]
    rw [b95_26, isInB, decide_eq_true (show (0 : Int) ≤ (k : Int) ∧ (k : Int) ≤ 3 by omega), if_neg (by decide), ← hZ1, b95_31, kk_0 H, rr_0_6 H, rr_0_7 H]
    simp only [wr_id, wr_b2i, wr_wr, b2i_eq0, b2i_eq1, b2i_01, sm_rem_eq, sm_div_eq, wl_m2, wl_m1, wl_0, wl_1, wl_2, wl_3, wl_4, wl_5, wl_6, wl_7, wl_8, wl_9, wl_10, wl_12, wl_13, wl_14, wl_16, wl_20, wl_21, wl_22, wl_23, wl_32, wl_36, wl_40, wl_41, wl_42, wl_43, wl_44, wl_45, wl_46, wl_47, wl_48, wl_57, wl_59, wl_60, wl_61, wl_62, wl_65, wl_90, wl_97, wl_99, wl_100, wl_121, wl_122, wl_140, wl_142, wl_143, wl_145, wl_147, wl_160, wl_161, wl_162, wl_242, wl_380, wl_400, wl_420, wl_820, wl_1340, wl_5480, wl_9999, true_and, and_true, true_or, or_true, if_true, if_false, and_self, or_self, false_and, and_false, false_or, or_false, not_true_eq_false, not_false_eq_true, Int.reduceEq, Int.reduceLT, Int.reduceLE, Int.reduceToNat, Int.reduceAdd, Int.reduceMul, Int.reduceSub, Int.reduceMod, Int.reduceDiv, Int.reduceNeg, Nat.reduceEqDiff, sm_rd_ok, sm_rd_ok2, sm_wt_ok, sm_cp_ok, Option.isSome_some, Option.getD_some, w_cont, Option.toList_some, Option.toList_none, List.cons_append, List.nil_append, kk_74 H]
    rw [ce30, b30_0, kk_74 H]
    simp only [wr_id, wr_b2i, wr_wr, b2i_eq0, b2i_eq1, b2i_01, sm_rem_eq, sm_div_eq, wl_m2, wl_m1, wl_0, wl_1, wl_2, wl_3, wl_4, wl_5, wl_6, wl_7, wl_8, wl_9, wl_10, wl_12, wl_13, wl_14, wl_16, wl_20, wl_21, wl_22, wl_23, wl_32, wl_36, wl_40, wl_41, wl_42, wl_43, wl_44, wl_45, wl_46, wl_47, wl_48, wl_57, wl_59, wl_60, wl_61, wl_62, wl_65, wl_90, wl_97, wl_99, wl_100, wl_121, wl_122, wl_140, wl_142, wl_143, wl_145, wl_147, wl_160, wl_161, wl_162, wl_242, wl_380, wl_400, wl_420, wl_820, wl_1340, wl_5480, wl_9999, true_and, and_true, true_or, or_true, if_true, if_false, and_self, or_self, false_and, and_false, false_or, or_false, not_true_eq_false, not_false_eq_true, Int.reduceEq, Int.reduceLT, Int.reduceLE, Int.reduceToNat, Int.reduceAdd, Int.reduceMul, Int.reduceSub, Int.reduceMod, Int.reduceDiv, Int.reduceNeg, Nat.reduceEqDiff, sm_rd_ok, sm_rd_ok2, sm_wt_ok, sm_cp_ok, Option.isSome_some, Option.getD_some, w_cont, Option.toList_some, Option.toList_none, List.cons_append, List.nil_append]
    rw [ce31, b31_0, kk_74 H]
    simp only [wr_id, wr_b2i, wr_wr, b2i_eq0, b2i_eq1, b2i_01, sm_rem_eq, sm_div_eq, wl_m2, wl_m1, wl_0, wl_1, wl_2, wl_3, wl_4, wl_5, wl_6, wl_7, wl_8, wl_9, wl_10, wl_12, wl_13, wl_14, wl_16, wl_20, wl_21, wl_22, wl_23, wl_32, wl_36, wl_40, wl_41, wl_42, wl_43, wl_44, wl_45, wl_46, wl_47, wl_48, wl_57, wl_59, wl_60, wl_61, wl_62, wl_65, wl_90, wl_97, wl_99, wl_100, wl_121, wl_122, wl_140, wl_142, wl_143, wl_145, wl_147, wl_160, wl_161, wl_162, wl_242, wl_380, wl_400, wl_420, wl_820, wl_1340, wl_5480, wl_9999, true_and, and_true, true_or, or_true, if_true, if_false, and_self, or_self, false_and, and_false, false_or, or_false, not_true_eq_false, not_false_eq_true, Int.reduceEq, Int.reduceLT, Int.reduceLE, Int.reduceToNat, Int.reduceAdd, Int.reduceMul, Int.reduceSub, Int.reduceMod, Int.reduceDiv, Int.reduceNeg, Nat.reduceEqDiff, sm_rd_ok, sm_rd_ok2, sm_wt_ok, sm_cp_ok, Option.isSome_some, Option.getD_some, w_cont, Option.toList_some, Option.toList_none, List.cons_append, List.nil_append]
    rw [← hZ2]
    rw [b30_4, kk_77 H]
    simp only [wr_id, wr_b2i, wr_wr, b2i_eq0, b2i_eq1, b2i_01, sm_rem_eq, sm_div_eq, wl_m2, wl_m1, wl_0, wl_1, wl_2, wl_3, wl_4, wl_5, wl_6, wl_7, wl_8, wl_9, wl_10, wl_12, wl_13, wl_14, wl_16, wl_20, wl_21, wl_22, wl_23, wl_32, wl_36, wl_40, wl_41, wl_42, wl_43, wl_44, wl_45, wl_46, wl_47, wl_48, wl_57, wl_59, wl_60, wl_61, wl_62, wl_65, wl_90, wl_97, wl_99, wl_100, wl_121, wl_122, wl_140, wl_142, wl_143, wl_145, wl_147, wl_160, wl_161, wl_162, wl_242, wl_380, wl_400, wl_420, wl_820, wl_1340, wl_5480, wl_9999, true_and, and_true, true_or, or_true, if_true, if_false, and_self, or_self, false_and, and_false, false_or, or_false, not_true_eq_false, not_false_eq_true, Int.reduceEq, Int.reduceLT, Int.reduceLE, Int.reduceToNat, Int.reduceAdd, Int.reduceMul, Int.reduceSub, Int.reduceMod, Int.reduceDiv, Int.reduceNeg, Nat.reduceEqDiff, sm_rd_ok, sm_rd_ok2, sm_wt_ok, sm_cp_ok, Option.isSome_some, Option.getD_some, w_cont, Option.toList_some, Option.toList_none, List.cons_append, List.nil_append]
    rw [show (if wr ((400 : Nat) : Int) < wr (len : Int) then ((400 : Nat) : Int) else (len : Int)) = (len : Int) by
      rw [wr_id (by omega) (by omega), wr_id (by omega) (by omega), if_neg (by omega)]]
    rfl
  refine ⟨fun hm => ?_, fun L rc tn rt hm hc hrc hL => ?_⟩
  · obtain ⟨b1, b2, b3⟩ := a3 hm
    refine ⟨sm_u (sm_u Z3 0 9 X.1) 0 10 (X.2.1 : Int), fun a q1 q2 q3 q4 => ?_, fun j q1 q2 q3 => ?_, ?_, ?_, ?_, fun Q => ?_⟩
    · rw [sm_u_row q1, sm_u_row q1, a1 a q2 q3 q4, e2 a q2, e1 a q1]
    · rw [sm_u_eq, if_neg q3, sm_u_eq, if_neg q2, a1 0 (by decide) (by decide) (by decide), e2 0 (by decide), e10, if_neg q3, if_neg q2, if_neg q1]
    · rw [sm_u_eq, if_neg (by decide), sm_u_eq, if_neg (by decide), a1 0 (by decide) (by decide) (by decide), e2 0 (by decide), e10]
      rfl
    · rw [sm_u_eq, if_neg (by decide), sm_u_self]
    · rw [sm_u_self]
    · rw [run]
      refine (b3 _).trans ?_
      rw [w_cont]
      simp only [wr_id, wr_b2i, wr_wr, b2i_eq0, b2i_eq1, b2i_01, sm_rem_eq, sm_div_eq, wl_m2, wl_m1, wl_0, wl_1, wl_2, wl_3, wl_4, wl_5, wl_6, wl_7, wl_8, wl_9, wl_10, wl_12, wl_13, wl_14, wl_16, wl_20, wl_21, wl_22, wl_23, wl_32, wl_36, wl_40, wl_41, wl_42, wl_43, wl_44, wl_45, wl_46, wl_47, wl_48, wl_57, wl_59, wl_60, wl_61, wl_62, wl_65, wl_90, wl_97, wl_99, wl_100, wl_121, wl_122, wl_140, wl_142, wl_143, wl_145, wl_147, wl_160, wl_161, wl_162, wl_242, wl_380, wl_400, wl_420, wl_820, wl_1340, wl_5480, wl_9999, true_and, and_true, true_or, or_true, if_true, if_false, and_self, or_self, false_and, and_false, false_or, or_false, not_true_eq_false, not_false_eq_true, Int.reduceEq, Int.reduceLT, Int.reduceLE, Int.reduceToNat, Int.reduceAdd, Int.reduceMul, Int.reduceSub, Int.reduceMod, Int.reduceDiv, Int.reduceNeg, Nat.reduceEqDiff, sm_rd_ok, sm_rd_ok2, sm_wt_ok, sm_cp_ok, Option.isSome_some, Option.getD_some, w_cont, Option.toList_some, Option.toList_none, List.cons_append, List.nil_append]
      rw [b95_43, if_neg (by decide), b95_48, kk_0 H, rr_0_6 H]
      simp only [wr_id, wr_b2i, wr_wr, b2i_eq0, b2i_eq1, b2i_01, sm_rem_eq, sm_div_eq, wl_m2, wl_m1, wl_0, wl_1, wl_2, wl_3, wl_4, wl_5, wl_6, wl_7, wl_8, wl_9, wl_10, wl_12, wl_13, wl_14, wl_16, wl_20, wl_21, wl_22, wl_23, wl_32, wl_36, wl_40, wl_41, wl_42, wl_43, wl_44, wl_45, wl_46, wl_47, wl_48, wl_57, wl_59, wl_60, wl_61, wl_62, wl_65, wl_90, wl_97, wl_99, wl_100, wl_121, wl_122, wl_140, wl_142, wl_143, wl_145, wl_147, wl_160, wl_161, wl_162, wl_242, wl_380, wl_400, wl_420, wl_820, wl_1340, wl_5480, wl_9999, true_and, and_true, true_or, or_true, if_true, if_false, and_self, or_self, false_and, and_false, false_or, or_false, not_true_eq_false, not_false_eq_true, Int.reduceEq, Int.reduceLT, Int.reduceLE, Int.reduceToNat, Int.reduceAdd, Int.reduceMul, Int.reduceSub, Int.reduceMod, Int.reduceDiv, Int.reduceNeg, Nat.reduceEqDiff, sm_rd_ok, sm_rd_ok2, sm_wt_ok, sm_cp_ok, Option.isSome_some, Option.getD_some, w_cont, Option.toList_some, Option.toList_none, List.cons_append, List.nil_append, kk_74 H]
      rw [sm_u_row (show (74 : Nat) ≠ 0 by decide), b1, b2]
  · obtain ⟨b1, b3⟩ := a2 hm
    rw [hc] at b1
    obtain ⟨⟨r1, r2⟩, _, _, r3, _⟩ := b1
    obtain ⟨Z4, hZ4⟩ : ∃ Z4, Z4 = sm_r Z3 n (fun _ => 0) := ⟨_, rfl⟩
    have g4 : ∀ a, a ≠ n → Z4 a = Z3 a := fun a ha => by rw [hZ4, sm_rw_ne ha]
    have H4 : sm_sh (sm_r Rf n (fun _ => none)) (sm_k K n (2, 2)) := sm_sh_new H (by omega)
    obtain ⟨Z5, hZ5⟩ : ∃ Z5, Z5 = sm_cr (sm_r Z4 (n + 1) (fun _ => 0)) 75 (n + 1) 0 rc.length := ⟨_, rfl⟩
    have g5 : ∀ a, a ≠ n + 1 → Z5 a = Z4 a := fun a ha => by
      funext j
      rw [hZ5, sm_cr_ne ha, sm_rw_ne ha]
    have k75 : stk (Z5 (n + 1)) rc := by
      rw [hZ5]
      exact stk_cr (by rw [sm_rw_ne (by omega), g4 75 (by omega)]; exact r2)
    have z3 : ∀ a, a ≠ 0 → a ≠ 74 → a ≠ 75 → a ≠ 76 → Z3 a = Z a := fun a q1 q2 q3 q4 => by rw [a1 a q2 q3 q4, e2 a q2, e1 a q1]
    have z30 : ∀ j, Z3 0 j = if j = 10 then -1 else if j = 9 then 0 else if j = 8 then 0 else Z 0 j := fun j => by rw [a1 0 (by decide) (by decide) (by decide), e2 0 (by decide), e10]
    have z60 : ∀ j, sm_u Z5 n 0 (L : Int) 0 j = if j = 10 then -1 else if j = 9 then 0 else if j = 8 then 0 else Z 0 j := fun j => by rw [sm_u_row (by omega), g5 0 (by omega), g4 0 (by omega), z30]
    refine ⟨sm_u Z5 n 0 (L : Int), fun a q1 q2 q3 q4 q5 q6 => ?_, fun j q1 q2 q3 => ?_, ?_, ?_, ?_, sm_u_self, ?_, fun Q => ?_⟩
    · rw [sm_u_row q5, g5 a q6, g4 a q5, z3 a q1 q2 q3 q4]
    · rw [z60, if_neg q3, if_neg q2, if_neg q1]
    · rw [z60]
      rfl
    · rw [z60]
      rfl
    · rw [z60]
      rfl
    · rw [sm_u_row (by omega)]
      exact k75
    · rw [run]
      refine (b3 _).trans ?_
      have h74 : sm_k K n (2, 2) 74 = (4, 15) := kk_74 H4
      have hr74 : sm_r Rf n (fun _ => none) 74 2 = some 75 := rr_74_2 H4
      rw [b30_62, ← hZ4, h74, hr74, g4 74 (by omega), r1, r3]
      simp only [wr_id, wr_b2i, wr_wr, b2i_eq0, b2i_eq1, b2i_01, sm_rem_eq, sm_div_eq, wl_m2, wl_m1, wl_0, wl_1, wl_2, wl_3, wl_4, wl_5, wl_6, wl_7, wl_8, wl_9, wl_10, wl_12, wl_13, wl_14, wl_16, wl_20, wl_21, wl_22, wl_23, wl_32, wl_36, wl_40, wl_41, wl_42, wl_43, wl_44, wl_45, wl_46, wl_47, wl_48, wl_57, wl_59, wl_60, wl_61, wl_62, wl_65, wl_90, wl_97, wl_99, wl_100, wl_121, wl_122, wl_140, wl_142, wl_143, wl_145, wl_147, wl_160, wl_161, wl_162, wl_242, wl_380, wl_400, wl_420, wl_820, wl_1340, wl_5480, wl_9999, true_and, and_true, true_or, or_true, if_true, if_false, and_self, or_self, false_and, and_false, false_or, or_false, not_true_eq_false, not_false_eq_true, Int.reduceEq, Int.reduceLT, Int.reduceLE, Int.reduceToNat, Int.reduceAdd, Int.reduceMul, Int.reduceSub, Int.reduceMod, Int.reduceDiv, Int.reduceNeg, Nat.reduceEqDiff, sm_rd_ok, sm_rd_ok2, sm_wt_ok, sm_cp_ok, Option.isSome_some, Option.getD_some, w_cont, Option.toList_some, Option.toList_none, List.cons_append, List.nil_append]
      rw [eq_true (show n < 1000000 by omega)]
      simp only [wr_id, wr_b2i, wr_wr, b2i_eq0, b2i_eq1, b2i_01, sm_rem_eq, sm_div_eq, wl_m2, wl_m1, wl_0, wl_1, wl_2, wl_3, wl_4, wl_5, wl_6, wl_7, wl_8, wl_9, wl_10, wl_12, wl_13, wl_14, wl_16, wl_20, wl_21, wl_22, wl_23, wl_32, wl_36, wl_40, wl_41, wl_42, wl_43, wl_44, wl_45, wl_46, wl_47, wl_48, wl_57, wl_59, wl_60, wl_61, wl_62, wl_65, wl_90, wl_97, wl_99, wl_100, wl_121, wl_122, wl_140, wl_142, wl_143, wl_145, wl_147, wl_160, wl_161, wl_162, wl_242, wl_380, wl_400, wl_420, wl_820, wl_1340, wl_5480, wl_9999, true_and, and_true, true_or, or_true, if_true, if_false, and_self, or_self, false_and, and_false, false_or, or_false, not_true_eq_false, not_false_eq_true, Int.reduceEq, Int.reduceLT, Int.reduceLE, Int.reduceToNat, Int.reduceAdd, Int.reduceMul, Int.reduceSub, Int.reduceMod, Int.reduceDiv, Int.reduceNeg, Nat.reduceEqDiff, sm_rd_ok, sm_rd_ok2, sm_wt_ok, sm_cp_ok, Option.isSome_some, Option.getD_some, w_cont, Option.toList_some, Option.toList_none, List.cons_append, List.nil_append]
      rw [c_copyOf H4 hrc (by omega), w_cont, ← hZ5]
      simp only [wr_id, wr_b2i, wr_wr, b2i_eq0, b2i_eq1, b2i_01, sm_rem_eq, sm_div_eq, wl_m2, wl_m1, wl_0, wl_1, wl_2, wl_3, wl_4, wl_5, wl_6, wl_7, wl_8, wl_9, wl_10, wl_12, wl_13, wl_14, wl_16, wl_20, wl_21, wl_22, wl_23, wl_32, wl_36, wl_40, wl_41, wl_42, wl_43, wl_44, wl_45, wl_46, wl_47, wl_48, wl_57, wl_59, wl_60, wl_61, wl_62, wl_65, wl_90, wl_97, wl_99, wl_100, wl_121, wl_122, wl_140, wl_142, wl_143, wl_145, wl_147, wl_160, wl_161, wl_162, wl_242, wl_380, wl_400, wl_420, wl_820, wl_1340, wl_5480, wl_9999, true_and, and_true, true_or, or_true, if_true, if_false, and_self, or_self, false_and, and_false, false_or, or_false, not_true_eq_false, not_false_eq_true, Int.reduceEq, Int.reduceLT, Int.reduceLE, Int.reduceToNat, Int.reduceAdd, Int.reduceMul, Int.reduceSub, Int.reduceMod, Int.reduceDiv, Int.reduceNeg, Nat.reduceEqDiff, sm_rd_ok, sm_rd_ok2, sm_wt_ok, sm_cp_ok, Option.isSome_some, Option.getD_some, w_cont, Option.toList_some, Option.toList_none, List.cons_append, List.nil_append]
      rw [b30_81, sm_k_ne (show n ≠ n + 1 by omega), sm_k_self]
      simp only [wr_id, wr_b2i, wr_wr, b2i_eq0, b2i_eq1, b2i_01, sm_rem_eq, sm_div_eq, wl_m2, wl_m1, wl_0, wl_1, wl_2, wl_3, wl_4, wl_5, wl_6, wl_7, wl_8, wl_9, wl_10, wl_12, wl_13, wl_14, wl_16, wl_20, wl_21, wl_22, wl_23, wl_32, wl_36, wl_40, wl_41, wl_42, wl_43, wl_44, wl_45, wl_46, wl_47, wl_48, wl_57, wl_59, wl_60, wl_61, wl_62, wl_65, wl_90, wl_97, wl_99, wl_100, wl_121, wl_122, wl_140, wl_142, wl_143, wl_145, wl_147, wl_160, wl_161, wl_162, wl_242, wl_380, wl_400, wl_420, wl_820, wl_1340, wl_5480, wl_9999, true_and, and_true, true_or, or_true, if_true, if_false, and_self, or_self, false_and, and_false, false_or, or_false, not_true_eq_false, not_false_eq_true, Int.reduceEq, Int.reduceLT, Int.reduceLE, Int.reduceToNat, Int.reduceAdd, Int.reduceMul, Int.reduceSub, Int.reduceMod, Int.reduceDiv, Int.reduceNeg, Nat.reduceEqDiff, sm_rd_ok, sm_rd_ok2, sm_wt_ok, sm_cp_ok, Option.isSome_some, Option.getD_some, w_cont, Option.toList_some, Option.toList_none, List.cons_append, List.nil_append]
      rw [ce21, b21_0, sm_k_ne (show n ≠ n + 1 by omega), sm_k_self]
      simp only [wr_id, wr_b2i, wr_wr, b2i_eq0, b2i_eq1, b2i_01, sm_rem_eq, sm_div_eq, wl_m2, wl_m1, wl_0, wl_1, wl_2, wl_3, wl_4, wl_5, wl_6, wl_7, wl_8, wl_9, wl_10, wl_12, wl_13, wl_14, wl_16, wl_20, wl_21, wl_22, wl_23, wl_32, wl_36, wl_40, wl_41, wl_42, wl_43, wl_44, wl_45, wl_46, wl_47, wl_48, wl_57, wl_59, wl_60, wl_61, wl_62, wl_65, wl_90, wl_97, wl_99, wl_100, wl_121, wl_122, wl_140, wl_142, wl_143, wl_145, wl_147, wl_160, wl_161, wl_162, wl_242, wl_380, wl_400, wl_420, wl_820, wl_1340, wl_5480, wl_9999, true_and, and_true, true_or, or_true, if_true, if_false, and_self, or_self, false_and, and_false, false_or, or_false, not_true_eq_false, not_false_eq_true, Int.reduceEq, Int.reduceLT, Int.reduceLE, Int.reduceToNat, Int.reduceAdd, Int.reduceMul, Int.reduceSub, Int.reduceMod, Int.reduceDiv, Int.reduceNeg, Nat.reduceEqDiff, sm_rd_ok, sm_rd_ok2, sm_wt_ok, sm_cp_ok, Option.isSome_some, Option.getD_some, w_cont, Option.toList_some, Option.toList_none, List.cons_append, List.nil_append]
      rw [b30_84, w_cont]
      simp only [wr_id, wr_b2i, wr_wr, b2i_eq0, b2i_eq1, b2i_01, sm_rem_eq, sm_div_eq, wl_m2, wl_m1, wl_0, wl_1, wl_2, wl_3, wl_4, wl_5, wl_6, wl_7, wl_8, wl_9, wl_10, wl_12, wl_13, wl_14, wl_16, wl_20, wl_21, wl_22, wl_23, wl_32, wl_36, wl_40, wl_41, wl_42, wl_43, wl_44, wl_45, wl_46, wl_47, wl_48, wl_57, wl_59, wl_60, wl_61, wl_62, wl_65, wl_90, wl_97, wl_99, wl_100, wl_121, wl_122, wl_140, wl_142, wl_143, wl_145, wl_147, wl_160, wl_161, wl_162, wl_242, wl_380, wl_400, wl_420, wl_820, wl_1340, wl_5480, wl_9999, true_and, and_true, true_or, or_true, if_true, if_false, and_self, or_self, false_and, and_false, false_or, or_false, not_true_eq_false, not_false_eq_true, Int.reduceEq, Int.reduceLT, Int.reduceLE, Int.reduceToNat, Int.reduceAdd, Int.reduceMul, Int.reduceSub, Int.reduceMod, Int.reduceDiv, Int.reduceNeg, Nat.reduceEqDiff, sm_rd_ok, sm_rd_ok2, sm_wt_ok, sm_cp_ok, Option.isSome_some, Option.getD_some, w_cont, Option.toList_some, Option.toList_none, List.cons_append, List.nil_append]
      have H5 : sm_sh (sm_u (sm_r (sm_r Rf n (fun _ => none)) (n + 1) (fun _ => none)) n 1 (some (n + 1))) (sm_k (sm_k K n (2, 2)) (n + 1) (100, rc.length)) := sm_sh_hi (sm_sh_new H4 (by omega)) (by omega)
      rw [b95_43, Option.isSome_some, if_pos rfl, b95_72, kk_0 H5, rr_0_0 H5]
      simp only [wr_id, wr_b2i, wr_wr, b2i_eq0, b2i_eq1, b2i_01, sm_rem_eq, sm_div_eq, wl_m2, wl_m1, wl_0, wl_1, wl_2, wl_3, wl_4, wl_5, wl_6, wl_7, wl_8, wl_9, wl_10, wl_12, wl_13, wl_14, wl_16, wl_20, wl_21, wl_22, wl_23, wl_32, wl_36, wl_40, wl_41, wl_42, wl_43, wl_44, wl_45, wl_46, wl_47, wl_48, wl_57, wl_59, wl_60, wl_61, wl_62, wl_65, wl_90, wl_97, wl_99, wl_100, wl_121, wl_122, wl_140, wl_142, wl_143, wl_145, wl_147, wl_160, wl_161, wl_162, wl_242, wl_380, wl_400, wl_420, wl_820, wl_1340, wl_5480, wl_9999, true_and, and_true, true_or, or_true, if_true, if_false, and_self, or_self, false_and, and_false, false_or, or_false, not_true_eq_false, not_false_eq_true, Int.reduceEq, Int.reduceLT, Int.reduceLE, Int.reduceToNat, Int.reduceAdd, Int.reduceMul, Int.reduceSub, Int.reduceMod, Int.reduceDiv, Int.reduceNeg, Nat.reduceEqDiff, sm_rd_ok, sm_rd_ok2, sm_wt_ok, sm_cp_ok, Option.isSome_some, Option.getD_some, w_cont, Option.toList_some, Option.toList_none, List.cons_append, List.nil_append, kk_1 H5, rr_1_16 H5, kk_18 H5]
      rw [sm_k_ne (show n ≠ n + 1 by omega), sm_k_self, sm_u_self]
      simp (disch := omega) only [wr_id, wr_b2i, wr_wr, b2i_eq0, b2i_eq1, b2i_01, sm_rem_eq, sm_div_eq, wl_m2, wl_m1, wl_0, wl_1, wl_2, wl_3, wl_4, wl_5, wl_6, wl_7, wl_8, wl_9, wl_10, wl_12, wl_13, wl_14, wl_16, wl_20, wl_21, wl_22, wl_23, wl_32, wl_36, wl_40, wl_41, wl_42, wl_43, wl_44, wl_45, wl_46, wl_47, wl_48, wl_57, wl_59, wl_60, wl_61, wl_62, wl_65, wl_90, wl_97, wl_99, wl_100, wl_121, wl_122, wl_140, wl_142, wl_143, wl_145, wl_147, wl_160, wl_161, wl_162, wl_242, wl_380, wl_400, wl_420, wl_820, wl_1340, wl_5480, wl_9999, true_and, and_true, true_or, or_true, if_true, if_false, and_self, or_self, false_and, and_false, false_or, or_false, not_true_eq_false, not_false_eq_true, Int.reduceEq, Int.reduceLT, Int.reduceLE, Int.reduceToNat, Int.reduceAdd, Int.reduceMul, Int.reduceSub, Int.reduceMod, Int.reduceDiv, Int.reduceNeg, Nat.reduceEqDiff, sm_rd_ok, sm_rd_ok2, sm_wt_ok, sm_cp_ok, Option.isSome_some, Option.getD_some, w_cont, Option.toList_some, Option.toList_none, List.cons_append, List.nil_append, Int.toNat_natCast]
      rw [eq_true (show (0 : Int) ≤ (k : Int) ∧ (k : Int) < ((4 : Nat) : Int) by omega), true_and]
end CTEXT
