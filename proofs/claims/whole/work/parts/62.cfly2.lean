/-- the habits of the class's duchy (row h) as the model's -/
def rHb (Z : Nat → Nat → Int) (Rf : Nat → Nat → Option Nat) (K : Nat → Nat × Nat) (M : Nat → Int) (h : Nat) : Prop := ∀ k, k < 4 → ∃ a q L P, Rf h k = some a ∧ K a = (2, 2) ∧ Rf a 1 = some q ∧ (a = 19 ∨ (97 ≤ a ∧ a < 1000000)) ∧ (q = 20 ∨ (97 ≤ q ∧ q < 1000000)) ∧ wfL M k L P ∧ K q = (100, P L + L) ∧ cdH (Z q) M k L P ∧ Z a 0 = (L : Int)
/-- what flights only read -/
def rFx (Z : Nat → Nat → Int) (Rf : Nat → Nat → Option Nat) (K : Nat → Nat × Nat) (M : Nat → Int) : Prop := (Z 1 0 = M 0 ∧ Z 1 1 = M 1) ∧ (∀ c, c < 100 → Z 4 c = M (320 + c)) ∧ (∀ k, k < 121 → Z 9 k = M (720 + k)) ∧ Z 12 2 = M 4 ∧ (∀ s : Nat, (s : Int) < M 4 → ∀ c, c < 5 → Z 13 (5 * s + c) = M (1855 + 5 * s + c)) ∧ rHb Z Rf K M 18 ∧ Z 59 0 = 8
def frC (Z Z' : Nat → Nat → Int) (t : Nat) : Prop := ∀ a, a ≠ 51 → a ≠ 61 → a ≠ 62 → a ≠ t + 1 → a ≠ t + 2 → a ≠ t + 3 → a ≠ t + 4 → Z' a = Z a
theorem cdH_ag {C : Nat → Int} {M M' : Nat → Int} (h : agT M M') {k L : Nat} (hk : k < 4) {P : Nat → Nat} (hl : L ≤ 16) (hc : cdH C M k L P) : cdH C M' k L P := by
  have e : ∀ j, 1840 ≤ j → M' j = M j := fun j hj => h j (by omega) (by omega) (by omega)
  have eA : hbA M' k = hbA M k := by
    funext i
    unfold hbA
    rw [e _ (by omega)]
  have eB : hbB M' k = hbB M k := by
    funext i
    unfold hbB
    rw [e _ (by omega)]
  intro i hi
  rw [eA, eB, e _ (by omega)]
  exact hc i hi
theorem rHb_ag {Z Z' : Nat → Nat → Int} {Rf : Nat → Nat → Option Nat} {K : Nat → Nat × Nat} {M M' : Nat → Int} {h : Nat} (hM : agT M M') (hz : ∀ a, a = 19 ∨ a = 20 ∨ (97 ≤ a ∧ a < 1000000) → Z' a = Z a) (hr : rHb Z Rf K M h) : rHb Z' Rf K M' h := by
  intro k hk
  obtain ⟨a, q, L, P, h1, h2, h3, h4, h5, h6, h7, h8, h9⟩ := hr k hk
  refine ⟨a, q, L, P, h1, h2, h3, h4, h5, wfL_ag hM hk h6, h7, ?_, ?_⟩
  · rw [hz q (by omega)]
    exact cdH_ag hM hk h6.2.1 h8
  · rw [hz a (by omega)]
    exact h9
theorem rFx_ag {Z Z' : Nat → Nat → Int} {Rf : Nat → Nat → Option Nat} {K : Nat → Nat × Nat} {M M' : Nat → Int} (hM : agT M M') (hz : ∀ a, a = 1 ∨ a = 4 ∨ a = 9 ∨ a = 12 ∨ a = 13 ∨ a = 19 ∨ a = 20 ∨ (97 ≤ a ∧ a < 1000000) → Z' a = Z a) (h59 : Z' 59 0 = Z 59 0) (hr : rFx Z Rf K M) : rFx Z' Rf K M' := by
  obtain ⟨h1, h2, h3, h4, h5, h6, h7⟩ := hr
  have e : ∀ j, j ≠ 6 → j < 850 → M' j = M j := fun j hj hj2 => hM j (by omega) hj (by omega)
  have e2 : ∀ j, 1840 ≤ j → M' j = M j := fun j hj => hM j (by omega) (by omega) (by omega)
  refine ⟨?_, fun c hc => ?_, fun k hk => ?_, ?_, fun s hs c hc => ?_, rHb_ag hM (fun a ha => hz a (by omega)) h6, by rw [h59]; exact h7⟩
  · rw [hz 1 (by omega), e 0 (by decide) (by decide), e 1 (by decide) (by decide)]; exact h1
  · rw [hz 4 (by omega), e _ (by omega) (by omega)]; exact h2 c hc
  · rw [hz 9 (by omega), e _ (by omega) (by omega)]; exact h3 k hk
  · rw [hz 12 (by omega), e 4 (by decide) (by decide)]; exact h4
  · rw [e 4 (by decide) (by decide)] at hs
    rw [hz 13 (by omega), e2 _ (by omega)]; exact h5 s hs c hc
theorem rSi_ag {Z Z' : Nat → Nat → Int} {M M' : Nat → Int} (hM : agT M M') (hs : szN M) (h53 : Z' 53 = Z 53) (h54 : Z' 54 = Z 54) (hr : rSi Z M) : rSi Z' M' := by
  unfold szN at hs
  have e : ∀ j, j ≠ 6 → j < 850 → M' j = M j := fun j hj hj2 => hM j (by omega) hj (by omega)
  have e0 := e 0 (by decide) (by decide)
  have e1 := e 1 (by decide) (by decide)
  have ep : ∀ x y, pondS M' x y = pondS M x y := by
    intro x y
    unfold pondS
    rw [e0, e1]
    split
    · rw [e _ (by omega) (by omega)]
    · rfl
  intro x y hq
  rw [e0, e1] at hq
  have h := hr x y hq
  rw [h53, h54, ep]
  refine ⟨?_, h.2⟩
  rw [h.1]
  unfold seenS
  rw [e0, e1, if_pos hq, if_pos hq, ep, ep, ep, ep, ep, e _ (by omega) (by omega)]
theorem zs_fr {Z Z' : Nat → Nat → Int} (hz : sm_zs Z) (h : ∀ a, 1000000 ≤ a → Z' a = Z a) : sm_zs Z' := ⟨fun i k h1 h2 => by rw [h _ (by omega)]; exact hz.1 i k h1 h2, fun i k h1 h2 => by rw [h _ (by omega)]; exact hz.2 i k h1 h2⟩
theorem hdA_hdM {M : Nat → Int} {x y h tn : Int} (hh : 0 ≤ h ∧ h ≤ 3) (ht : 0 ≤ tn ∧ tn ≤ 3) (hm : M (720 + 11 * y + x).toNat = 0 ∨ M (720 + 11 * y + x).toNat = 1) (m : Bool) (hmm : b2i m = M (720 + 11 * y + x).toNat) : hdA h (cW tn) m = hdM M x y h tn := by
  have hc : tn = 0 ∨ tn = 1 ∨ tn = 2 ∨ tn = 3 := by omega
  unfold hdM
  rw [← hmm]
  cases m
  · rcases hc with rfl | rfl | rfl | rfl <;> simp [hdA, cW, b2i] <;> omega
  · rcases hc with rfl | rfl | rfl | rfl <;> simp [hdA, cW, b2i] <;> omega
section CFLY2
variable {d n z : Nat} {Rf : Nat → Nat → Option Nat} {K : Nat → Nat × Nat} {M : Nat → Int} {Z : Nat → Nat → Int} {Q : Option sm_V → sm_S → Prop} {t : Nat} {th : Bool}
theorem c_getSw (H : sm_sh Rf K) {s : Nat} {N : Int} (hN : 0 ≤ N ∧ N ≤ 8) (h4 : Z 12 2 = N) (hs : (s : Int) < N) (c : Nat) (hc : c < 5) : sm_call d 54 [.inr (some 12), .inl (s : Int), .inl (c : Int)] (Z, Rf, K, n, z) Q = Q (some (.inl (Z 13 (5 * s + c)))) (Z, Rf, K, n, z) := by
  rw [c_get (q := 13) (len := 40) (by rw [kk_12 H]) (rr_12_1 H) (kk_13 H) (by omega) (by omega) (by omega)]
  unfold rGet
  rw [if_pos (by omega), show ((s : Int) * 5 + (c : Int)).toNat = 5 * s + c by omega]
theorem c_habitAt (H : sm_sh Rf K) {k a : Nat} {x : Int} (hx : x = (k : Int)) (hk : k < 4) (ha : Rf 18 k = some a) : sm_call d 208 [.inr (some 1), .inl x] (Z, Rf, K, n, z) Q = Q (some (.inr (some a))) (Z, Rf, K, n, z) := by
  subst hx
  rw [ce208, b208_0, wr_id (by omega) (by omega), if_neg (by omega), b208_4, wr_id (by omega) (by omega), if_neg (by omega), b208_9, kk_1 H, rr_1_16 H]
  simp (disch := omega) only [wr_id, wr_b2i, wr_wr, b2i_eq0, b2i_eq1, b2i_01, sm_rem_eq, sm_div_eq, wl_m2, wl_m1, wl_0, wl_1, wl_2, wl_3, wl_4, wl_5, wl_6, wl_7, wl_8, wl_9, wl_10, wl_12, wl_13, wl_14, wl_16, wl_20, wl_21, wl_22, wl_23, wl_32, wl_36, wl_40, wl_41, wl_42, wl_43, wl_44, wl_45, wl_46, wl_47, wl_48, wl_57, wl_59, wl_60, wl_61, wl_62, wl_65, wl_90, wl_97, wl_99, wl_100, wl_121, wl_122, wl_140, wl_142, wl_143, wl_145, wl_147, wl_160, wl_161, wl_162, wl_242, wl_380, wl_400, wl_420, wl_820, wl_1340, wl_5480, wl_9999, true_and, and_true, true_or, or_true, if_true, if_false, and_self, or_self, false_and, and_false, false_or, or_false, not_true_eq_false, not_false_eq_true, Int.reduceEq, Int.reduceLT, Int.reduceLE, Int.reduceToNat, Int.reduceAdd, Int.reduceMul, Int.reduceSub, Int.reduceMod, Int.reduceDiv, Int.reduceNeg, Nat.reduceEqDiff, sm_rd_ok, sm_rd_ok2, sm_wt_ok, sm_cp_ok, Option.isSome_some, Option.getD_some, w_cont, Option.toList_some, Option.toList_none, List.cons_append, List.nil_append, kk_18 H, Int.toNat_natCast, ha]
  rw [b208_19, Option.isSome_some, if_pos rfl, b208_31, b208_32, eq_true (show (k : Int) < ((4 : Nat) : Int) by omega), eq_true (show (0 : Int) ≤ (k : Int) by omega)]
  simp only [wr_id, wr_b2i, wr_wr, b2i_eq0, b2i_eq1, b2i_01, sm_rem_eq, sm_div_eq, wl_m2, wl_m1, wl_0, wl_1, wl_2, wl_3, wl_4, wl_5, wl_6, wl_7, wl_8, wl_9, wl_10, wl_12, wl_13, wl_14, wl_16, wl_20, wl_21, wl_22, wl_23, wl_32, wl_36, wl_40, wl_41, wl_42, wl_43, wl_44, wl_45, wl_46, wl_47, wl_48, wl_57, wl_59, wl_60, wl_61, wl_62, wl_65, wl_90, wl_97, wl_99, wl_100, wl_121, wl_122, wl_140, wl_142, wl_143, wl_145, wl_147, wl_160, wl_161, wl_162, wl_242, wl_380, wl_400, wl_420, wl_820, wl_1340, wl_5480, wl_9999, true_and, and_true, true_or, or_true, if_true, if_false, and_self, or_self, false_and, and_false, false_or, or_false, not_true_eq_false, not_false_eq_true, Int.reduceEq, Int.reduceLT, Int.reduceLE, Int.reduceToNat, Int.reduceAdd, Int.reduceMul, Int.reduceSub, Int.reduceMod, Int.reduceDiv, Int.reduceNeg, Nat.reduceEqDiff, sm_rd_ok, sm_rd_ok2, sm_wt_ok, sm_cp_ok, Option.isSome_some, Option.getD_some, w_cont, Option.toList_some, Option.toList_none, List.cons_append, List.nil_append]
theorem c_habitOf (H : sm_sh Rf K) {s k a : Nat} (hw : swS M) (hx : rFx Z Rf K M) (hs : (s : Int) < M 4) (hk : M (1859 + 5 * s) = (k : Int)) (ha : Rf 18 k = some a) : sm_call (d + 1) 16 [.inr (some 1), .inl (s : Int)] (Z, Rf, K, n, z) Q = Q (some (.inr (some a))) (Z, Rf, K, n, z) := by
  have h8 := hw.1
  obtain ⟨_, _, _, g4⟩ := hw.2 s hs
  have e4 : Z 13 (5 * s + 4) = (k : Int) := by rw [hx.2.2.2.2.1 s hs 4 (by omega), ← hk]; congr 1; omega
  have gg := fun (Q : Option sm_V → sm_S → Prop) => c_getSw (d := d) (n := n) (z := z) (Z := Z) (Q := Q) H h8 hx.2.2.2.1 hs 4 (by omega)
  rw [ce16, b16_0, kk_1 H, rr_1_13 H]
  simp only [wr_id, wr_b2i, wr_wr, b2i_eq0, b2i_eq1, b2i_01, sm_rem_eq, sm_div_eq, wl_m2, wl_m1, wl_0, wl_1, wl_2, wl_3, wl_4, wl_5, wl_6, wl_7, wl_8, wl_9, wl_10, wl_12, wl_13, wl_14, wl_16, wl_20, wl_21, wl_22, wl_23, wl_32, wl_36, wl_40, wl_41, wl_42, wl_43, wl_44, wl_45, wl_46, wl_47, wl_48, wl_57, wl_59, wl_60, wl_61, wl_62, wl_65, wl_90, wl_97, wl_99, wl_100, wl_121, wl_122, wl_140, wl_142, wl_143, wl_145, wl_147, wl_160, wl_161, wl_162, wl_242, wl_380, wl_400, wl_420, wl_820, wl_1340, wl_5480, wl_9999, true_and, and_true, true_or, or_true, if_true, if_false, and_self, or_self, false_and, and_false, false_or, or_false, not_true_eq_false, not_false_eq_true, Int.reduceEq, Int.reduceLT, Int.reduceLE, Int.reduceToNat, Int.reduceAdd, Int.reduceMul, Int.reduceSub, Int.reduceMod, Int.reduceDiv, Int.reduceNeg, Nat.reduceEqDiff, sm_rd_ok, sm_rd_ok2, sm_wt_ok, sm_cp_ok, Option.isSome_some, Option.getD_some, w_cont, Option.toList_some, Option.toList_none, List.cons_append, List.nil_append, kk_12 H]
  rw [show ([.inr (some 12), .inl (s : Int), .inl 4] : List sm_V) = [.inr (some 12), .inl (s : Int), .inl ((4 : Nat) : Int)] from rfl, gg, w_cont, e4]
  simp only [wr_id, wr_b2i, wr_wr, b2i_eq0, b2i_eq1, b2i_01, sm_rem_eq, sm_div_eq, wl_m2, wl_m1, wl_0, wl_1, wl_2, wl_3, wl_4, wl_5, wl_6, wl_7, wl_8, wl_9, wl_10, wl_12, wl_13, wl_14, wl_16, wl_20, wl_21, wl_22, wl_23, wl_32, wl_36, wl_40, wl_41, wl_42, wl_43, wl_44, wl_45, wl_46, wl_47, wl_48, wl_57, wl_59, wl_60, wl_61, wl_62, wl_65, wl_90, wl_97, wl_99, wl_100, wl_121, wl_122, wl_140, wl_142, wl_143, wl_145, wl_147, wl_160, wl_161, wl_162, wl_242, wl_380, wl_400, wl_420, wl_820, wl_1340, wl_5480, wl_9999, true_and, and_true, true_or, or_true, if_true, if_false, and_self, or_self, false_and, and_false, false_or, or_false, not_true_eq_false, not_false_eq_true, Int.reduceEq, Int.reduceLT, Int.reduceLE, Int.reduceToNat, Int.reduceAdd, Int.reduceMul, Int.reduceSub, Int.reduceMod, Int.reduceDiv, Int.reduceNeg, Nat.reduceEqDiff, sm_rd_ok, sm_rd_ok2, sm_wt_ok, sm_cp_ok, Option.isSome_some, Option.getD_some, w_cont, Option.toList_some, Option.toList_none, List.cons_append, List.nil_append]
  rw [b16_10, kk_1 H, c_habitAt H rfl (by omega) ha, w_cont]
  simp only [wr_id, wr_b2i, wr_wr, b2i_eq0, b2i_eq1, b2i_01, sm_rem_eq, sm_div_eq, wl_m2, wl_m1, wl_0, wl_1, wl_2, wl_3, wl_4, wl_5, wl_6, wl_7, wl_8, wl_9, wl_10, wl_12, wl_13, wl_14, wl_16, wl_20, wl_21, wl_22, wl_23, wl_32, wl_36, wl_40, wl_41, wl_42, wl_43, wl_44, wl_45, wl_46, wl_47, wl_48, wl_57, wl_59, wl_60, wl_61, wl_62, wl_65, wl_90, wl_97, wl_99, wl_100, wl_121, wl_122, wl_140, wl_142, wl_143, wl_145, wl_147, wl_160, wl_161, wl_162, wl_242, wl_380, wl_400, wl_420, wl_820, wl_1340, wl_5480, wl_9999, true_and, and_true, true_or, or_true, if_true, if_false, and_self, or_self, false_and, and_false, false_or, or_false, not_true_eq_false, not_false_eq_true, Int.reduceEq, Int.reduceLT, Int.reduceLE, Int.reduceToNat, Int.reduceAdd, Int.reduceMul, Int.reduceSub, Int.reduceMod, Int.reduceDiv, Int.reduceNeg, Nat.reduceEqDiff, sm_rd_ok, sm_rd_ok2, sm_wt_ok, sm_cp_ok, Option.isSome_some, Option.getD_some, w_cont, Option.toList_some, Option.toList_none, List.cons_append, List.nil_append]
  rw [b16_13]
end CFLY2
