section PART
variable {d n z : Nat} {Rf : Nat → Nat → Option Nat} {K : Nat → Nat × Nat} {Z : Nat → Nat → Int} {Q : Option sm_V → sm_S → Prop} {w h : Int} {T F : Nat → Int}
/-- what a search needs of the class -/
def pcP (Z : Nat → Nat → Int) (w h : Int) (T F : Nat → Int) : Prop := sm_zs Z ∧ (Z 1 0 = w ∧ Z 1 1 = h) ∧ (∀ k, k < 242 → Z 22 k = T k ∧ -1 ≤ T k ∧ T k ≤ 7) ∧ ∀ k, k < 400 → Z 71 k = F k ∧ F k ≤ 1 ∧ -1000 ≤ F k
theorem pcP_fr {Z Z' : Nat → Nat → Int} (hf : ∀ a, a ≠ 72 → a ≠ 73 → Z' a = Z a) (hp : pcP Z w h T F) : pcP Z' w h T F := by
  obtain ⟨h1, h2, h3, h4⟩ := hp
  refine ⟨zs_fr h1 (fun a ha => hf a (by omega) (by omega)), by rw [hf 1 (by decide) (by decide)]; exact h2, fun k hk => by rw [hf 22 (by decide) (by decide)]; exact h3 k hk, fun k hk => by rw [hf 71 (by decide) (by decide)]; exact h4 k hk⟩
theorem c_nextFree (H : sm_sh Rf K) (hp : pcP Z w h T F) (hs : (2 ≤ w ∧ w ≤ 10) ∧ 2 ≤ h ∧ h ≤ 10) {c s : Int} (hc : isC w h c = true) (hk : 0 ≤ s ∧ s ≤ 3) : sm_call (d + 2) 27 [.inr (some 70), .inr (some 1), .inl c, .inl s] (Z, Rf, K, n, z) Q = Q (some (.inl (if opn w h T c s = true ∧ F (4 * c + s).toNat ≤ 0 then nxC w h c s else -1))) (Z, Rf, K, n, z) := by
  obtain ⟨hz, hw, ht, hF⟩ := hp
  have hb := isC_bd hc
  have hcc := hc
  simp only [isC, decide_eq_true_eq] at hcc
  have hszC : szC Z := by unfold szC; rw [hw.1, hw.2]; exact hs
  have hland : 0 ≤ c % 10 ∧ c % 10 < w ∧ 0 ≤ c / 10 ∧ c / 10 < h := by omega
  have hy := ybR_bd (s := s) hs.1.2 hs.2.2 hland
  have hdx := dXY_bd s
  have hT := ht (ybR (c % 10) (c / 10) s).toNat (by omega)
  have hFk := hF (4 * c + s).toNat (by omega)
  have ezd := zDX hz hk
  have hnb := nxC_bd hs.1.2 hs.2.2 c s
  rw [ce27, b27_0, kk_1 H]
  simp (disch := omega) only [wr_id, wr_b2i, wr_wr, b2i_eq0, b2i_eq1, b2i_01, sm_rem_eq, sm_div_eq, wl_m2, wl_m1, wl_0, wl_1, wl_2, wl_3, wl_4, wl_5, wl_6, wl_7, wl_8, wl_9, wl_10, wl_12, wl_13, wl_14, wl_16, wl_20, wl_21, wl_22, wl_23, wl_32, wl_36, wl_40, wl_41, wl_42, wl_43, wl_44, wl_45, wl_46, wl_47, wl_48, wl_57, wl_59, wl_60, wl_61, wl_62, wl_65, wl_90, wl_97, wl_99, wl_100, wl_121, wl_122, wl_140, wl_142, wl_143, wl_145, wl_147, wl_160, wl_161, wl_162, wl_242, wl_380, wl_400, wl_420, wl_820, wl_1340, wl_5480, wl_9999, true_and, and_true, true_or, or_true, if_true, if_false, and_self, or_self, false_and, and_false, false_or, or_false, not_true_eq_false, not_false_eq_true, Int.reduceEq, Int.reduceLT, Int.reduceLE, Int.reduceToNat, Int.reduceAdd, Int.reduceMul, Int.reduceSub, Int.reduceMod, Int.reduceDiv, Int.reduceNeg, Nat.reduceEqDiff, sm_rd_ok, sm_rd_ok2, sm_wt_ok, sm_cp_ok, Option.isSome_some, Option.getD_some, w_cont, Option.toList_some, Option.toList_none, List.cons_append, List.nil_append]
  rw [c_yardBeside H hz hszC (by omega) (by omega) hk, w_cont, hw.1, hw.2, yB_ybR hland]
  simp only [wr_id, wr_b2i, wr_wr, b2i_eq0, b2i_eq1, b2i_01, sm_rem_eq, sm_div_eq, wl_m2, wl_m1, wl_0, wl_1, wl_2, wl_3, wl_4, wl_5, wl_6, wl_7, wl_8, wl_9, wl_10, wl_12, wl_13, wl_14, wl_16, wl_20, wl_21, wl_22, wl_23, wl_32, wl_36, wl_40, wl_41, wl_42, wl_43, wl_44, wl_45, wl_46, wl_47, wl_48, wl_57, wl_59, wl_60, wl_61, wl_62, wl_65, wl_90, wl_97, wl_99, wl_100, wl_121, wl_122, wl_140, wl_142, wl_143, wl_145, wl_147, wl_160, wl_161, wl_162, wl_242, wl_380, wl_400, wl_420, wl_820, wl_1340, wl_5480, wl_9999, true_and, and_true, true_or, or_true, if_true, if_false, and_self, or_self, false_and, and_false, false_or, or_false, not_true_eq_false, not_false_eq_true, Int.reduceEq, Int.reduceLT, Int.reduceLE, Int.reduceToNat, Int.reduceAdd, Int.reduceMul, Int.reduceSub, Int.reduceMod, Int.reduceDiv, Int.reduceNeg, Nat.reduceEqDiff, sm_rd_ok, sm_rd_ok2, sm_wt_ok, sm_cp_ok, Option.isSome_some, Option.getD_some, w_cont, Option.toList_some, Option.toList_none, List.cons_append, List.nil_append]
  rw [b27_21, wr_id (by omega) (by omega), if_neg (by omega), b27_29, kk_1 H, rr_1_18 H]
  simp (disch := omega) only [wr_id, wr_b2i, wr_wr, b2i_eq0, b2i_eq1, b2i_01, sm_rem_eq, sm_div_eq, wl_m2, wl_m1, wl_0, wl_1, wl_2, wl_3, wl_4, wl_5, wl_6, wl_7, wl_8, wl_9, wl_10, wl_12, wl_13, wl_14, wl_16, wl_20, wl_21, wl_22, wl_23, wl_32, wl_36, wl_40, wl_41, wl_42, wl_43, wl_44, wl_45, wl_46, wl_47, wl_48, wl_57, wl_59, wl_60, wl_61, wl_62, wl_65, wl_90, wl_97, wl_99, wl_100, wl_121, wl_122, wl_140, wl_142, wl_143, wl_145, wl_147, wl_160, wl_161, wl_162, wl_242, wl_380, wl_400, wl_420, wl_820, wl_1340, wl_5480, wl_9999, true_and, and_true, true_or, or_true, if_true, if_false, and_self, or_self, false_and, and_false, false_or, or_false, not_true_eq_false, not_false_eq_true, Int.reduceEq, Int.reduceLT, Int.reduceLE, Int.reduceToNat, Int.reduceAdd, Int.reduceMul, Int.reduceSub, Int.reduceMod, Int.reduceDiv, Int.reduceNeg, Nat.reduceEqDiff, sm_rd_ok, sm_rd_ok2, sm_wt_ok, sm_cp_ok, Option.isSome_some, Option.getD_some, w_cont, Option.toList_some, Option.toList_none, List.cons_append, List.nil_append, kk_21 H, rr_21_0 H, kk_22 H, hT.1]
  by_cases h1 : T (ybR (c % 10) (c / 10) s).toNat = -1
  · rw [if_pos h1, b27_43, kk_70 H, rr_70_0 H, show c * 4 + s = 4 * c + s by omega]
    simp (disch := omega) only [wr_id, wr_b2i, wr_wr, b2i_eq0, b2i_eq1, b2i_01, sm_rem_eq, sm_div_eq, wl_m2, wl_m1, wl_0, wl_1, wl_2, wl_3, wl_4, wl_5, wl_6, wl_7, wl_8, wl_9, wl_10, wl_12, wl_13, wl_14, wl_16, wl_20, wl_21, wl_22, wl_23, wl_32, wl_36, wl_40, wl_41, wl_42, wl_43, wl_44, wl_45, wl_46, wl_47, wl_48, wl_57, wl_59, wl_60, wl_61, wl_62, wl_65, wl_90, wl_97, wl_99, wl_100, wl_121, wl_122, wl_140, wl_142, wl_143, wl_145, wl_147, wl_160, wl_161, wl_162, wl_242, wl_380, wl_400, wl_420, wl_820, wl_1340, wl_5480, wl_9999, true_and, and_true, true_or, or_true, if_true, if_false, and_self, or_self, false_and, and_false, false_or, or_false, not_true_eq_false, not_false_eq_true, Int.reduceEq, Int.reduceLT, Int.reduceLE, Int.reduceToNat, Int.reduceAdd, Int.reduceMul, Int.reduceSub, Int.reduceMod, Int.reduceDiv, Int.reduceNeg, Nat.reduceEqDiff, sm_rd_ok, sm_rd_ok2, sm_wt_ok, sm_cp_ok, Option.isSome_some, Option.getD_some, w_cont, Option.toList_some, Option.toList_none, List.cons_append, List.nil_append, kk_71 H, hFk.1]
    by_cases h2 : F (4 * c + s).toNat ≤ 0
    · rw [if_pos h2, b27_58]
      simp (disch := omega) only [wr_id, wr_b2i, wr_wr, b2i_eq0, b2i_eq1, b2i_01, sm_rem_eq, sm_div_eq, wl_m2, wl_m1, wl_0, wl_1, wl_2, wl_3, wl_4, wl_5, wl_6, wl_7, wl_8, wl_9, wl_10, wl_12, wl_13, wl_14, wl_16, wl_20, wl_21, wl_22, wl_23, wl_32, wl_36, wl_40, wl_41, wl_42, wl_43, wl_44, wl_45, wl_46, wl_47, wl_48, wl_57, wl_59, wl_60, wl_61, wl_62, wl_65, wl_90, wl_97, wl_99, wl_100, wl_121, wl_122, wl_140, wl_142, wl_143, wl_145, wl_147, wl_160, wl_161, wl_162, wl_242, wl_380, wl_400, wl_420, wl_820, wl_1340, wl_5480, wl_9999, true_and, and_true, true_or, or_true, if_true, if_false, and_self, or_self, false_and, and_false, false_or, or_false, not_true_eq_false, not_false_eq_true, Int.reduceEq, Int.reduceLT, Int.reduceLE, Int.reduceToNat, Int.reduceAdd, Int.reduceMul, Int.reduceSub, Int.reduceMod, Int.reduceDiv, Int.reduceNeg, Nat.reduceEqDiff, sm_rd_ok, sm_rd_ok2, sm_wt_ok, sm_cp_ok, Option.isSome_some, Option.getD_some, w_cont, Option.toList_some, Option.toList_none, List.cons_append, List.nil_append, kk_1 H, ks_0 H, ks_1 H]
      rw [ezd.1, ezd.2, c_cellAt (by rw [kk_1 H]) (by rw [hw.1]; exact hs.1) (by rw [hw.2]; exact hs.2) (by omega) (by omega), w_cont, hw.1, hw.2]
      simp only [wr_id, wr_b2i, wr_wr, b2i_eq0, b2i_eq1, b2i_01, sm_rem_eq, sm_div_eq, wl_m2, wl_m1, wl_0, wl_1, wl_2, wl_3, wl_4, wl_5, wl_6, wl_7, wl_8, wl_9, wl_10, wl_12, wl_13, wl_14, wl_16, wl_20, wl_21, wl_22, wl_23, wl_32, wl_36, wl_40, wl_41, wl_42, wl_43, wl_44, wl_45, wl_46, wl_47, wl_48, wl_57, wl_59, wl_60, wl_61, wl_62, wl_65, wl_90, wl_97, wl_99, wl_100, wl_121, wl_122, wl_140, wl_142, wl_143, wl_145, wl_147, wl_160, wl_161, wl_162, wl_242, wl_380, wl_400, wl_420, wl_820, wl_1340, wl_5480, wl_9999, true_and, and_true, true_or, or_true, if_true, if_false, and_self, or_self, false_and, and_false, false_or, or_false, not_true_eq_false, not_false_eq_true, Int.reduceEq, Int.reduceLT, Int.reduceLE, Int.reduceToNat, Int.reduceAdd, Int.reduceMul, Int.reduceSub, Int.reduceMod, Int.reduceDiv, Int.reduceNeg, Nat.reduceEqDiff, sm_rd_ok, sm_rd_ok2, sm_wt_ok, sm_cp_ok, Option.isSome_some, Option.getD_some, w_cont, Option.toList_some, Option.toList_none, List.cons_append, List.nil_append]
      rw [b27_78]
      show Q (some (.inl (nxC w h c s))) _ = _
      by_cases h3 : nxC w h c s = -1
      · rw [h3, ite_self]
      · rw [if_pos ⟨by simp only [opn, decide_eq_true_eq]; exact ⟨h3, h1⟩, h2⟩]
    · rw [if_neg h2, b27_56, if_neg (fun g => h2 g.2)]
  · rw [if_neg h1, b27_56, if_neg]
    intro g
    have g1 := g.1
    simp only [opn, decide_eq_true_eq] at g1
    exact h1 g1.2
/-- the search as the class has it: its first cell came by 0 -/
def rSq (Z : Nat → Nat → Int) (a : Nat) (st : spT) : Prop := (∀ c, c < 100 → Z 72 c = if c = a then 0 else st.1 c) ∧ ∀ i, i < st.2.2 → Z 73 i = st.2.1 i
theorem rSq_upd {Z : Nat → Nat → Int} {a : Nat} {st : spT} {m : Nat} {f v : Int} (hm : ¬ m = a) (h : rSq Z a st) : rSq (sm_u (sm_u Z 72 m f) 73 st.2.2 v) a (mU st.1 m f, mU st.2.1 st.2.2 v, st.2.2 + 1) := by
  refine ⟨fun c hc => ?_, fun i hi => ?_⟩
  · rw [sm_u_ne (by decide), sm_u_eq]
    show _ = if c = a then 0 else mU st.1 m f c
    unfold mU
    by_cases hcm : c = m
    · rw [if_pos hcm, if_neg (by omega), if_pos hcm]
    · rw [if_neg hcm, if_neg hcm]
      exact h.1 c hc
  · rw [sm_u_eq]
    show _ = mU st.2.1 st.2.2 v i
    unfold mU
    by_cases hi2 : i = st.2.2
    · rw [if_pos hi2, if_pos hi2]
    · rw [if_neg hi2, if_neg hi2, sm_u_ne (by decide)]
      have hi' : i < st.2.2 + 1 := hi
      exact h.2 i (by omega)
theorem wfB_a {a : Nat} {st : spT} (hf : wfB w h F a st) : ¬ st.1 a = -1 := by
  have := (hf.1 0 (by have := hf.2.2.2.1.2; omega)).2
  rw [hf.2.2.2.1.1, Int.toNat_natCast] at this
  exact this
theorem c_pb1 (H : sm_sh Rf K) (hp : pcP Z w h T F) (hs : (2 ≤ w ∧ w ≤ 10) ∧ 2 ≤ h ∧ h ≤ 10) {a : Nat} {c : Int} {st : spT} (hf : wfB w h F a st) (hc : isC w h c = true) (hr : rSq Z a st) (k : Nat) (hk : k < 4) (l2 l3 l5 l8 : Option sm_V) : ∃ Z' l8', rSq Z' a (pbS w h T F c (k : Int) st) ∧ (∀ a, a ≠ 72 → a ≠ 73 → Z' a = Z a) ∧ ∀ Q, sm_wp (d + 3) 26 54 [some (.inr (some 70)), some (.inr (some 1)), l2, l3, some (.inl (st.2.2 : Int)), l5, some (.inl c), some (.inl (k : Int)), l8] [] (Z, Rf, K, n, z) Q = sm_wp (d + 3) 26 54 [some (.inr (some 70)), some (.inr (some 1)), l2, l3, some (.inl ((pbS w h T F c (k : Int) st).2.2 : Int)), l5, some (.inl c), some (.inl ((k + 1 : Nat) : Int)), l8'] [] (Z', Rf, K, n, z) Q := by
  have hnb := nxC_bd hs.1.2 hs.2.2 c (k : Int)
  have hle := wfB_le hf
  have head : ∀ Q, sm_wp (d + 3) 26 54 [some (.inr (some 70)), some (.inr (some 1)), l2, l3, some (.inl (st.2.2 : Int)), l5, some (.inl c), some (.inl (k : Int)), l8] [] (Z, Rf, K, n, z) Q = sm_wp (d + 3) 26 69 [some (.inr (some 70)), some (.inr (some 1)), l2, l3, some (.inl (st.2.2 : Int)), l5, some (.inl c), some (.inl (k : Int)), l8] [.inl (if opn w h T c (k : Int) = true ∧ F (4 * c + (k : Int)).toNat ≤ 0 then nxC w h c (k : Int) else -1)] (Z, Rf, K, n, z) Q := by
    intro Q
    rw [b26_54, wr_id (by omega) (by omega), if_neg (by omega), b26_60, kk_70 H, c_nextFree H hp hs hc (by omega), w_cont]
    simp only [wr_id, wr_b2i, wr_wr, b2i_eq0, b2i_eq1, b2i_01, sm_rem_eq, sm_div_eq, wl_m2, wl_m1, wl_0, wl_1, wl_2, wl_3, wl_4, wl_5, wl_6, wl_7, wl_8, wl_9, wl_10, wl_12, wl_13, wl_14, wl_16, wl_20, wl_21, wl_22, wl_23, wl_32, wl_36, wl_40, wl_41, wl_42, wl_43, wl_44, wl_45, wl_46, wl_47, wl_48, wl_57, wl_59, wl_60, wl_61, wl_62, wl_65, wl_90, wl_97, wl_99, wl_100, wl_121, wl_122, wl_140, wl_142, wl_143, wl_145, wl_147, wl_160, wl_161, wl_162, wl_242, wl_380, wl_400, wl_420, wl_820, wl_1340, wl_5480, wl_9999, true_and, and_true, true_or, or_true, if_true, if_false, and_self, or_self, false_and, and_false, false_or, or_false, not_true_eq_false, not_false_eq_true, Int.reduceEq, Int.reduceLT, Int.reduceLE, Int.reduceToNat, Int.reduceAdd, Int.reduceMul, Int.reduceSub, Int.reduceMod, Int.reduceDiv, Int.reduceNeg, Nat.reduceEqDiff, sm_rd_ok, sm_rd_ok2, sm_wt_ok, sm_cp_ok, Option.isSome_some, Option.getD_some, w_cont, Option.toList_some, Option.toList_none, List.cons_append, List.nil_append]
  unfold pbS
  by_cases ho : opn w h T c (k : Int) = true ∧ F (4 * c + (k : Int)).toNat ≤ 0
  · have ho1 := ho.1
    simp only [opn, decide_eq_true_eq] at ho1
    have hn := ho1.1
    have hcb := hf.2.1 (nxC w h c (k : Int)).toNat (by omega)
    have haa := wfB_a hf
    have hcx := hr.1 (nxC w h c (k : Int)).toNat (by omega)
    have mid : ∀ Q, sm_wp (d + 3) 26 54 [some (.inr (some 70)), some (.inr (some 1)), l2, l3, some (.inl (st.2.2 : Int)), l5, some (.inl c), some (.inl (k : Int)), l8] [] (Z, Rf, K, n, z) Q = if st.1 (nxC w h c (k : Int)).toNat = -1 then sm_wp (d + 3) 26 88 [some (.inr (some 70)), some (.inr (some 1)), l2, l3, some (.inl (st.2.2 : Int)), l5, some (.inl c), some (.inl (k : Int)), some (.inl (nxC w h c (k : Int)))] [] (Z, Rf, K, n, z) Q else sm_wp (d + 3) 26 116 [some (.inr (some 70)), some (.inr (some 1)), l2, l3, some (.inl (st.2.2 : Int)), l5, some (.inl c), some (.inl (k : Int)), some (.inl (nxC w h c (k : Int)))] [] (Z, Rf, K, n, z) Q := by
      intro Q
      rw [head, if_pos ho, b26_69, wr_id (by omega) (by omega), if_neg hn, b26_77, kk_70 H, rr_70_1 H]
      simp (disch := omega) only [wr_id, wr_b2i, wr_wr, b2i_eq0, b2i_eq1, b2i_01, sm_rem_eq, sm_div_eq, wl_m2, wl_m1, wl_0, wl_1, wl_2, wl_3, wl_4, wl_5, wl_6, wl_7, wl_8, wl_9, wl_10, wl_12, wl_13, wl_14, wl_16, wl_20, wl_21, wl_22, wl_23, wl_32, wl_36, wl_40, wl_41, wl_42, wl_43, wl_44, wl_45, wl_46, wl_47, wl_48, wl_57, wl_59, wl_60, wl_61, wl_62, wl_65, wl_90, wl_97, wl_99, wl_100, wl_121, wl_122, wl_140, wl_142, wl_143, wl_145, wl_147, wl_160, wl_161, wl_162, wl_242, wl_380, wl_400, wl_420, wl_820, wl_1340, wl_5480, wl_9999, true_and, and_true, true_or, or_true, if_true, if_false, and_self, or_self, false_and, and_false, false_or, or_false, not_true_eq_false, not_false_eq_true, Int.reduceEq, Int.reduceLT, Int.reduceLE, Int.reduceToNat, Int.reduceAdd, Int.reduceMul, Int.reduceSub, Int.reduceMod, Int.reduceDiv, Int.reduceNeg, Nat.reduceEqDiff, sm_rd_ok, sm_rd_ok2, sm_wt_ok, sm_cp_ok, Option.isSome_some, Option.getD_some, w_cont, Option.toList_some, Option.toList_none, List.cons_append, List.nil_append, kk_72 H, hcx]
      by_cases hxa : (nxC w h c (k : Int)).toNat = a
      · rw [if_pos hxa, if_neg (by omega), if_neg (by rw [hxa]; exact haa)]
      · rw [if_neg hxa]
    by_cases h1 : st.1 (nxC w h c (k : Int)).toNat = -1
    · rw [if_pos ⟨ho, h1⟩]
      have hlt := wfB_lt hf (k := (nxC w h c (k : Int)).toNat) (by omega) h1
      refine ⟨sm_u (sm_u Z 72 (nxC w h c (k : Int)).toNat (k : Int)) 73 st.2.2 (nxC w h c (k : Int)), some (.inl (nxC w h c (k : Int))), rSq_upd (by intro e; rw [e] at h1; exact haa h1) hr, fun a g1 g2 => by rw [sm_u_row g2, sm_u_row g1], fun Q => ?_⟩
      rw [mid, if_pos h1, b26_88, wr_id (by omega) (by omega), if_neg (by omega), b26_95, kk_70 H, rr_70_1 H, rr_70_2 H]
      simp (disch := omega) only [wr_id, wr_b2i, wr_wr, b2i_eq0, b2i_eq1, b2i_01, sm_rem_eq, sm_div_eq, wl_m2, wl_m1, wl_0, wl_1, wl_2, wl_3, wl_4, wl_5, wl_6, wl_7, wl_8, wl_9, wl_10, wl_12, wl_13, wl_14, wl_16, wl_20, wl_21, wl_22, wl_23, wl_32, wl_36, wl_40, wl_41, wl_42, wl_43, wl_44, wl_45, wl_46, wl_47, wl_48, wl_57, wl_59, wl_60, wl_61, wl_62, wl_65, wl_90, wl_97, wl_99, wl_100, wl_121, wl_122, wl_140, wl_142, wl_143, wl_145, wl_147, wl_160, wl_161, wl_162, wl_242, wl_380, wl_400, wl_420, wl_820, wl_1340, wl_5480, wl_9999, true_and, and_true, true_or, or_true, if_true, if_false, and_self, or_self, false_and, and_false, false_or, or_false, not_true_eq_false, not_false_eq_true, Int.reduceEq, Int.reduceLT, Int.reduceLE, Int.reduceToNat, Int.reduceAdd, Int.reduceMul, Int.reduceSub, Int.reduceMod, Int.reduceDiv, Int.reduceNeg, Nat.reduceEqDiff, sm_rd_ok, sm_rd_ok2, sm_wt_ok, sm_cp_ok, Option.isSome_some, Option.getD_some, w_cont, Option.toList_some, Option.toList_none, List.cons_append, List.nil_append, kk_72 H, kk_73 H, Int.toNat_natCast]
      rw [b26_116]
      rfl
    · rw [if_neg (fun g => h1 g.2)]
      refine ⟨Z, some (.inl (nxC w h c (k : Int))), hr, fun _ _ _ => rfl, fun Q => ?_⟩
      rw [mid, if_neg h1, b26_116]
      rfl
  · rw [if_neg (fun g => ho g.1)]
    refine ⟨Z, some (.inl (-1)), hr, fun _ _ _ => rfl, fun Q => ?_⟩
    rw [head, if_neg ho, b26_69]
    simp only [wr_id, wr_b2i, wr_wr, b2i_eq0, b2i_eq1, b2i_01, sm_rem_eq, sm_div_eq, wl_m2, wl_m1, wl_0, wl_1, wl_2, wl_3, wl_4, wl_5, wl_6, wl_7, wl_8, wl_9, wl_10, wl_12, wl_13, wl_14, wl_16, wl_20, wl_21, wl_22, wl_23, wl_32, wl_36, wl_40, wl_41, wl_42, wl_43, wl_44, wl_45, wl_46, wl_47, wl_48, wl_57, wl_59, wl_60, wl_61, wl_62, wl_65, wl_90, wl_97, wl_99, wl_100, wl_121, wl_122, wl_140, wl_142, wl_143, wl_145, wl_147, wl_160, wl_161, wl_162, wl_242, wl_380, wl_400, wl_420, wl_820, wl_1340, wl_5480, wl_9999, true_and, and_true, true_or, or_true, if_true, if_false, and_self, or_self, false_and, and_false, false_or, or_false, not_true_eq_false, not_false_eq_true, Int.reduceEq, Int.reduceLT, Int.reduceLE, Int.reduceToNat, Int.reduceAdd, Int.reduceMul, Int.reduceSub, Int.reduceMod, Int.reduceDiv, Int.reduceNeg, Nat.reduceEqDiff, sm_rd_ok, sm_rd_ok2, sm_wt_ok, sm_cp_ok, Option.isSome_some, Option.getD_some, w_cont, Option.toList_some, Option.toList_none, List.cons_append, List.nil_append]
    rw [b26_116]
    rfl
theorem c_pbN (H : sm_sh Rf K) (hp : pcP Z w h T F) (hs : (2 ≤ w ∧ w ≤ 10) ∧ 2 ≤ h ∧ h ≤ 10) {a : Nat} {st : spT} (hf : wfB w h F a st) {j0 : Nat} (hj0 : j0 < st.2.2) (hr : rSq Z a st) (l2 l3 l5 l8 : Option sm_V) : ∃ Z' l8', rSq Z' a (pbN w h T F (st.2.1 j0) st) ∧ (∀ a, a ≠ 72 → a ≠ 73 → Z' a = Z a) ∧ ∀ Q, sm_wp (d + 3) 26 54 [some (.inr (some 70)), some (.inr (some 1)), l2, l3, some (.inl (st.2.2 : Int)), l5, some (.inl (st.2.1 j0)), some (.inl 0), l8] [] (Z, Rf, K, n, z) Q = sm_wp (d + 3) 26 122 [some (.inr (some 70)), some (.inr (some 1)), l2, l3, some (.inl ((pbN w h T F (st.2.1 j0) st).2.2 : Int)), l5, some (.inl (st.2.1 j0)), some (.inl 4), l8'] [] (Z', Rf, K, n, z) Q := by
  have hw := hs.1.2
  have hh := hs.2.2
  have hc := (hf.1 j0 hj0).1
  obtain ⟨Z0, la, a0, b0, c0⟩ := c_pb1 (d := d) (n := n) (z := z) H hp hs hf hc hr 0 (by omega) l2 l3 l5 l8
  obtain ⟨f0, g0⟩ := pbS_wf (T := T) hf hw hh hj0 rfl (s := ((0 : Nat) : Int)) (by omega)
  have p0 := pcP_fr b0 hp
  obtain ⟨Z1, lb, a1, b1, c1⟩ := c_pb1 (d := d) (n := n) (z := z) H p0 hs f0 hc a0 1 (by omega) l2 l3 l5 la
  obtain ⟨f1, g1⟩ := pbS_wf (T := T) f0 hw hh (Nat.lt_of_lt_of_le hj0 g0.1) (g0.2.1 j0 hj0) (s := ((1 : Nat) : Int)) (by omega)
  have g01 := grS_trans g0 g1
  have p1 := pcP_fr b1 p0
  obtain ⟨Z2, lc, a2, b2, c2⟩ := c_pb1 (d := d) (n := n) (z := z) H p1 hs f1 hc a1 2 (by omega) l2 l3 l5 lb
  obtain ⟨f2, g2⟩ := pbS_wf (T := T) f1 hw hh (Nat.lt_of_lt_of_le hj0 g01.1) (g01.2.1 j0 hj0) (s := ((2 : Nat) : Int)) (by omega)
  have p2 := pcP_fr b2 p1
  obtain ⟨Z3, ld, a3, b3, c3⟩ := c_pb1 (d := d) (n := n) (z := z) H p2 hs f2 hc a2 3 (by omega) l2 l3 l5 lc
  refine ⟨Z3, ld, a3, fun a q1 q2 => by rw [b3 a q1 q2, b2 a q1 q2, b1 a q1 q2, b0 a q1 q2], fun Q => ?_⟩
  refine (c0 Q).trans ((c1 Q).trans ((c2 Q).trans ((c3 Q).trans ?_)))
  rw [b26_54, wr_id (by omega) (by omega), if_pos (by omega)]
  rfl
theorem c_pb_loop (H : sm_sh Rf K) (hs : (2 ≤ w ∧ w ≤ 10) ∧ 2 ≤ h ∧ h ≤ 10) {a : Nat} {b : Int} (hb : 0 ≤ b ∧ b < 100) (l2 : Option sm_V) : ∀ (k i : Nat) (st : spT) (Z : Nat → Nat → Int) (l6 l7 l8 : Option sm_V), i + k = 100 → pcP Z w h T F → wfB w h F a st → rSq Z a st → ∃ Z', rSq Z' a (pbR w h T F k i st) ∧ (∀ a, a ≠ 72 → a ≠ 73 → Z' a = Z a) ∧ ∀ Q, sm_wp (d + 3) 26 28 [some (.inr (some 70)), some (.inr (some 1)), l2, some (.inl b), some (.inl (st.2.2 : Int)), some (.inl (i : Int)), l6, l7, l8] [] (Z, Rf, K, n, z) Q = Q (some (.inl (if (pbR w h T F k i st).1 b.toNat = -1 then 0 else 1))) (Z', Rf, K, n, z) := by
  have fin : ∀ (st : spT) (Z : Nat → Nat → Int) (l4 l5 l6 l7 l8 : Option sm_V), wfB w h F a st → rSq Z a st → ∀ Q, sm_wp (d + 3) 26 128 [some (.inr (some 70)), some (.inr (some 1)), l2, some (.inl b), l4, l5, l6, l7, l8] [] (Z, Rf, K, n, z) Q = Q (some (.inl (if st.1 b.toNat = -1 then 0 else 1))) (Z, Rf, K, n, z) := by
    intro st Z l4 l5 l6 l7 l8 hf hr Q
    have haa := wfB_a hf
    have hcb := hf.2.1 b.toNat (by omega)
    have hcx := hr.1 b.toNat (by omega)
    rw [b26_128, kk_70 H, rr_70_1 H]
    simp (disch := omega) only [wr_id, wr_b2i, wr_wr, b2i_eq0, b2i_eq1, b2i_01, sm_rem_eq, sm_div_eq, wl_m2, wl_m1, wl_0, wl_1, wl_2, wl_3, wl_4, wl_5, wl_6, wl_7, wl_8, wl_9, wl_10, wl_12, wl_13, wl_14, wl_16, wl_20, wl_21, wl_22, wl_23, wl_32, wl_36, wl_40, wl_41, wl_42, wl_43, wl_44, wl_45, wl_46, wl_47, wl_48, wl_57, wl_59, wl_60, wl_61, wl_62, wl_65, wl_90, wl_97, wl_99, wl_100, wl_121, wl_122, wl_140, wl_142, wl_143, wl_145, wl_147, wl_160, wl_161, wl_162, wl_242, wl_380, wl_400, wl_420, wl_820, wl_1340, wl_5480, wl_9999, true_and, and_true, true_or, or_true, if_true, if_false, and_self, or_self, false_and, and_false, false_or, or_false, not_true_eq_false, not_false_eq_true, Int.reduceEq, Int.reduceLT, Int.reduceLE, Int.reduceToNat, Int.reduceAdd, Int.reduceMul, Int.reduceSub, Int.reduceMod, Int.reduceDiv, Int.reduceNeg, Nat.reduceEqDiff, sm_rd_ok, sm_rd_ok2, sm_wt_ok, sm_cp_ok, Option.isSome_some, Option.getD_some, w_cont, Option.toList_some, Option.toList_none, List.cons_append, List.nil_append, kk_72 H, hcx]
    by_cases hba : b.toNat = a
    · rw [if_pos hba, if_neg (by omega), if_neg (by rw [hba]; exact haa), b26_138, b26_143]
      simp only [wr_id, wr_b2i, wr_wr, b2i_eq0, b2i_eq1, b2i_01, sm_rem_eq, sm_div_eq, wl_m2, wl_m1, wl_0, wl_1, wl_2, wl_3, wl_4, wl_5, wl_6, wl_7, wl_8, wl_9, wl_10, wl_12, wl_13, wl_14, wl_16, wl_20, wl_21, wl_22, wl_23, wl_32, wl_36, wl_40, wl_41, wl_42, wl_43, wl_44, wl_45, wl_46, wl_47, wl_48, wl_57, wl_59, wl_60, wl_61, wl_62, wl_65, wl_90, wl_97, wl_99, wl_100, wl_121, wl_122, wl_140, wl_142, wl_143, wl_145, wl_147, wl_160, wl_161, wl_162, wl_242, wl_380, wl_400, wl_420, wl_820, wl_1340, wl_5480, wl_9999, true_and, and_true, true_or, or_true, if_true, if_false, and_self, or_self, false_and, and_false, false_or, or_false, not_true_eq_false, not_false_eq_true, Int.reduceEq, Int.reduceLT, Int.reduceLE, Int.reduceToNat, Int.reduceAdd, Int.reduceMul, Int.reduceSub, Int.reduceMod, Int.reduceDiv, Int.reduceNeg, Nat.reduceEqDiff, sm_rd_ok, sm_rd_ok2, sm_wt_ok, sm_cp_ok, Option.isSome_some, Option.getD_some, w_cont, Option.toList_some, Option.toList_none, List.cons_append, List.nil_append]
    · rw [if_neg hba]
      by_cases h1 : st.1 b.toNat = -1
      · rw [if_pos h1, if_pos h1, b26_142, b26_143]
        simp only [wr_id, wr_b2i, wr_wr, b2i_eq0, b2i_eq1, b2i_01, sm_rem_eq, sm_div_eq, wl_m2, wl_m1, wl_0, wl_1, wl_2, wl_3, wl_4, wl_5, wl_6, wl_7, wl_8, wl_9, wl_10, wl_12, wl_13, wl_14, wl_16, wl_20, wl_21, wl_22, wl_23, wl_32, wl_36, wl_40, wl_41, wl_42, wl_43, wl_44, wl_45, wl_46, wl_47, wl_48, wl_57, wl_59, wl_60, wl_61, wl_62, wl_65, wl_90, wl_97, wl_99, wl_100, wl_121, wl_122, wl_140, wl_142, wl_143, wl_145, wl_147, wl_160, wl_161, wl_162, wl_242, wl_380, wl_400, wl_420, wl_820, wl_1340, wl_5480, wl_9999, true_and, and_true, true_or, or_true, if_true, if_false, and_self, or_self, false_and, and_false, false_or, or_false, not_true_eq_false, not_false_eq_true, Int.reduceEq, Int.reduceLT, Int.reduceLE, Int.reduceToNat, Int.reduceAdd, Int.reduceMul, Int.reduceSub, Int.reduceMod, Int.reduceDiv, Int.reduceNeg, Nat.reduceEqDiff, sm_rd_ok, sm_rd_ok2, sm_wt_ok, sm_cp_ok, Option.isSome_some, Option.getD_some, w_cont, Option.toList_some, Option.toList_none, List.cons_append, List.nil_append]
      · rw [if_neg h1, if_neg h1, b26_138, b26_143]
        simp only [wr_id, wr_b2i, wr_wr, b2i_eq0, b2i_eq1, b2i_01, sm_rem_eq, sm_div_eq, wl_m2, wl_m1, wl_0, wl_1, wl_2, wl_3, wl_4, wl_5, wl_6, wl_7, wl_8, wl_9, wl_10, wl_12, wl_13, wl_14, wl_16, wl_20, wl_21, wl_22, wl_23, wl_32, wl_36, wl_40, wl_41, wl_42, wl_43, wl_44, wl_45, wl_46, wl_47, wl_48, wl_57, wl_59, wl_60, wl_61, wl_62, wl_65, wl_90, wl_97, wl_99, wl_100, wl_121, wl_122, wl_140, wl_142, wl_143, wl_145, wl_147, wl_160, wl_161, wl_162, wl_242, wl_380, wl_400, wl_420, wl_820, wl_1340, wl_5480, wl_9999, true_and, and_true, true_or, or_true, if_true, if_false, and_self, or_self, false_and, and_false, false_or, or_false, not_true_eq_false, not_false_eq_true, Int.reduceEq, Int.reduceLT, Int.reduceLE, Int.reduceToNat, Int.reduceAdd, Int.reduceMul, Int.reduceSub, Int.reduceMod, Int.reduceDiv, Int.reduceNeg, Nat.reduceEqDiff, sm_rd_ok, sm_rd_ok2, sm_wt_ok, sm_cp_ok, Option.isSome_some, Option.getD_some, w_cont, Option.toList_some, Option.toList_none, List.cons_append, List.nil_append]
  intro k
  induction k with
  | zero =>
    intro i st Z l6 l7 l8 hik hp hf hr
    have hle := wfB_le hf
    refine ⟨Z, hr, fun _ _ _ => rfl, fun Q => ?_⟩
    rw [b26_28, wr_id (by omega) (by omega), wr_id (by omega) (by omega), if_pos (by omega)]
    exact fin st Z _ _ _ _ _ hf hr Q
  | succ k ih =>
    intro i st Z l6 l7 l8 hik hp hf hr
    have hle := wfB_le hf
    by_cases hi : i < st.2.2
    · have e : pbR w h T F (k + 1) i st = pbR w h T F k (i + 1) (pbN w h T F (st.2.1 i) st) := by simp only [pbR]; rw [if_pos hi]
      obtain ⟨Z1, l8a, a1, b1, c1⟩ := c_pbN (d := d) (n := n) (z := z) H hp hs hf hi hr l2 (some (.inl b)) (some (.inl (i : Int))) l8
      obtain ⟨Z2, a2, b2, c2⟩ := ih (i + 1) _ Z1 (some (.inl (st.2.1 i))) (some (.inl 4)) l8a (by omega) (pcP_fr b1 hp) (pbN_wf (T := T) hf hs.1.2 hs.2.2 hi).1 a1
      rw [e]
      refine ⟨Z2, a2, fun a q1 q2 => by rw [b2 a q1 q2, b1 a q1 q2], fun Q => ?_⟩
      have hq := hr.2 i hi
      rw [b26_28, wr_id (by omega) (by omega), wr_id (by omega) (by omega), if_neg (by omega), b26_35, wr_id (by omega) (by omega), if_neg (by omega), b26_42, kk_70 H, rr_70_2 H]
      simp (disch := omega) only [wr_id, wr_b2i, wr_wr, b2i_eq0, b2i_eq1, b2i_01, sm_rem_eq, sm_div_eq, wl_m2, wl_m1, wl_0, wl_1, wl_2, wl_3, wl_4, wl_5, wl_6, wl_7, wl_8, wl_9, wl_10, wl_12, wl_13, wl_14, wl_16, wl_20, wl_21, wl_22, wl_23, wl_32, wl_36, wl_40, wl_41, wl_42, wl_43, wl_44, wl_45, wl_46, wl_47, wl_48, wl_57, wl_59, wl_60, wl_61, wl_62, wl_65, wl_90, wl_97, wl_99, wl_100, wl_121, wl_122, wl_140, wl_142, wl_143, wl_145, wl_147, wl_160, wl_161, wl_162, wl_242, wl_380, wl_400, wl_420, wl_820, wl_1340, wl_5480, wl_9999, true_and, and_true, true_or, or_true, if_true, if_false, and_self, or_self, false_and, and_false, false_or, or_false, not_true_eq_false, not_false_eq_true, Int.reduceEq, Int.reduceLT, Int.reduceLE, Int.reduceToNat, Int.reduceAdd, Int.reduceMul, Int.reduceSub, Int.reduceMod, Int.reduceDiv, Int.reduceNeg, Nat.reduceEqDiff, sm_rd_ok, sm_rd_ok2, sm_wt_ok, sm_cp_ok, Option.isSome_some, Option.getD_some, w_cont, Option.toList_some, Option.toList_none, List.cons_append, List.nil_append, kk_73 H, Int.toNat_natCast, hq]
      refine (c1 Q).trans ?_
      rw [b26_122, show (i : Int) + 1 = ((i + 1 : Nat) : Int) by omega]
      exact c2 Q
    · have e : pbR w h T F (k + 1) i st = st := by simp only [pbR]; rw [if_neg hi]
      rw [e]
      refine ⟨Z, hr, fun _ _ _ => rfl, fun Q => ?_⟩
      rw [b26_28, wr_id (by omega) (by omega), wr_id (by omega) (by omega), if_pos (by omega)]
      exact fin st Z _ _ _ _ _ hf hr Q
theorem c_findWay (H : sm_sh Rf K) (hs : (2 ≤ w ∧ w ≤ 10) ∧ 2 ≤ h ∧ h ≤ 10) {a b : Nat} (ha : isC w h (a : Int) = true) (hb : b < 100) (hp : pcP Z w h T F) : ∃ Z', rSq Z' a (pbR w h T F 100 0 (pb0 a)) ∧ (∀ a, a ≠ 72 → a ≠ 73 → Z' a = Z a) ∧ ∀ Q, sm_call (d + 3) 26 [.inr (some 70), .inr (some 1), .inl (a : Int), .inl (b : Int)] (Z, Rf, K, n, z) Q = Q (some (.inl (if (pbR w h T F 100 0 (pb0 a)).1 b = -1 then 0 else 1))) (Z', Rf, K, n, z) := by
  have hba := isC_bd ha
  let Z1 := sm_u (sm_u (sm_fr Z 72 0 100 (-1)) 72 a 0) 73 0 (a : Int)
  have r1 : ∀ q, q ≠ 72 → q ≠ 73 → Z1 q = Z q := fun q h1 h2 => by
    show sm_u _ _ _ _ q = _
    rw [sm_u_row h2, sm_u_row h1]
    funext j
    exact sm_fr_ne h1
  have hr1 : rSq Z1 a (pb0 a) := by
    refine ⟨fun c hc => ?_, fun i hi => ?_⟩
    · show sm_u _ _ _ _ 72 c = if c = a then 0 else (if c = a then (4 : Int) else -1)
      rw [sm_u_ne (by decide), sm_u_eq]
      by_cases hca : c = a
      · rw [if_pos hca, if_pos hca]
      · rw [if_neg hca, if_neg hca, if_neg hca]
        unfold sm_fr
        rw [if_pos ⟨rfl, by omega, hc⟩]
    · have hi1 : i < 1 := hi
      have : i = 0 := by omega
      show sm_u _ _ _ _ 73 i = (a : Int)
      rw [this, sm_u_self]
  obtain ⟨Z2, a2, b2, c2⟩ := c_pb_loop (d := d) (n := n) (z := z) (T := T) (F := F) (b := (b : Int)) H hs (by omega) (some (.inl (a : Int))) 100 0 (pb0 a) Z1 none none none (by omega) (pcP_fr r1 hp) (pb0_wf ha) hr1
  refine ⟨Z2, a2, fun q h1 h2 => by rw [b2 q h1 h2, r1 q h1 h2], fun Q => ?_⟩
  rw [ce26, b26_0, kk_70 H, rr_70_1 H]
  simp only [wr_id, wr_b2i, wr_wr, b2i_eq0, b2i_eq1, b2i_01, sm_rem_eq, sm_div_eq, wl_m2, wl_m1, wl_0, wl_1, wl_2, wl_3, wl_4, wl_5, wl_6, wl_7, wl_8, wl_9, wl_10, wl_12, wl_13, wl_14, wl_16, wl_20, wl_21, wl_22, wl_23, wl_32, wl_36, wl_40, wl_41, wl_42, wl_43, wl_44, wl_45, wl_46, wl_47, wl_48, wl_57, wl_59, wl_60, wl_61, wl_62, wl_65, wl_90, wl_97, wl_99, wl_100, wl_121, wl_122, wl_140, wl_142, wl_143, wl_145, wl_147, wl_160, wl_161, wl_162, wl_242, wl_380, wl_400, wl_420, wl_820, wl_1340, wl_5480, wl_9999, true_and, and_true, true_or, or_true, if_true, if_false, and_self, or_self, false_and, and_false, false_or, or_false, not_true_eq_false, not_false_eq_true, Int.reduceEq, Int.reduceLT, Int.reduceLE, Int.reduceToNat, Int.reduceAdd, Int.reduceMul, Int.reduceSub, Int.reduceMod, Int.reduceDiv, Int.reduceNeg, Nat.reduceEqDiff, sm_rd_ok, sm_rd_ok2, sm_wt_ok, sm_cp_ok, Option.isSome_some, Option.getD_some, w_cont, Option.toList_some, Option.toList_none, List.cons_append, List.nil_append]
  rw [c_fill (kk_72 H) (by decide), w_cont]
  simp only [wr_id, wr_b2i, wr_wr, b2i_eq0, b2i_eq1, b2i_01, sm_rem_eq, sm_div_eq, wl_m2, wl_m1, wl_0, wl_1, wl_2, wl_3, wl_4, wl_5, wl_6, wl_7, wl_8, wl_9, wl_10, wl_12, wl_13, wl_14, wl_16, wl_20, wl_21, wl_22, wl_23, wl_32, wl_36, wl_40, wl_41, wl_42, wl_43, wl_44, wl_45, wl_46, wl_47, wl_48, wl_57, wl_59, wl_60, wl_61, wl_62, wl_65, wl_90, wl_97, wl_99, wl_100, wl_121, wl_122, wl_140, wl_142, wl_143, wl_145, wl_147, wl_160, wl_161, wl_162, wl_242, wl_380, wl_400, wl_420, wl_820, wl_1340, wl_5480, wl_9999, true_and, and_true, true_or, or_true, if_true, if_false, and_self, or_self, false_and, and_false, false_or, or_false, not_true_eq_false, not_false_eq_true, Int.reduceEq, Int.reduceLT, Int.reduceLE, Int.reduceToNat, Int.reduceAdd, Int.reduceMul, Int.reduceSub, Int.reduceMod, Int.reduceDiv, Int.reduceNeg, Nat.reduceEqDiff, sm_rd_ok, sm_rd_ok2, sm_wt_ok, sm_cp_ok, Option.isSome_some, Option.getD_some, w_cont, Option.toList_some, Option.toList_none, List.cons_append, List.nil_append]
  rw [b26_8, kk_70 H, rr_70_1 H, rr_70_2 H]
  simp (disch := omega) only [wr_id, wr_b2i, wr_wr, b2i_eq0, b2i_eq1, b2i_01, sm_rem_eq, sm_div_eq, wl_m2, wl_m1, wl_0, wl_1, wl_2, wl_3, wl_4, wl_5, wl_6, wl_7, wl_8, wl_9, wl_10, wl_12, wl_13, wl_14, wl_16, wl_20, wl_21, wl_22, wl_23, wl_32, wl_36, wl_40, wl_41, wl_42, wl_43, wl_44, wl_45, wl_46, wl_47, wl_48, wl_57, wl_59, wl_60, wl_61, wl_62, wl_65, wl_90, wl_97, wl_99, wl_100, wl_121, wl_122, wl_140, wl_142, wl_143, wl_145, wl_147, wl_160, wl_161, wl_162, wl_242, wl_380, wl_400, wl_420, wl_820, wl_1340, wl_5480, wl_9999, true_and, and_true, true_or, or_true, if_true, if_false, and_self, or_self, false_and, and_false, false_or, or_false, not_true_eq_false, not_false_eq_true, Int.reduceEq, Int.reduceLT, Int.reduceLE, Int.reduceToNat, Int.reduceAdd, Int.reduceMul, Int.reduceSub, Int.reduceMod, Int.reduceDiv, Int.reduceNeg, Nat.reduceEqDiff, sm_rd_ok, sm_rd_ok2, sm_wt_ok, sm_cp_ok, Option.isSome_some, Option.getD_some, w_cont, Option.toList_some, Option.toList_none, List.cons_append, List.nil_append, kk_72 H, kk_73 H, Int.toNat_natCast]
  exact c2 Q
end PART
