theorem mkR_add {w h : Int} {T : Nat → Int} : ∀ (k l c : Nat) (st : mkT), mkR w h T (k + l) c st = mkR w h T l (c + k) (mkR w h T k c st) := by
  intro k
  induction k with
  | zero => intro l c st; rw [Nat.zero_add]; rfl
  | succ k ih =>
    intro l c st
    rw [show k + 1 + l = (k + l) + 1 by omega]
    simp only [mkR]
    rw [ih l (c + 1), show c + 1 + k = c + (k + 1) by omega]
theorem mkR_skip {w h : Int} {T : Nat → Int} : ∀ (k c : Nat) (st : mkT), (∀ j, c ≤ j → j < c + k → ¬ isC w h (j : Int) = true) → mkR w h T k c st = st := by
  intro k
  induction k with
  | zero => intro c st _; rfl
  | succ k ih =>
    intro c st hj
    simp only [mkR]
    have e : mk1 w h T c st = st := by
      unfold mk1
      rw [if_neg (fun h => hj c (by omega) (by omega) h.1)]
    rw [e]
    exact ih (c + 1) st (fun j h1 h2 => hj j (by omega) (by omega))
theorem mkR_wf2 {w h : Int} {T : Nat → Int} (hw : w ≤ 10) (hh : h ≤ 10) : ∀ (k c : Nat) (st : mkT), c + k ≤ 100 → wfM w h c st → wfM w h (c + k) (mkR w h T k c st) := by
  intro k
  induction k with
  | zero => intro c st hc hf; exact hf
  | succ k ih => intro c st hc hf; rw [show c + (k + 1) = c + 1 + k by omega]; exact ih (c + 1) _ (by omega) (mk1_wf (by omega) hw hh hf)
section CCOUNT
variable {d n z : Nat} {Rf : Nat → Nat → Option Nat} {K : Nat → Nat × Nat} {w h : Int} {T : Nat → Int} {Z : Nat → Nat → Int} {Q : Option sm_V → sm_S → Prop} {t : Nat} {th : Bool}
set_option maxHeartbeats 1000000 in
theorem c_sp1 (H : sm_sh Rf K) (hz : sm_zs Z) (hT : shT Rf K t th) (hw : Z 1 0 = w ∧ Z 1 1 = h) (hs : (2 ≤ w ∧ w ≤ 10) ∧ 2 ≤ h ∧ h ≤ 10) (ht : ∀ k, k < 242 → Z (t + 1) k = T k ∧ -1 ≤ T k ∧ T k ≤ 7) {f c : Int} {st : spT} (hf : wfS w h f st) (hf0 : 0 ≤ f ∧ f < 100) (hc : isC w h c = true) (hr : rSp Z 56 58 st) (k : Nat) (hk : k < 4) (l5 l9 l10 : Option sm_V) : ∃ Z' l9' l10', rSp Z' 56 58 (spS w h T f c (k : Int) st) ∧ (∀ a, a ≠ 56 → a ≠ 58 → Z' a = Z a) ∧ ∀ Q, sm_wp (d + 2) 2 61 [some (.inr (some 55)), some (.inr (some 1)), some (.inr (some t)), some (.inl f), some (.inl (st.2.2 : Int)), l5, some (.inl (c % 10)), some (.inl (c / 10)), some (.inl (k : Int)), l9, l10] [] (Z, Rf, K, n, z) Q = sm_wp (d + 2) 2 61 [some (.inr (some 55)), some (.inr (some 1)), some (.inr (some t)), some (.inl f), some (.inl ((spS w h T f c (k : Int) st).2.2 : Int)), l5, some (.inl (c % 10)), some (.inl (c / 10)), some (.inl ((k + 1 : Nat) : Int)), l9', l10'] [] (Z', Rf, K, n, z) Q := by
  have hsC : szC Z := by unfold szC; rw [hw.1, hw.2]; exact hs
  have hK1 : (K 1).1 = 1 := by rw [kk_1 H]
  have hcc := hc
  simp only [isC, decide_eq_true_eq] at hcc
  have hb := dXY_bd (k : Int)
  have hd := zDX hz (h := (k : Int)) (by omega)
  rw [Int.toNat_natCast] at hd
  have hnb := nxC_bd hs.1.2 hs.2.2 c (k : Int)
  have hyb := ybR_bd (x := c % 10) (y := c / 10) (s := (k : Int)) hs.1.2 hs.2.2 (by omega)
  have hty := ht (ybR (c % 10) (c / 10) (k : Int)).toNat (by omega)
  obtain ⟨_, k0, q0, _, _, k1, _, _, _, _⟩ := hT
  have hle := wfS_le hf
  refine ⟨if opn w h T c (k : Int) = true ∧ st.1 (nxC w h c (k : Int)).toNat = -1 then sm_u (sm_u Z 56 (nxC w h c (k : Int)).toNat f) 58 st.2.2 (nxC w h c (k : Int)) else Z, some (.inl (nxC w h c (k : Int))), some (.inl (ybR (c % 10) (c / 10) (k : Int))), ?_, ?_, ?_⟩
  · unfold spS
    split
    · exact rSp_upd (by decide) hr
    · exact hr
  · intro a g1 g2
    split
    · rw [sm_u_row g2, sm_u_row g1]
    · rfl
  intro Q
  rw [b2_61, wr_id (by omega) (by omega), if_neg (by omega), b2_67, ks_0 H, ks_1 H, kk_1 H]
  simp (disch := omega) only [wr_id, wr_b2i, wr_wr, b2i_eq0, b2i_eq1, b2i_01, sm_rem_eq, sm_div_eq, wl_m2, wl_m1, wl_0, wl_1, wl_2, wl_3, wl_4, wl_5, wl_6, wl_7, wl_8, wl_9, wl_10, wl_12, wl_13, wl_14, wl_16, wl_20, wl_21, wl_22, wl_23, wl_32, wl_36, wl_40, wl_41, wl_42, wl_43, wl_44, wl_45, wl_46, wl_47, wl_48, wl_57, wl_59, wl_60, wl_61, wl_62, wl_65, wl_90, wl_97, wl_99, wl_100, wl_121, wl_122, wl_140, wl_142, wl_143, wl_145, wl_147, wl_160, wl_161, wl_162, wl_242, wl_380, wl_400, wl_420, wl_820, wl_1340, wl_5480, wl_9999, true_and, and_true, true_or, or_true, if_true, if_false, and_self, or_self, false_and, and_false, false_or, or_false, not_true_eq_false, not_false_eq_true, Int.reduceEq, Int.reduceLT, Int.reduceLE, Int.reduceToNat, Int.reduceAdd, Int.reduceMul, Int.reduceSub, Int.reduceMod, Int.reduceDiv, Int.reduceNeg, Nat.reduceEqDiff, sm_rd_ok, sm_rd_ok2, sm_wt_ok, sm_cp_ok, Option.isSome_some, Option.getD_some, w_cont, Option.toList_some, Option.toList_none, List.cons_append, List.nil_append, Int.toNat_natCast, hd.1, hd.2]
  rw [c_cellAt hK1 (by omega) (by omega) (by omega) (by omega), w_cont, hw.1, hw.2]
  simp only [wr_id, wr_b2i, wr_wr, b2i_eq0, b2i_eq1, b2i_01, sm_rem_eq, sm_div_eq, wl_m2, wl_m1, wl_0, wl_1, wl_2, wl_3, wl_4, wl_5, wl_6, wl_7, wl_8, wl_9, wl_10, wl_12, wl_13, wl_14, wl_16, wl_20, wl_21, wl_22, wl_23, wl_32, wl_36, wl_40, wl_41, wl_42, wl_43, wl_44, wl_45, wl_46, wl_47, wl_48, wl_57, wl_59, wl_60, wl_61, wl_62, wl_65, wl_90, wl_97, wl_99, wl_100, wl_121, wl_122, wl_140, wl_142, wl_143, wl_145, wl_147, wl_160, wl_161, wl_162, wl_242, wl_380, wl_400, wl_420, wl_820, wl_1340, wl_5480, wl_9999, true_and, and_true, true_or, or_true, if_true, if_false, and_self, or_self, false_and, and_false, false_or, or_false, not_true_eq_false, not_false_eq_true, Int.reduceEq, Int.reduceLT, Int.reduceLE, Int.reduceToNat, Int.reduceAdd, Int.reduceMul, Int.reduceSub, Int.reduceMod, Int.reduceDiv, Int.reduceNeg, Nat.reduceEqDiff, sm_rd_ok, sm_rd_ok2, sm_wt_ok, sm_cp_ok, Option.isSome_some, Option.getD_some, w_cont, Option.toList_some, Option.toList_none, List.cons_append, List.nil_append]
  rw [b2_89, kk_1 H, c_yardBeside H hz hsC (by omega) (by omega) (by omega), w_cont, hw.1, hw.2, yB_ybR (by omega)]
  simp only [wr_id, wr_b2i, wr_wr, b2i_eq0, b2i_eq1, b2i_01, sm_rem_eq, sm_div_eq, wl_m2, wl_m1, wl_0, wl_1, wl_2, wl_3, wl_4, wl_5, wl_6, wl_7, wl_8, wl_9, wl_10, wl_12, wl_13, wl_14, wl_16, wl_20, wl_21, wl_22, wl_23, wl_32, wl_36, wl_40, wl_41, wl_42, wl_43, wl_44, wl_45, wl_46, wl_47, wl_48, wl_57, wl_59, wl_60, wl_61, wl_62, wl_65, wl_90, wl_97, wl_99, wl_100, wl_121, wl_122, wl_140, wl_142, wl_143, wl_145, wl_147, wl_160, wl_161, wl_162, wl_242, wl_380, wl_400, wl_420, wl_820, wl_1340, wl_5480, wl_9999, true_and, and_true, true_or, or_true, if_true, if_false, and_self, or_self, false_and, and_false, false_or, or_false, not_true_eq_false, not_false_eq_true, Int.reduceEq, Int.reduceLT, Int.reduceLE, Int.reduceToNat, Int.reduceAdd, Int.reduceMul, Int.reduceSub, Int.reduceMod, Int.reduceDiv, Int.reduceNeg, Nat.reduceEqDiff, sm_rd_ok, sm_rd_ok2, sm_wt_ok, sm_cp_ok, Option.isSome_some, Option.getD_some, w_cont, Option.toList_some, Option.toList_none, List.cons_append, List.nil_append]
  show sm_wp (d + 2) 2 101 [_, _, _, _, _, _, _, _, _, some (.inl (nxC w h c (k : Int))), _] _ _ Q = _
  rw [b2_101, wr_id (by omega) (by omega)]
  have e3 : ((k + 1 : Nat) : Int) = (k : Int) + 1 := by omega
  unfold spS
  by_cases h1 : nxC w h c (k : Int) = -1
  · have ho : ¬ opn w h T c (k : Int) = true := by simp only [opn, decide_eq_true_eq]; exact fun h => h.1 h1
    rw [if_pos h1, if_neg (fun h => ho h.1), if_neg (fun h => ho h.1), b2_164, e3]
  · rw [if_neg h1, b2_109, wr_id (by omega) (by omega), if_neg (by omega), b2_115, kk_55 H, rr_55_0 H]
    simp (disch := omega) only [wr_id, wr_b2i, wr_wr, b2i_eq0, b2i_eq1, b2i_01, sm_rem_eq, sm_div_eq, wl_m2, wl_m1, wl_0, wl_1, wl_2, wl_3, wl_4, wl_5, wl_6, wl_7, wl_8, wl_9, wl_10, wl_12, wl_13, wl_14, wl_16, wl_20, wl_21, wl_22, wl_23, wl_32, wl_36, wl_40, wl_41, wl_42, wl_43, wl_44, wl_45, wl_46, wl_47, wl_48, wl_57, wl_59, wl_60, wl_61, wl_62, wl_65, wl_90, wl_97, wl_99, wl_100, wl_121, wl_122, wl_140, wl_142, wl_143, wl_145, wl_147, wl_160, wl_161, wl_162, wl_242, wl_380, wl_400, wl_420, wl_820, wl_1340, wl_5480, wl_9999, true_and, and_true, true_or, or_true, if_true, if_false, and_self, or_self, false_and, and_false, false_or, or_false, not_true_eq_false, not_false_eq_true, Int.reduceEq, Int.reduceLT, Int.reduceLE, Int.reduceToNat, Int.reduceAdd, Int.reduceMul, Int.reduceSub, Int.reduceMod, Int.reduceDiv, Int.reduceNeg, Nat.reduceEqDiff, sm_rd_ok, sm_rd_ok2, sm_wt_ok, sm_cp_ok, Option.isSome_some, Option.getD_some, w_cont, Option.toList_some, Option.toList_none, List.cons_append, List.nil_append, kk_56 H]
    have hnm := hf.2.1 (nxC w h c (k : Int)).toNat (by omega)
    rw [hr.1 _ (by omega), wr_id (by omega) (by omega)]
    by_cases h2 : st.1 (nxC w h c (k : Int)).toNat = -1
    · have hlt := spS_lt hf hs.1.2 hs.2.2 h1 h2
      rw [if_pos h2, b2_126, k0, q0]
      simp (disch := omega) only [wr_id, wr_b2i, wr_wr, b2i_eq0, b2i_eq1, b2i_01, sm_rem_eq, sm_div_eq, wl_m2, wl_m1, wl_0, wl_1, wl_2, wl_3, wl_4, wl_5, wl_6, wl_7, wl_8, wl_9, wl_10, wl_12, wl_13, wl_14, wl_16, wl_20, wl_21, wl_22, wl_23, wl_32, wl_36, wl_40, wl_41, wl_42, wl_43, wl_44, wl_45, wl_46, wl_47, wl_48, wl_57, wl_59, wl_60, wl_61, wl_62, wl_65, wl_90, wl_97, wl_99, wl_100, wl_121, wl_122, wl_140, wl_142, wl_143, wl_145, wl_147, wl_160, wl_161, wl_162, wl_242, wl_380, wl_400, wl_420, wl_820, wl_1340, wl_5480, wl_9999, true_and, and_true, true_or, or_true, if_true, if_false, and_self, or_self, false_and, and_false, false_or, or_false, not_true_eq_false, not_false_eq_true, Int.reduceEq, Int.reduceLT, Int.reduceLE, Int.reduceToNat, Int.reduceAdd, Int.reduceMul, Int.reduceSub, Int.reduceMod, Int.reduceDiv, Int.reduceNeg, Nat.reduceEqDiff, sm_rd_ok, sm_rd_ok2, sm_wt_ok, sm_cp_ok, Option.isSome_some, Option.getD_some, w_cont, Option.toList_some, Option.toList_none, List.cons_append, List.nil_append, k1]
      rw [hty.1]
      by_cases h3 : T (ybR (c % 10) (c / 10) (k : Int)).toNat = -1
      · have ho : opn w h T c (k : Int) = true := by simp only [opn, decide_eq_true_eq]; exact ⟨h1, h3⟩
        rw [if_pos h3, if_pos ⟨ho, h2⟩, if_pos ⟨ho, h2⟩, b2_137, wr_id (by omega) (by omega), if_neg (by omega), b2_144, kk_55 H, rr_55_0 H, rr_55_2 H]
        simp (disch := omega) only [wr_id, wr_b2i, wr_wr, b2i_eq0, b2i_eq1, b2i_01, sm_rem_eq, sm_div_eq, wl_m2, wl_m1, wl_0, wl_1, wl_2, wl_3, wl_4, wl_5, wl_6, wl_7, wl_8, wl_9, wl_10, wl_12, wl_13, wl_14, wl_16, wl_20, wl_21, wl_22, wl_23, wl_32, wl_36, wl_40, wl_41, wl_42, wl_43, wl_44, wl_45, wl_46, wl_47, wl_48, wl_57, wl_59, wl_60, wl_61, wl_62, wl_65, wl_90, wl_97, wl_99, wl_100, wl_121, wl_122, wl_140, wl_142, wl_143, wl_145, wl_147, wl_160, wl_161, wl_162, wl_242, wl_380, wl_400, wl_420, wl_820, wl_1340, wl_5480, wl_9999, true_and, and_true, true_or, or_true, if_true, if_false, and_self, or_self, false_and, and_false, false_or, or_false, not_true_eq_false, not_false_eq_true, Int.reduceEq, Int.reduceLT, Int.reduceLE, Int.reduceToNat, Int.reduceAdd, Int.reduceMul, Int.reduceSub, Int.reduceMod, Int.reduceDiv, Int.reduceNeg, Nat.reduceEqDiff, sm_rd_ok, sm_rd_ok2, sm_wt_ok, sm_cp_ok, Option.isSome_some, Option.getD_some, w_cont, Option.toList_some, Option.toList_none, List.cons_append, List.nil_append, kk_56 H, kk_58 H, Int.toNat_natCast]
        rw [b2_164, e3]
        rfl
      · have ho : ¬ opn w h T c (k : Int) = true := by simp only [opn, decide_eq_true_eq]; exact fun h => h3 h.2
        rw [if_neg h3, if_neg (fun h => ho h.1), if_neg (fun h => ho h.1), b2_164, e3]
    · rw [if_neg h2, if_neg (fun h => h2 h.2), if_neg (fun h => h2 h.2), b2_164, e3]
theorem c_spN (H : sm_sh Rf K) (hz : sm_zs Z) (hT : shT Rf K t th) (hw : Z 1 0 = w ∧ Z 1 1 = h) (hs : (2 ≤ w ∧ w ≤ 10) ∧ 2 ≤ h ∧ h ≤ 10) (ht : ∀ k, k < 242 → Z (t + 1) k = T k ∧ -1 ≤ T k ∧ T k ≤ 7) {f c : Int} {st : spT} (hf : wfS w h f st) (hf0 : 0 ≤ f ∧ f < 100) (hc : isC w h c = true) (hr : rSp Z 56 58 st) (l5 l9 l10 : Option sm_V) : ∃ Z' l9' l10', rSp Z' 56 58 (spN w h T f c st) ∧ (∀ a, a ≠ 56 → a ≠ 58 → Z' a = Z a) ∧ ∀ Q, sm_wp (d + 2) 2 61 [some (.inr (some 55)), some (.inr (some 1)), some (.inr (some t)), some (.inl f), some (.inl (st.2.2 : Int)), l5, some (.inl (c % 10)), some (.inl (c / 10)), some (.inl 0), l9, l10] [] (Z, Rf, K, n, z) Q = sm_wp (d + 2) 2 170 [some (.inr (some 55)), some (.inr (some 1)), some (.inr (some t)), some (.inl f), some (.inl ((spN w h T f c st).2.2 : Int)), l5, some (.inl (c % 10)), some (.inl (c / 10)), some (.inl 4), l9', l10'] [] (Z', Rf, K, n, z) Q := by
  have htt : t = 21 ∨ t = 64 := by rcases hT.1 with h | h <;> omega
  have step : ∀ (Y : Nat → Nat → Int), (∀ a, a ≠ 56 → a ≠ 58 → Y a = Z a) → sm_zs Y ∧ (Y 1 0 = w ∧ Y 1 1 = h) ∧ ∀ k, k < 242 → Y (t + 1) k = T k ∧ -1 ≤ T k ∧ T k ≤ 7 := by
    intro Y hY
    refine ⟨zs_fr hz (fun a ha => hY a (by omega) (by omega)), by rw [hY 1 (by decide) (by decide)]; exact hw, fun k hk => ?_⟩
    rw [hY (t + 1) (by omega) (by omega)]
    exact ht k hk
  obtain ⟨Z0, la, ma, a0, b0, c0⟩ := c_sp1 (d := d) (n := n) (z := z) H hz hT hw hs ht hf hf0 hc hr 0 (by omega) l5 l9 l10
  have f0 := (spS_wf (T := T) hf hf0 hs.1.2 hs.2.2 c ((0 : Nat) : Int)).1
  obtain ⟨s1, s2, s3⟩ := step Z0 b0
  obtain ⟨Z1, lb, mb, a1, b1, c1⟩ := c_sp1 (d := d) (n := n) (z := z) H s1 hT s2 hs s3 f0 hf0 hc a0 1 (by omega) l5 la ma
  have f1 := (spS_wf (T := T) f0 hf0 hs.1.2 hs.2.2 c ((1 : Nat) : Int)).1
  have b1' : ∀ a, a ≠ 56 → a ≠ 58 → Z1 a = Z a := fun a g1 g2 => by rw [b1 a g1 g2, b0 a g1 g2]
  obtain ⟨s1, s2, s3⟩ := step Z1 b1'
  obtain ⟨Z2, lc, mc, a2, b2, c2⟩ := c_sp1 (d := d) (n := n) (z := z) H s1 hT s2 hs s3 f1 hf0 hc a1 2 (by omega) l5 lb mb
  have f2 := (spS_wf (T := T) f1 hf0 hs.1.2 hs.2.2 c ((2 : Nat) : Int)).1
  have b2' : ∀ a, a ≠ 56 → a ≠ 58 → Z2 a = Z a := fun a g1 g2 => by rw [b2 a g1 g2, b1' a g1 g2]
  obtain ⟨s1, s2, s3⟩ := step Z2 b2'
  obtain ⟨Z3, ld, md, a3, b3, c3⟩ := c_sp1 (d := d) (n := n) (z := z) H s1 hT s2 hs s3 f2 hf0 hc a2 3 (by omega) l5 lc mc
  refine ⟨Z3, ld, md, a3, fun a g1 g2 => by rw [b3 a g1 g2, b2' a g1 g2], fun Q => ?_⟩
  refine (c0 Q).trans ((c1 Q).trans ((c2 Q).trans ((c3 Q).trans ?_)))
  rw [b2_61, wr_id (by omega) (by omega), if_pos (by omega)]
  rfl
theorem c_sp_loop (H : sm_sh Rf K) (hT : shT Rf K t th) (hs : (2 ≤ w ∧ w ≤ 10) ∧ 2 ≤ h ∧ h ≤ 10) {f : Int} (hf0 : 0 ≤ f ∧ f < 100) : ∀ (k i : Nat) (st : spT) (Z : Nat → Nat → Int) (l6 l7 l8 l9 l10 : Option sm_V), i + k = 100 → sm_zs Z → (Z 1 0 = w ∧ Z 1 1 = h) → (∀ k, k < 242 → Z (t + 1) k = T k ∧ -1 ≤ T k ∧ T k ≤ 7) → wfS w h f st → rSp Z 56 58 st → ∃ Z', rSp Z' 56 58 (spR w h T f k i st) ∧ Z' 57 = mU (Z 57) f.toNat ((spR w h T f k i st).2.2 : Int) ∧ (∀ a, a ≠ 56 → a ≠ 57 → a ≠ 58 → Z' a = Z a) ∧ ∀ Q, sm_wp (d + 2) 2 20 [some (.inr (some 55)), some (.inr (some 1)), some (.inr (some t)), some (.inl f), some (.inl (st.2.2 : Int)), some (.inl (i : Int)), l6, l7, l8, l9, l10] [] (Z, Rf, K, n, z) Q = Q none (Z', Rf, K, n, z) := by
  have htt : t = 21 ∨ t = 64 := by rcases hT.1 with h | h <;> omega
  have fin : ∀ (i : Nat) (st : spT) (Z : Nat → Nat → Int) (l5 l6 l7 l8 l9 l10 : Option sm_V), rSp Z 56 58 st → ∃ Z', rSp Z' 56 58 st ∧ Z' 57 = mU (Z 57) f.toNat (st.2.2 : Int) ∧ (∀ a, a ≠ 56 → a ≠ 57 → a ≠ 58 → Z' a = Z a) ∧ ∀ Q, sm_wp (d + 2) 2 176 [some (.inr (some 55)), some (.inr (some 1)), some (.inr (some t)), some (.inl f), some (.inl (st.2.2 : Int)), l5, l6, l7, l8, l9, l10] [] (Z, Rf, K, n, z) Q = Q none (Z', Rf, K, n, z) := by
    intro i st Z l5 l6 l7 l8 l9 l10 hr
    refine ⟨sm_u Z 57 f.toNat (st.2.2 : Int), ⟨fun c hc => by rw [sm_u_ne (by decide)]; exact hr.1 c hc, fun i hi => by rw [sm_u_ne (by decide)]; exact hr.2 i hi⟩, sm_u_mU, fun a _ h2 _ => sm_u_row h2, fun Q => ?_⟩
    rw [b2_176, kk_55 H, rr_55_1 H]
    simp (disch := omega) only [wr_id, wr_b2i, wr_wr, b2i_eq0, b2i_eq1, b2i_01, sm_rem_eq, sm_div_eq, wl_m2, wl_m1, wl_0, wl_1, wl_2, wl_3, wl_4, wl_5, wl_6, wl_7, wl_8, wl_9, wl_10, wl_12, wl_13, wl_14, wl_16, wl_20, wl_21, wl_22, wl_23, wl_32, wl_36, wl_40, wl_41, wl_42, wl_43, wl_44, wl_45, wl_46, wl_47, wl_48, wl_57, wl_59, wl_60, wl_61, wl_62, wl_65, wl_90, wl_97, wl_99, wl_100, wl_121, wl_122, wl_140, wl_142, wl_143, wl_145, wl_147, wl_160, wl_161, wl_162, wl_242, wl_380, wl_400, wl_420, wl_820, wl_1340, wl_5480, wl_9999, true_and, and_true, true_or, or_true, if_true, if_false, and_self, or_self, false_and, and_false, false_or, or_false, not_true_eq_false, not_false_eq_true, Int.reduceEq, Int.reduceLT, Int.reduceLE, Int.reduceToNat, Int.reduceAdd, Int.reduceMul, Int.reduceSub, Int.reduceMod, Int.reduceDiv, Int.reduceNeg, Nat.reduceEqDiff, sm_rd_ok, sm_rd_ok2, sm_wt_ok, sm_cp_ok, Option.isSome_some, Option.getD_some, w_cont, Option.toList_some, Option.toList_none, List.cons_append, List.nil_append, kk_57 H]
  intro k
  induction k with
  | zero =>
    intro i st Z l6 l7 l8 l9 l10 hik hz hw ht hf hr
    have hle := wfS_le hf
    obtain ⟨Z', e1, e2, e3, e4⟩ := fin i st Z (some (.inl (i : Int))) l6 l7 l8 l9 l10 hr
    refine ⟨Z', e1, e2, e3, fun Q => ?_⟩
    rw [b2_20, wr_id (by omega) (by omega), wr_id (by omega) (by omega), if_pos (by omega), e4]
  | succ k ih =>
    intro i st Z l6 l7 l8 l9 l10 hik hz hw ht hf hr
    have hle := wfS_le hf
    simp only [spR]
    by_cases hi : i < st.2.2
    · rw [if_pos hi]
      have hc := hf.1 i hi
      have hcc := hc
      simp only [isC, decide_eq_true_eq] at hcc
      obtain ⟨Z1, l9a, l10a, g1, g2, g3⟩ := c_spN (d := d) (n := n) (z := z) H hz hT hw hs ht hf hf0 hc hr (some (.inl (i : Int))) l9 l10
      obtain ⟨f1, _⟩ := spN_wf (T := T) hf hf0 hs.1.2 hs.2.2 (st.2.1 i)
      obtain ⟨Z2, e1, e2, e3, e4⟩ := ih (i + 1) _ Z1 (some (.inl (st.2.1 i % 10))) (some (.inl (st.2.1 i / 10))) (some (.inl 4)) l9a l10a (by omega) (zs_fr hz (fun a ha => g2 a (by omega) (by omega))) (by rw [g2 1 (by decide) (by decide)]; exact hw) (fun k hk => by rw [g2 (t + 1) (by omega) (by omega)]; exact ht k hk) f1 g1
      refine ⟨Z2, e1, by rw [e2, g2 57 (by decide) (by decide)], fun a h1 h2 h3 => by rw [e3 a h1 h2 h3, g2 a h1 h3], fun Q => ?_⟩
      rw [b2_20, wr_id (by omega) (by omega), wr_id (by omega) (by omega), if_neg (by omega), b2_27, wr_id (by omega) (by omega), if_neg (by omega), b2_34, kk_55 H, rr_55_2 H]
      simp (disch := omega) only [wr_id, wr_b2i, wr_wr, b2i_eq0, b2i_eq1, b2i_01, sm_rem_eq, sm_div_eq, wl_m2, wl_m1, wl_0, wl_1, wl_2, wl_3, wl_4, wl_5, wl_6, wl_7, wl_8, wl_9, wl_10, wl_12, wl_13, wl_14, wl_16, wl_20, wl_21, wl_22, wl_23, wl_32, wl_36, wl_40, wl_41, wl_42, wl_43, wl_44, wl_45, wl_46, wl_47, wl_48, wl_57, wl_59, wl_60, wl_61, wl_62, wl_65, wl_90, wl_97, wl_99, wl_100, wl_121, wl_122, wl_140, wl_142, wl_143, wl_145, wl_147, wl_160, wl_161, wl_162, wl_242, wl_380, wl_400, wl_420, wl_820, wl_1340, wl_5480, wl_9999, true_and, and_true, true_or, or_true, if_true, if_false, and_self, or_self, false_and, and_false, false_or, or_false, not_true_eq_false, not_false_eq_true, Int.reduceEq, Int.reduceLT, Int.reduceLE, Int.reduceToNat, Int.reduceAdd, Int.reduceMul, Int.reduceSub, Int.reduceMod, Int.reduceDiv, Int.reduceNeg, Nat.reduceEqDiff, sm_rd_ok, sm_rd_ok2, sm_wt_ok, sm_cp_ok, Option.isSome_some, Option.getD_some, w_cont, Option.toList_some, Option.toList_none, List.cons_append, List.nil_append, kk_58 H, Int.toNat_natCast, hr.2 i hi]
      rw [g3, b2_170, show (i : Int) + 1 = ((i + 1 : Nat) : Int) by omega, e4]
    · rw [if_neg hi]
      obtain ⟨Z', e1, e2, e3, e4⟩ := fin i st Z (some (.inl (i : Int))) l6 l7 l8 l9 l10 hr
      refine ⟨Z', e1, e2, e3, fun Q => ?_⟩
      rw [b2_20, wr_id (by omega) (by omega), wr_id (by omega) (by omega), if_pos (by omega), e4]
theorem c_spreadFrom (H : sm_sh Rf K) (hz : sm_zs Z) (hT : shT Rf K t th) (hw : Z 1 0 = w ∧ Z 1 1 = h) (hs : (2 ≤ w ∧ w ≤ 10) ∧ 2 ≤ h ∧ h ≤ 10) (ht : ∀ k, k < 242 → Z (t + 1) k = T k ∧ -1 ≤ T k ∧ T k ≤ 7) {c : Nat} {st : mkT} (hc : c < 100) (hf : wfM w h c st) (hi : isC w h (c : Int) = true) (h1 : st.1 c = -1) (hr : ∀ k, k < 100 → Z 56 k = st.1 k) : ∃ Z', (∀ k, k < 100 → Z' 56 k = (spF w h T c st.1).1 k) ∧ Z' 57 = mU (Z 57) c ((spF w h T c st.1).2.2 : Int) ∧ (∀ a, a ≠ 56 → a ≠ 57 → a ≠ 58 → Z' a = Z a) ∧ ∀ Q, sm_call (d + 2) 2 [.inr (some 55), .inr (some 1), .inr (some t), .inl (c : Int)] (Z, Rf, K, n, z) Q = Q none (Z', Rf, K, n, z) := by
  have htt : t = 21 ∨ t = 64 := by rcases hT.1 with h | h <;> omega
  obtain ⟨Z', e1, e2, e3, e4⟩ := c_sp_loop (d := d) (n := n) (z := z) (w := w) (h := h) (T := T) H hT hs (f := (c : Int)) (by omega) 100 0 (mU st.1 c (c : Int), fun _ => (c : Int), 1) (sm_u (sm_u Z 56 c (c : Int)) 58 0 (c : Int)) none none none none none (by omega) (zs_fr hz (fun a ha => by rw [sm_u_row (by omega), sm_u_row (by omega)])) (by rw [sm_u_row (by decide), sm_u_row (by decide)]; exact hw) (fun k hk => by rw [sm_u_ne (by omega), sm_u_ne (by omega)]; exact ht k hk) (wfS_first hf hc hi h1) ⟨fun k hk => by
      rw [sm_u_ne (by decide), sm_u_eq]
      simp only [mU]
      split
      · rfl
      · exact hr k hk, fun i hi => by
      rw [sm_u_eq]
      simp only at hi
      rw [if_pos (by omega)]⟩
  refine ⟨Z', e1.1, ?_, fun a g1 g2 g3 => by rw [e3 a g1 g2 g3, sm_u_row g3, sm_u_row g1], fun Q => ?_⟩
  · rw [e2, sm_u_row (by decide), sm_u_row (by decide), Int.toNat_natCast]
    rfl
  · rw [ce2, b2_0, kk_55 H, rr_55_0 H, rr_55_2 H]
    simp (disch := omega) only [wr_id, wr_b2i, wr_wr, b2i_eq0, b2i_eq1, b2i_01, sm_rem_eq, sm_div_eq, wl_m2, wl_m1, wl_0, wl_1, wl_2, wl_3, wl_4, wl_5, wl_6, wl_7, wl_8, wl_9, wl_10, wl_12, wl_13, wl_14, wl_16, wl_20, wl_21, wl_22, wl_23, wl_32, wl_36, wl_40, wl_41, wl_42, wl_43, wl_44, wl_45, wl_46, wl_47, wl_48, wl_57, wl_59, wl_60, wl_61, wl_62, wl_65, wl_90, wl_97, wl_99, wl_100, wl_121, wl_122, wl_140, wl_142, wl_143, wl_145, wl_147, wl_160, wl_161, wl_162, wl_242, wl_380, wl_400, wl_420, wl_820, wl_1340, wl_5480, wl_9999, true_and, and_true, true_or, or_true, if_true, if_false, and_self, or_self, false_and, and_false, false_or, or_false, not_true_eq_false, not_false_eq_true, Int.reduceEq, Int.reduceLT, Int.reduceLE, Int.reduceToNat, Int.reduceAdd, Int.reduceMul, Int.reduceSub, Int.reduceMod, Int.reduceDiv, Int.reduceNeg, Nat.reduceEqDiff, sm_rd_ok, sm_rd_ok2, sm_wt_ok, sm_cp_ok, Option.isSome_some, Option.getD_some, w_cont, Option.toList_some, Option.toList_none, List.cons_append, List.nil_append, kk_56 H, kk_58 H, Int.toNat_natCast]
    exact e4 Q
/-- the class's rows of counties -/
def rMk (Z : Nat → Nat → Int) (st : mkT) : Prop := (∀ k, k < 100 → Z 56 k = st.1 k) ∧ (∀ k, k < 100 → ¬ st.1 k = -1 → Z 57 (st.1 k).toNat = st.2.1 (st.1 k).toNat) ∧ Z 55 3 = st.2.2
def frM (Z Z' : Nat → Nat → Int) : Prop := (∀ a, a ≠ 55 → a ≠ 56 → a ≠ 57 → a ≠ 58 → Z' a = Z a) ∧ ∀ j, j ≠ 3 → Z' 55 j = Z 55 j
theorem frM_refl (Z : Nat → Nat → Int) : frM Z Z := ⟨fun _ _ _ _ _ => rfl, fun _ _ => rfl⟩
theorem frM_trans {Z Z' Z'' : Nat → Nat → Int} (h1 : frM Z Z') (h2 : frM Z' Z'') : frM Z Z'' := ⟨fun a b1 b2 b3 b4 => by rw [h2.1 a b1 b2 b3 b4, h1.1 a b1 b2 b3 b4], fun j hj => by rw [h2.2 j hj, h1.2 j hj]⟩
/-- what mark needs of the rest -/
def mkP (Z : Nat → Nat → Int) (w h : Int) (T : Nat → Int) (t : Nat) : Prop := sm_zs Z ∧ (Z 1 0 = w ∧ Z 1 1 = h) ∧ ∀ k, k < 242 → Z (t + 1) k = T k ∧ -1 ≤ T k ∧ T k ≤ 7
theorem mkP_fr {Z Z' : Nat → Nat → Int} (htt : t = 21 ∨ t = 64) (hf : frM Z Z') (hp : mkP Z w h T t) : mkP Z' w h T t := by
  refine ⟨zs_fr hp.1 (fun a ha => hf.1 a (by omega) (by omega) (by omega) (by omega)), by rw [hf.1 1 (by decide) (by decide) (by decide) (by decide)]; exact hp.2.1, fun k hk => ?_⟩
  rw [hf.1 (t + 1) (by omega) (by omega) (by omega) (by omega)]
  exact hp.2.2 k hk
theorem c_mk1 (H : sm_sh Rf K) (hT : shT Rf K t th) (hs : (2 ≤ w ∧ w ≤ 10) ∧ 2 ≤ h ∧ h ≤ 10) (hp : mkP Z w h T t) (x y : Nat) (hx : (x : Int) < w) (hy : (y : Int) < h) {st : mkT} (hf : wfM w h (10 * y + x) st) (hr : rMk Z st) (l5 : Option sm_V) : ∃ Z' l5', rMk Z' (mk1 w h T (10 * y + x) st) ∧ frM Z Z' ∧ ∀ Q, sm_wp (d + 3) 1 26 [some (.inr (some 55)), some (.inr (some 1)), some (.inr (some t)), some (.inl (y : Int)), some (.inl (x : Int)), l5] [] (Z, Rf, K, n, z) Q = sm_wp (d + 3) 1 26 [some (.inr (some 55)), some (.inr (some 1)), some (.inr (some t)), some (.inl (y : Int)), some (.inl ((x + 1 : Nat) : Int)), l5'] [] (Z', Rf, K, n, z) Q := by
  have htt : t = 21 ∨ t = 64 := by rcases hT.1 with h | h <;> omega
  obtain ⟨hz, hw, ht⟩ := hp
  have hi : isC w h ((10 * y + x : Nat) : Int) = true := by simp only [isC, decide_eq_true_eq]; omega
  have hn := hf.1 (10 * y + x) (by omega)
  have ec : (y : Int) * 10 + (x : Int) = ((10 * y + x : Nat) : Int) := by omega
  have head : ∀ Q, sm_wp (d + 3) 1 26 [some (.inr (some 55)), some (.inr (some 1)), some (.inr (some t)), some (.inl (y : Int)), some (.inl (x : Int)), l5] [] (Z, Rf, K, n, z) Q = if st.1 (10 * y + x) = -1 then sm_wp (d + 3) 1 55 [some (.inr (some 55)), some (.inr (some 1)), some (.inr (some t)), some (.inl (y : Int)), some (.inl (x : Int)), some (.inl ((10 * y + x : Nat) : Int))] [] (Z, Rf, K, n, z) Q else sm_wp (d + 3) 1 73 [some (.inr (some 55)), some (.inr (some 1)), some (.inr (some t)), some (.inl (y : Int)), some (.inl (x : Int)), some (.inl ((10 * y + x : Nat) : Int))] [] (Z, Rf, K, n, z) Q := by
    intro Q
    rw [b1_26, kk_1 H, hw.1, wr_id (by omega) (by omega), wr_id (by omega) (by omega), if_neg (by omega)]
    simp only [true_and]
    rw [b1_35, kk_55 H, rr_55_0 H, ec]
    simp (disch := omega) only [wr_id, wr_b2i, wr_wr, b2i_eq0, b2i_eq1, b2i_01, sm_rem_eq, sm_div_eq, wl_m2, wl_m1, wl_0, wl_1, wl_2, wl_3, wl_4, wl_5, wl_6, wl_7, wl_8, wl_9, wl_10, wl_12, wl_13, wl_14, wl_16, wl_20, wl_21, wl_22, wl_23, wl_32, wl_36, wl_40, wl_41, wl_42, wl_43, wl_44, wl_45, wl_46, wl_47, wl_48, wl_57, wl_59, wl_60, wl_61, wl_62, wl_65, wl_90, wl_97, wl_99, wl_100, wl_121, wl_122, wl_140, wl_142, wl_143, wl_145, wl_147, wl_160, wl_161, wl_162, wl_242, wl_380, wl_400, wl_420, wl_820, wl_1340, wl_5480, wl_9999, true_and, and_true, true_or, or_true, if_true, if_false, and_self, or_self, false_and, and_false, false_or, or_false, not_true_eq_false, not_false_eq_true, Int.reduceEq, Int.reduceLT, Int.reduceLE, Int.reduceToNat, Int.reduceAdd, Int.reduceMul, Int.reduceSub, Int.reduceMod, Int.reduceDiv, Int.reduceNeg, Nat.reduceEqDiff, sm_rd_ok, sm_rd_ok2, sm_wt_ok, sm_cp_ok, Option.isSome_some, Option.getD_some, w_cont, Option.toList_some, Option.toList_none, List.cons_append, List.nil_append, kk_56 H, Int.toNat_natCast]
    rw [hr.1 _ (by omega), wr_id (by omega) (by omega)]
  unfold mk1
  by_cases h1 : st.1 (10 * y + x) = -1
  · rw [if_pos ⟨hi, h1⟩]
    obtain ⟨Z1, g1, g2, g3, g4⟩ := c_spreadFrom (d := d) (n := n) (z := z) H hz hT hw hs ht (c := 10 * y + x) (by omega) hf hi h1 hr.1
    have hwf := mk1_wf (T := T) (c := 10 * y + x) (by omega) hs.1.2 hs.2.2 hf
    have e55 : Z1 55 = Z 55 := g3 55 (by decide) (by decide) (by decide)
    refine ⟨sm_u Z1 55 3 (Z1 55 3 + 1), some (.inl ((10 * y + x : Nat) : Int)), ⟨fun k hk => ?_, fun k hk hne => ?_, ?_⟩, ⟨fun a b1 b2 b3 b4 => by rw [sm_u_row b1, g3 a b2 b3 b4], fun j hj => by rw [sm_u_eq, if_neg hj, e55]⟩, fun Q => ?_⟩
    · rw [sm_u_ne (by decide)]; exact g1 k hk
    · simp only at hne ⊢
      rw [sm_u_ne (by decide), g2]
      simp only [mU]
      split
      · rfl
      · rename_i hk2
        have hnm := spR_nm (w := w) (h := h) (T := T) (f := ((10 * y + x : Nat) : Int)) 100 0 (mU st.1 (10 * y + x) ((10 * y + x : Nat) : Int), fun _ => ((10 * y + x : Nat) : Int), 1) k
        have e2 : (spF w h T (10 * y + x) st.1).1 k = st.1 k := by
          rcases hnm with e | e
          · unfold spF
            rw [e]
            simp only [mU]
            split
            · exfalso
              apply hk2
              unfold spF
              rw [e]
              simp only [mU]
              rw [if_pos (by assumption)]
              omega
            · rfl
          · exfalso
            apply hk2
            unfold spF
            rw [e]
            omega
        rw [e2] at hne ⊢
        exact hr.2.1 k hk hne
    · rw [sm_u_self, e55, hr.2.2]
    · rw [head, if_pos h1, b1_55, kk_55 H, g4, w_cont]
      simp only [wr_id, wr_b2i, wr_wr, b2i_eq0, b2i_eq1, b2i_01, sm_rem_eq, sm_div_eq, wl_m2, wl_m1, wl_0, wl_1, wl_2, wl_3, wl_4, wl_5, wl_6, wl_7, wl_8, wl_9, wl_10, wl_12, wl_13, wl_14, wl_16, wl_20, wl_21, wl_22, wl_23, wl_32, wl_36, wl_40, wl_41, wl_42, wl_43, wl_44, wl_45, wl_46, wl_47, wl_48, wl_57, wl_59, wl_60, wl_61, wl_62, wl_65, wl_90, wl_97, wl_99, wl_100, wl_121, wl_122, wl_140, wl_142, wl_143, wl_145, wl_147, wl_160, wl_161, wl_162, wl_242, wl_380, wl_400, wl_420, wl_820, wl_1340, wl_5480, wl_9999, true_and, and_true, true_or, or_true, if_true, if_false, and_self, or_self, false_and, and_false, false_or, or_false, not_true_eq_false, not_false_eq_true, Int.reduceEq, Int.reduceLT, Int.reduceLE, Int.reduceToNat, Int.reduceAdd, Int.reduceMul, Int.reduceSub, Int.reduceMod, Int.reduceDiv, Int.reduceNeg, Nat.reduceEqDiff, sm_rd_ok, sm_rd_ok2, sm_wt_ok, sm_cp_ok, Option.isSome_some, Option.getD_some, w_cont, Option.toList_some, Option.toList_none, List.cons_append, List.nil_append]
      rw [b1_63, kk_55 H, b1_73]
      simp only [wr_id, wr_b2i, wr_wr, b2i_eq0, b2i_eq1, b2i_01, sm_rem_eq, sm_div_eq, wl_m2, wl_m1, wl_0, wl_1, wl_2, wl_3, wl_4, wl_5, wl_6, wl_7, wl_8, wl_9, wl_10, wl_12, wl_13, wl_14, wl_16, wl_20, wl_21, wl_22, wl_23, wl_32, wl_36, wl_40, wl_41, wl_42, wl_43, wl_44, wl_45, wl_46, wl_47, wl_48, wl_57, wl_59, wl_60, wl_61, wl_62, wl_65, wl_90, wl_97, wl_99, wl_100, wl_121, wl_122, wl_140, wl_142, wl_143, wl_145, wl_147, wl_160, wl_161, wl_162, wl_242, wl_380, wl_400, wl_420, wl_820, wl_1340, wl_5480, wl_9999, true_and, and_true, true_or, or_true, if_true, if_false, and_self, or_self, false_and, and_false, false_or, or_false, not_true_eq_false, not_false_eq_true, Int.reduceEq, Int.reduceLT, Int.reduceLE, Int.reduceToNat, Int.reduceAdd, Int.reduceMul, Int.reduceSub, Int.reduceMod, Int.reduceDiv, Int.reduceNeg, Nat.reduceEqDiff, sm_rd_ok, sm_rd_ok2, sm_wt_ok, sm_cp_ok, Option.isSome_some, Option.getD_some, w_cont, Option.toList_some, Option.toList_none, List.cons_append, List.nil_append]
      rfl
  · rw [if_neg (fun h => h1 h.2)]
    refine ⟨Z, some (.inl ((10 * y + x : Nat) : Int)), hr, frM_refl Z, fun Q => ?_⟩
    rw [head, if_neg h1, b1_73]
    rfl
theorem c_mk_row (H : sm_sh Rf K) (hT : shT Rf K t th) (hs : (2 ≤ w ∧ w ≤ 10) ∧ 2 ≤ h ∧ h ≤ 10) (y : Nat) (hy : (y : Int) < h) : ∀ (k x : Nat) (st : mkT) (Z : Nat → Nat → Int) (l5 : Option sm_V), ((x + k : Nat) : Int) = w → mkP Z w h T t → wfM w h (10 * y + x) st → rMk Z st → ∃ Z' l5', rMk Z' (mkR w h T k (10 * y + x) st) ∧ frM Z Z' ∧ ∀ Q, sm_wp (d + 3) 1 26 [some (.inr (some 55)), some (.inr (some 1)), some (.inr (some t)), some (.inl (y : Int)), some (.inl (x : Int)), l5] [] (Z, Rf, K, n, z) Q = sm_wp (d + 3) 1 79 [some (.inr (some 55)), some (.inr (some 1)), some (.inr (some t)), some (.inl (y : Int)), some (.inl w), l5'] [] (Z', Rf, K, n, z) Q := by
  have htt : t = 21 ∨ t = 64 := by rcases hT.1 with h | h <;> omega
  intro k
  induction k with
  | zero =>
    intro x st Z l5 hxk hp hf hr
    refine ⟨Z, l5, hr, frM_refl Z, fun Q => ?_⟩
    have hx : (x : Int) = w := by omega
    rw [b1_26, kk_1 H, hp.2.1.1, hx, if_pos (Int.le_refl _)]
    simp only [true_and]
  | succ k ih =>
    intro x st Z l5 hxk hp hf hr
    obtain ⟨Z1, l5a, g1, g2, g3⟩ := c_mk1 (d := d) (n := n) (z := z) H hT hs hp x y (by omega) hy hf hr l5
    obtain ⟨Z2, l5b, e1, e2, e3⟩ := ih (x + 1) _ Z1 l5a (by omega) (mkP_fr htt g2 hp) (mk1_wf (T := T) (c := 10 * y + x) (by omega) hs.1.2 hs.2.2 hf) g1
    refine ⟨Z2, l5b, e1, frM_trans g2 e2, fun Q => ?_⟩
    rw [g3, e3]
theorem c_mk_rows (H : sm_sh Rf K) (hT : shT Rf K t th) (hs : (2 ≤ w ∧ w ≤ 10) ∧ 2 ≤ h ∧ h ≤ 10) : ∀ (k y : Nat) (st : mkT) (Z : Nat → Nat → Int) (l4 l5 : Option sm_V), ((y + k : Nat) : Int) = h → mkP Z w h T t → wfM w h (10 * y) st → rMk Z st → ∃ Z', rMk Z' (mkR w h T (10 * k) (10 * y) st) ∧ frM Z Z' ∧ ∀ Q, sm_wp (d + 3) 1 15 [some (.inr (some 55)), some (.inr (some 1)), some (.inr (some t)), some (.inl (y : Int)), l4, l5] [] (Z, Rf, K, n, z) Q = Q none (Z', Rf, K, n, z) := by
  have htt : t = 21 ∨ t = 64 := by rcases hT.1 with h | h <;> omega
  intro k
  induction k with
  | zero =>
    intro y st Z l4 l5 hyk hp hf hr
    refine ⟨Z, hr, frM_refl Z, fun Q => ?_⟩
    have hy : (y : Int) = h := by omega
    rw [b1_15, kk_1 H, hp.2.1.2, hy, if_pos (Int.le_refl _), b1_85]
    simp only [true_and]
  | succ k ih =>
    intro y st Z l4 l5 hyk hp hf hr
    obtain ⟨Z1, l5a, g1, g2, g3⟩ := c_mk_row (d := d) (n := n) (z := z) H hT hs y (by omega) w.toNat 0 st Z l5 (by omega) hp hf hr
    have hwf1 := mkR_wf2 (T := T) hs.1.2 hs.2.2 10 (10 * y) st (by omega) hf
    have e10 : mkR w h T 10 (10 * y) st = mkR w h T w.toNat (10 * y + 0) st := by
      have := mkR_add (w := w) (h := h) (T := T) w.toNat (10 - w.toNat) (10 * y) st
      rw [show w.toNat + (10 - w.toNat) = 10 by omega] at this
      rw [this]
      refine mkR_skip _ _ _ (fun j h1 h2 => ?_)
      simp only [isC, decide_eq_true_eq]
      omega
    rw [e10] at hwf1
    obtain ⟨Z2, e1, e2, e3⟩ := ih (y + 1) _ Z1 (some (.inl w)) l5a (by omega) (mkP_fr htt g2 hp) (by rw [show 10 * (y + 1) = 10 * y + 10 by omega]; exact hwf1) g1
    refine ⟨Z2, ?_, frM_trans g2 e2, fun Q => ?_⟩
    · rw [show 10 * (k + 1) = 10 + 10 * k by omega, mkR_add, e10]
      exact e1
    · rw [b1_15, kk_1 H, hp.2.1.2, wr_id (by omega) (by omega), wr_id (by omega) (by omega), if_neg (by omega), b1_23]
      simp only [true_and]
      refine (g3 Q).trans ?_
      rw [b1_79]
      exact e3 Q
theorem c_mark (H : sm_sh Rf K) (hz : sm_zs Z) (hT : shT Rf K t th) (hw : Z 1 0 = w ∧ Z 1 1 = h) (hs : (2 ≤ w ∧ w ≤ 10) ∧ 2 ≤ h ∧ h ≤ 10) (ht : ∀ k, k < 242 → Z (t + 1) k = T k ∧ -1 ≤ T k ∧ T k ≤ 7) : ∃ Z', rMk Z' (coS w h T) ∧ frM Z Z' ∧ ∀ Q, sm_call (d + 3) 1 [.inr (some 55), .inr (some 1), .inr (some t)] (Z, Rf, K, n, z) Q = Q none (Z', Rf, K, n, z) := by
  have htt : t = 21 ∨ t = 64 := by rcases hT.1 with h | h <;> omega
  let Z1 := sm_u (sm_fr Z 56 0 100 (-1)) 55 3 0
  have f1 : frM Z Z1 := ⟨fun a b1 b2 b3 b4 => by
      funext j
      show sm_u (sm_fr Z 56 0 100 (-1)) 55 3 0 a j = _
      rw [sm_u_ne b1, sm_fr_ne b2], fun j hj => by
      show sm_u (sm_fr Z 56 0 100 (-1)) 55 3 0 55 j = _
      rw [sm_u_eq, if_neg hj, sm_fr_ne (by decide)]⟩
  obtain ⟨Z2, e1, e2, e3⟩ := c_mk_rows (d := d) (n := n) (z := z) (T := T) H hT hs h.toNat 0 (fun _ => -1, fun _ => 0, 0) Z1 none none (by omega) (mkP_fr htt f1 ⟨hz, hw, ht⟩) ⟨fun k _ => by simp, fun k hk => by omega, fun k hk hn => absurd rfl hn, by simp, fun k hk hn => absurd rfl hn⟩ ⟨fun k hk => by
      show sm_u (sm_fr Z 56 0 100 (-1)) 55 3 0 56 k = _
      rw [sm_u_ne (by decide)]
      unfold sm_fr
      rw [if_pos ⟨rfl, by omega, hk⟩], fun k hk hn => absurd rfl hn, by
      show sm_u (sm_fr Z 56 0 100 (-1)) 55 3 0 55 3 = _
      rw [sm_u_self]⟩
  refine ⟨Z2, ?_, frM_trans f1 e2, fun Q => ?_⟩
  · have e100 : coS w h T = mkR w h T (10 * h.toNat) (10 * 0) (fun _ => -1, fun _ => 0, 0) := by
      unfold coS
      have := mkR_add (w := w) (h := h) (T := T) (10 * h.toNat) (100 - 10 * h.toNat) 0 (fun _ => -1, fun _ => 0, 0)
      rw [show 10 * h.toNat + (100 - 10 * h.toNat) = 100 by omega] at this
      rw [this]
      refine mkR_skip _ _ _ (fun j h1 h2 => ?_)
      simp only [isC, decide_eq_true_eq]
      omega
    rw [e100]
    exact e1
  · rw [ce1, b1_0, kk_55 H, rr_55_0 H]
    simp only [wr_id, wr_b2i, wr_wr, b2i_eq0, b2i_eq1, b2i_01, sm_rem_eq, sm_div_eq, wl_m2, wl_m1, wl_0, wl_1, wl_2, wl_3, wl_4, wl_5, wl_6, wl_7, wl_8, wl_9, wl_10, wl_12, wl_13, wl_14, wl_16, wl_20, wl_21, wl_22, wl_23, wl_32, wl_36, wl_40, wl_41, wl_42, wl_43, wl_44, wl_45, wl_46, wl_47, wl_48, wl_57, wl_59, wl_60, wl_61, wl_62, wl_65, wl_90, wl_97, wl_99, wl_100, wl_121, wl_122, wl_140, wl_142, wl_143, wl_145, wl_147, wl_160, wl_161, wl_162, wl_242, wl_380, wl_400, wl_420, wl_820, wl_1340, wl_5480, wl_9999, true_and, and_true, true_or, or_true, if_true, if_false, and_self, or_self, false_and, and_false, false_or, or_false, not_true_eq_false, not_false_eq_true, Int.reduceEq, Int.reduceLT, Int.reduceLE, Int.reduceToNat, Int.reduceAdd, Int.reduceMul, Int.reduceSub, Int.reduceMod, Int.reduceDiv, Int.reduceNeg, Nat.reduceEqDiff, sm_rd_ok, sm_rd_ok2, sm_wt_ok, sm_cp_ok, Option.isSome_some, Option.getD_some, w_cont, Option.toList_some, Option.toList_none, List.cons_append, List.nil_append]
    rw [c_fill (kk_56 H) (by decide), w_cont]
    simp only [wr_id, wr_b2i, wr_wr, b2i_eq0, b2i_eq1, b2i_01, sm_rem_eq, sm_div_eq, wl_m2, wl_m1, wl_0, wl_1, wl_2, wl_3, wl_4, wl_5, wl_6, wl_7, wl_8, wl_9, wl_10, wl_12, wl_13, wl_14, wl_16, wl_20, wl_21, wl_22, wl_23, wl_32, wl_36, wl_40, wl_41, wl_42, wl_43, wl_44, wl_45, wl_46, wl_47, wl_48, wl_57, wl_59, wl_60, wl_61, wl_62, wl_65, wl_90, wl_97, wl_99, wl_100, wl_121, wl_122, wl_140, wl_142, wl_143, wl_145, wl_147, wl_160, wl_161, wl_162, wl_242, wl_380, wl_400, wl_420, wl_820, wl_1340, wl_5480, wl_9999, true_and, and_true, true_or, or_true, if_true, if_false, and_self, or_self, false_and, and_false, false_or, or_false, not_true_eq_false, not_false_eq_true, Int.reduceEq, Int.reduceLT, Int.reduceLE, Int.reduceToNat, Int.reduceAdd, Int.reduceMul, Int.reduceSub, Int.reduceMod, Int.reduceDiv, Int.reduceNeg, Nat.reduceEqDiff, sm_rd_ok, sm_rd_ok2, sm_wt_ok, sm_cp_ok, Option.isSome_some, Option.getD_some, w_cont, Option.toList_some, Option.toList_none, List.cons_append, List.nil_append]
    rw [b1_8, kk_55 H]
    simp only [wr_id, wr_b2i, wr_wr, b2i_eq0, b2i_eq1, b2i_01, sm_rem_eq, sm_div_eq, wl_m2, wl_m1, wl_0, wl_1, wl_2, wl_3, wl_4, wl_5, wl_6, wl_7, wl_8, wl_9, wl_10, wl_12, wl_13, wl_14, wl_16, wl_20, wl_21, wl_22, wl_23, wl_32, wl_36, wl_40, wl_41, wl_42, wl_43, wl_44, wl_45, wl_46, wl_47, wl_48, wl_57, wl_59, wl_60, wl_61, wl_62, wl_65, wl_90, wl_97, wl_99, wl_100, wl_121, wl_122, wl_140, wl_142, wl_143, wl_145, wl_147, wl_160, wl_161, wl_162, wl_242, wl_380, wl_400, wl_420, wl_820, wl_1340, wl_5480, wl_9999, true_and, and_true, true_or, or_true, if_true, if_false, and_self, or_self, false_and, and_false, false_or, or_false, not_true_eq_false, not_false_eq_true, Int.reduceEq, Int.reduceLT, Int.reduceLE, Int.reduceToNat, Int.reduceAdd, Int.reduceMul, Int.reduceSub, Int.reduceMod, Int.reduceDiv, Int.reduceNeg, Nat.reduceEqDiff, sm_rd_ok, sm_rd_ok2, sm_wt_ok, sm_cp_ok, Option.isSome_some, Option.getD_some, w_cont, Option.toList_some, Option.toList_none, List.cons_append, List.nil_append]
    exact e3 Q
end CCOUNT
