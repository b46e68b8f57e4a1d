/-! A line. -/
/-- lines read, the latest first: their words and steps -/
def lnS (F : Nat → Int) : List (Int × List (Int × Int)) → List (Int × Int) → List Int → Prop
  | [], ms, rc => ms = [] ∧ rc = []
  | p :: r, ms, rc => ∃ ms0 rc0, lnS F r ms0 rc0 ∧ ms = p.2 ++ ms0 ∧ rc = (16 * cW p.1 + (if p.2 = [] then 12 else 13)) :: (p.2.map cO ++ rc0) ∧ (F (3 * r.length) = p.1 ∧ F (3 * r.length + 1) = (ms0.length : Int) ∧ F (3 * r.length + 2) = (ms.length : Int)) ∧ (0 ≤ p.1 ∧ p.1 ≤ 4) ∧ (¬ p.2 = [] → tyV p.2 [] [true])
theorem lnS_cg {F G : Nat → Int} : ∀ (ls : List (Int × List (Int × Int))) (ms : List (Int × Int)) (rc : List Int), (∀ j, j < 3 * ls.length → G j = F j) → lnS F ls ms rc → lnS G ls ms rc := by
  intro ls
  induction ls with
  | nil => intro ms rc _ h; exact h
  | cons p r ih =>
    intro ms rc hG h
    rw [List.length_cons] at hG
    obtain ⟨ms0, rc0, h1, h2, h3, ⟨h4, h5, h6⟩, h7⟩ := h
    exact ⟨ms0, rc0, ih ms0 rc0 (fun j hj => hG j (by omega)) h1, h2, h3, ⟨by rw [hG _ (by omega)]; exact h4, by rw [hG _ (by omega)]; exact h5, by rw [hG _ (by omega)]; exact h6⟩, h7⟩
theorem lnS_len {F : Nat → Int} : ∀ (ls : List (Int × List (Int × Int))) (ms : List (Int × Int)) (rc : List Int), lnS F ls ms rc → rc.length = ms.length + ls.length := by
  intro ls
  induction ls with
  | nil => rintro ms rc ⟨h1, h2⟩; rw [h1, h2]; rfl
  | cons p r ih =>
    rintro ms rc ⟨ms0, rc0, h1, h2, h3, _⟩
    have := ih ms0 rc0 h1
    rw [h2, h3]
    simp
    omega
def frY (Z Z' : Nat → Nat → Int) : Prop := (∀ a, a ≠ 79 → a ≠ 84 → a ≠ 85 → Z' a = Z a) ∧ ∀ j, (j < 13 ∨ j = 14 ∨ j = 21 ∨ 22 < j) → Z' 79 j = Z 79 j
theorem frY_P {Z Z' : Nat → Nat → Int} (h : frP Z Z') : frY Z Z' := ⟨fun a q1 _ q3 => h.1 a q1 q3, h.2⟩
theorem frY_trans {Z Z' Z'' : Nat → Nat → Int} (h1 : frY Z Z') (h2 : frY Z' Z'') : frY Z Z'' := ⟨fun a q1 q2 q3 => by rw [h2.1 a q1 q2 q3, h1.1 a q1 q2 q3], fun j hj => by rw [h2.2 j hj, h1.2 j hj]⟩
theorem frY_84 {Z : Nat → Nat → Int} {j : Nat} {v : Int} : frY Z (sm_u Z 84 j v) := ⟨fun a _ q2 _ => sm_u_row q2, fun i _ => by rw [sm_u_row (by decide)]⟩
section LINE
variable {d n z : Nat} {Rf : Nat → Nat → Option Nat} {K : Nat → Nat × Nat} {T : Nat → Int} {len : Nat}
theorem pM_84 {Z : Nat → Nat → Int} {s j : Nat} {v : Int} {ms : List (Int × Int)} {D : Int} (hp : pM Z T len s ms D) : pM (sm_u Z 84 j v) T len s ms D := by
  obtain ⟨h1, h2, h3, h4, h5⟩ := hp
  refine ⟨zs_fr h1 (fun a ha => sm_u_row (by omega)), tpM_fr (sm_u_row (by decide)) (by rw [sm_u_row (by decide)]) h2, ?_, ?_, ?_⟩
  · unfold lkA at h3 ⊢
    rw [sm_u_row (by decide)]
    exact h3
  · rw [sm_u_row (by decide), sm_u_row (by decide)]
    exact h4
  · rw [sm_u_row (by decide)]
    exact h5
theorem stg_pos {pd : List Int} (h : pd = []) : hdL 1 pd := Or.inl h
/-- the end of a line -/
theorem m_stop (H : sm_sh Rf K) {Z : Nat → Nat → Int} {s l : Nat} {ms : List (Int × Int)} {D : Int} (hp : pM Z T len s ms D) (hl : l < 16) (h12 : Z 79 12 = (l : Int)) : ∃ Z', frY Z Z' ∧ (∀ j, ¬ j = 3 * l + 2 → Z' 84 j = Z 84 j) ∧ Z' 84 (3 * l + 2) = (ms.length : Int) ∧ (tkS T len s = 159 → pM Z' T len (nsS T len s) ms D) ∧ (¬ tkS T len s = 159 → Z' 79 19 = 1 ∧ Z' 79 20 = (s : Int)) ∧ ∀ Q, sm_wp (d + 9) 155 100 [some (.inr (some 79))] [] (Z, Rf, K, n, z) Q = Q (some (.inl (b2i (decide (tkS T len s = 159))))) (Z', Rf, K, n, z) := by
  have h13 := hp.2.2.2.1.1
  have nn : (3 * (l : Int) + 2).toNat = 3 * l + 2 := by omega
  obtain ⟨Z1, a1, a2, a3, a4⟩ := m_need (d := d) (n := n) (z := z) H (pM_84 (j := 3 * l + 2) (v := (ms.length : Int)) hp) (w := 159) (by decide)
  refine ⟨Z1, frY_trans frY_84 (frY_P a1), fun j hj => ?_, ?_, a2, a3, fun Q => ?_⟩
  · rw [a1.1 84 (by decide) (by decide), sm_u_eq, if_neg (by omega)]
  · rw [a1.1 84 (by decide) (by decide), sm_u_self]
  · rw [b155_100, kk_79 H, rr_79_7 H, h12, h13]
    simp (disch := omega) only [wr_id, wr_b2i, wr_wr, b2i_eq0, b2i_eq1, b2i_01, sm_rem_eq, sm_div_eq, wl_m2, wl_m1, wl_0, wl_1, wl_2, wl_3, wl_4, wl_5, wl_6, wl_7, wl_8, wl_9, wl_10, wl_12, wl_13, wl_14, wl_16, wl_20, wl_21, wl_22, wl_23, wl_32, wl_36, wl_40, wl_41, wl_42, wl_43, wl_44, wl_45, wl_46, wl_47, wl_48, wl_57, wl_59, wl_60, wl_61, wl_62, wl_65, wl_90, wl_97, wl_99, wl_100, wl_121, wl_122, wl_140, wl_142, wl_143, wl_145, wl_147, wl_160, wl_161, wl_162, wl_242, wl_380, wl_400, wl_420, wl_820, wl_1340, wl_5480, wl_9999, true_and, and_true, true_or, or_true, if_true, if_false, and_self, or_self, false_and, and_false, false_or, or_false, not_true_eq_false, not_false_eq_true, Int.reduceEq, Int.reduceLT, Int.reduceLE, Int.reduceToNat, Int.reduceAdd, Int.reduceMul, Int.reduceSub, Int.reduceMod, Int.reduceDiv, Int.reduceNeg, Nat.reduceEqDiff, sm_rd_ok, sm_rd_ok2, sm_wt_ok, sm_cp_ok, Option.isSome_some, Option.getD_some, w_cont, Option.toList_some, Option.toList_none, List.cons_append, List.nil_append, kk_84 H, nn]
    refine (a4 _).trans ?_
    rw [w_cont]
    simp only [wr_id, wr_b2i, wr_wr, b2i_eq0, b2i_eq1, b2i_01, sm_rem_eq, sm_div_eq, wl_m2, wl_m1, wl_0, wl_1, wl_2, wl_3, wl_4, wl_5, wl_6, wl_7, wl_8, wl_9, wl_10, wl_12, wl_13, wl_14, wl_16, wl_20, wl_21, wl_22, wl_23, wl_32, wl_36, wl_40, wl_41, wl_42, wl_43, wl_44, wl_45, wl_46, wl_47, wl_48, wl_57, wl_59, wl_60, wl_61, wl_62, wl_65, wl_90, wl_97, wl_99, wl_100, wl_121, wl_122, wl_140, wl_142, wl_143, wl_145, wl_147, wl_160, wl_161, wl_162, wl_242, wl_380, wl_400, wl_420, wl_820, wl_1340, wl_5480, wl_9999, true_and, and_true, true_or, or_true, if_true, if_false, and_self, or_self, false_and, and_false, false_or, or_false, not_true_eq_false, not_false_eq_true, Int.reduceEq, Int.reduceLT, Int.reduceLE, Int.reduceToNat, Int.reduceAdd, Int.reduceMul, Int.reduceSub, Int.reduceMod, Int.reduceDiv, Int.reduceNeg, Nat.reduceEqDiff, sm_rd_ok, sm_rd_ok2, sm_wt_ok, sm_cp_ok, Option.isSome_some, Option.getD_some, w_cont, Option.toList_some, Option.toList_none, List.cons_append, List.nil_append]
    rw [b155_124]
    by_cases h : tkS T len s = 159
    · rw [decide_eq_true h, show b2i true = 1 from rfl]
      simp only [wr_id, wr_b2i, wr_wr, b2i_eq0, b2i_eq1, b2i_01, sm_rem_eq, sm_div_eq, wl_m2, wl_m1, wl_0, wl_1, wl_2, wl_3, wl_4, wl_5, wl_6, wl_7, wl_8, wl_9, wl_10, wl_12, wl_13, wl_14, wl_16, wl_20, wl_21, wl_22, wl_23, wl_32, wl_36, wl_40, wl_41, wl_42, wl_43, wl_44, wl_45, wl_46, wl_47, wl_48, wl_57, wl_59, wl_60, wl_61, wl_62, wl_65, wl_90, wl_97, wl_99, wl_100, wl_121, wl_122, wl_140, wl_142, wl_143, wl_145, wl_147, wl_160, wl_161, wl_162, wl_242, wl_380, wl_400, wl_420, wl_820, wl_1340, wl_5480, wl_9999, true_and, and_true, true_or, or_true, if_true, if_false, and_self, or_self, false_and, and_false, false_or, or_false, not_true_eq_false, not_false_eq_true, Int.reduceEq, Int.reduceLT, Int.reduceLE, Int.reduceToNat, Int.reduceAdd, Int.reduceMul, Int.reduceSub, Int.reduceMod, Int.reduceDiv, Int.reduceNeg, Nat.reduceEqDiff, sm_rd_ok, sm_rd_ok2, sm_wt_ok, sm_cp_ok, Option.isSome_some, Option.getD_some, w_cont, Option.toList_some, Option.toList_none, List.cons_append, List.nil_append]
    · rw [decide_eq_false h, show b2i false = 0 from rfl]
      simp only [wr_id, wr_b2i, wr_wr, b2i_eq0, b2i_eq1, b2i_01, sm_rem_eq, sm_div_eq, wl_m2, wl_m1, wl_0, wl_1, wl_2, wl_3, wl_4, wl_5, wl_6, wl_7, wl_8, wl_9, wl_10, wl_12, wl_13, wl_14, wl_16, wl_20, wl_21, wl_22, wl_23, wl_32, wl_36, wl_40, wl_41, wl_42, wl_43, wl_44, wl_45, wl_46, wl_47, wl_48, wl_57, wl_59, wl_60, wl_61, wl_62, wl_65, wl_90, wl_97, wl_99, wl_100, wl_121, wl_122, wl_140, wl_142, wl_143, wl_145, wl_147, wl_160, wl_161, wl_162, wl_242, wl_380, wl_400, wl_420, wl_820, wl_1340, wl_5480, wl_9999, true_and, and_true, true_or, or_true, if_true, if_false, and_self, or_self, false_and, and_false, false_or, or_false, not_true_eq_false, not_false_eq_true, Int.reduceEq, Int.reduceLT, Int.reduceLE, Int.reduceToNat, Int.reduceAdd, Int.reduceMul, Int.reduceSub, Int.reduceMod, Int.reduceDiv, Int.reduceNeg, Nat.reduceEqDiff, sm_rd_ok, sm_rd_ok2, sm_wt_ok, sm_cp_ok, Option.isSome_some, Option.getD_some, w_cont, Option.toList_some, Option.toList_none, List.cons_append, List.nil_append]
theorem m_line (H : sm_sh Rf K) {Z : Nat → Nat → Int} {s : Nat} {ms : List (Int × Int)} {rc : List Int} {ls : List (Int × List (Int × Int))} {D tn rt : Int} (hp : pM Z T len s ms D) (hs : s ≤ len) (h0 : ¬ tkS T len s = 0) (hms : ms.length ≤ s) (hcap : rc.length + ls.length ≤ s) (h12 : Z 79 12 = (ls.length : Int)) (hl : ls.length ≤ 16) (hL : lnS (Z 84) ls ms rc) : ∃ Z' r, frY Z Z' ∧ (r = true → ∃ s' p ms' rc' D' tn' rt', rch T len s (rc, [], 0, (ls.length : Int), tn, 0, 0, rt) s' (rc', [], 0, ((ls.length + 1 : Nat) : Int), tn', 0, 0, rt') ∧ s < s' ∧ s' ≤ len ∧ pM Z' T len s' ms' D' ∧ ms'.length ≤ s' ∧ rc'.length + (ls.length + 1) ≤ s' ∧ ls.length + 1 ≤ 16 ∧ lnS (Z' 84) (p :: ls) ms' rc') ∧ (r = false → ∃ k s', (0 < k ∧ k < 9) ∧ flt T len s (rc, [], 0, (ls.length : Int), tn, 0, 0, rt) k s' ∧ Z' 79 19 = k ∧ Z' 79 20 = (s' : Int)) ∧ ∀ Q, sm_call (d + 38) 155 [.inr (some 79)] (Z, Rf, K, n, z) Q = Q (some (.inl (b2i r))) (Z', Rf, K, n, z) := by
  obtain ⟨l, hll⟩ : ∃ l, ls.length = l := ⟨_, rfl⟩
  rw [hll] at hcap h12 hl ⊢
  have h4 := hp.2.1.2.2.2
  have h16 := hp.2.2.1.2.1
  have ht0 := tkS_0 (len := len) (s := s) hp.2.1.2.1
  have hlt := lt_tk hp h0
  have hns := nsS_bd (T := T) hlt
  have e := rdS_st (t := tkS T len s) (v := vlS T len s) (rc := rc) (pd := []) (st := 0) (ln := (l : Int)) (tn := tn) (op := 0) (br := 0) (rt := rt) (by simp; omega)
  rw [if_pos rfl] at e
  simp only [tkLine] at e
  by_cases hw : 20 ≤ tkS T len s ∧ tkS T len s ≤ 24
  · rw [if_pos hw] at e
    have r0 : ∀ Q, sm_call (d + 38) 155 [.inr (some 79)] (Z, Rf, K, n, z) Q = sm_wp (d + 38) 155 20 [some (.inr (some 79))] [] (Z, Rf, K, n, z) Q := by
      intro Q
      rw [ce155, b155_0, kk_79 H, h16]
      simp only [wr_id, wr_b2i, wr_wr, b2i_eq0, b2i_eq1, b2i_01, sm_rem_eq, sm_div_eq, wl_m2, wl_m1, wl_0, wl_1, wl_2, wl_3, wl_4, wl_5, wl_6, wl_7, wl_8, wl_9, wl_10, wl_12, wl_13, wl_14, wl_16, wl_20, wl_21, wl_22, wl_23, wl_32, wl_36, wl_40, wl_41, wl_42, wl_43, wl_44, wl_45, wl_46, wl_47, wl_48, wl_57, wl_59, wl_60, wl_61, wl_62, wl_65, wl_90, wl_97, wl_99, wl_100, wl_121, wl_122, wl_140, wl_142, wl_143, wl_145, wl_147, wl_160, wl_161, wl_162, wl_242, wl_380, wl_400, wl_420, wl_820, wl_1340, wl_5480, wl_9999, true_and, and_true, true_or, or_true, if_true, if_false, and_self, or_self, false_and, and_false, false_or, or_false, not_true_eq_false, not_false_eq_true, Int.reduceEq, Int.reduceLT, Int.reduceLE, Int.reduceToNat, Int.reduceAdd, Int.reduceMul, Int.reduceSub, Int.reduceMod, Int.reduceDiv, Int.reduceNeg, Nat.reduceEqDiff, sm_rd_ok, sm_rd_ok2, sm_wt_ok, sm_cp_ok, Option.isSome_some, Option.getD_some, w_cont, Option.toList_some, Option.toList_none, List.cons_append, List.nil_append]
      rw [m_isIn (by omega) (by omega) (by omega), w_cont]
      simp only [wr_id, wr_b2i, wr_wr, b2i_eq0, b2i_eq1, b2i_01, sm_rem_eq, sm_div_eq, wl_m2, wl_m1, wl_0, wl_1, wl_2, wl_3, wl_4, wl_5, wl_6, wl_7, wl_8, wl_9, wl_10, wl_12, wl_13, wl_14, wl_16, wl_20, wl_21, wl_22, wl_23, wl_32, wl_36, wl_40, wl_41, wl_42, wl_43, wl_44, wl_45, wl_46, wl_47, wl_48, wl_57, wl_59, wl_60, wl_61, wl_62, wl_65, wl_90, wl_97, wl_99, wl_100, wl_121, wl_122, wl_140, wl_142, wl_143, wl_145, wl_147, wl_160, wl_161, wl_162, wl_242, wl_380, wl_400, wl_420, wl_820, wl_1340, wl_5480, wl_9999, true_and, and_true, true_or, or_true, if_true, if_false, and_self, or_self, false_and, and_false, false_or, or_false, not_true_eq_false, not_false_eq_true, Int.reduceEq, Int.reduceLT, Int.reduceLE, Int.reduceToNat, Int.reduceAdd, Int.reduceMul, Int.reduceSub, Int.reduceMod, Int.reduceDiv, Int.reduceNeg, Nat.reduceEqDiff, sm_rd_ok, sm_rd_ok2, sm_wt_ok, sm_cp_ok, Option.isSome_some, Option.getD_some, w_cont, Option.toList_some, Option.toList_none, List.cons_append, List.nil_append]
      rw [b155_11, isInB, decide_eq_true hw, if_neg (by decide)]
    by_cases h16l : l = 16
    · rw [if_neg (by omega)] at e
      obtain ⟨Z1, a1, a2, a3⟩ := m_bad1 (d := d + 37) (n := n) (z := z) H hp 3
      refine ⟨Z1, false, frY_P a2, fun g => Bool.noConfusion g, fun _ => ⟨3, s, by decide, flt_step (fun g => h0 g.1) (by decide) (by rw [e]), a1⟩, fun Q => ?_⟩
      rw [r0, b155_20, kk_79 H, h12, h16l]
      simp only [wr_id, wr_b2i, wr_wr, b2i_eq0, b2i_eq1, b2i_01, sm_rem_eq, sm_div_eq, wl_m2, wl_m1, wl_0, wl_1, wl_2, wl_3, wl_4, wl_5, wl_6, wl_7, wl_8, wl_9, wl_10, wl_12, wl_13, wl_14, wl_16, wl_20, wl_21, wl_22, wl_23, wl_32, wl_36, wl_40, wl_41, wl_42, wl_43, wl_44, wl_45, wl_46, wl_47, wl_48, wl_57, wl_59, wl_60, wl_61, wl_62, wl_65, wl_90, wl_97, wl_99, wl_100, wl_121, wl_122, wl_140, wl_142, wl_143, wl_145, wl_147, wl_160, wl_161, wl_162, wl_242, wl_380, wl_400, wl_420, wl_820, wl_1340, wl_5480, wl_9999, true_and, and_true, true_or, or_true, if_true, if_false, and_self, or_self, false_and, and_false, false_or, or_false, not_true_eq_false, not_false_eq_true, Int.reduceEq, Int.reduceLT, Int.reduceLE, Int.reduceToNat, Int.reduceAdd, Int.reduceMul, Int.reduceSub, Int.reduceMod, Int.reduceDiv, Int.reduceNeg, Nat.reduceEqDiff, sm_rd_ok, sm_rd_ok2, sm_wt_ok, sm_cp_ok, Option.isSome_some, Option.getD_some, w_cont, Option.toList_some, Option.toList_none, List.cons_append, List.nil_append]
      rw [if_pos (by decide), b155_29, kk_79 H]
      simp only [wr_id, wr_b2i, wr_wr, b2i_eq0, b2i_eq1, b2i_01, sm_rem_eq, sm_div_eq, wl_m2, wl_m1, wl_0, wl_1, wl_2, wl_3, wl_4, wl_5, wl_6, wl_7, wl_8, wl_9, wl_10, wl_12, wl_13, wl_14, wl_16, wl_20, wl_21, wl_22, wl_23, wl_32, wl_36, wl_40, wl_41, wl_42, wl_43, wl_44, wl_45, wl_46, wl_47, wl_48, wl_57, wl_59, wl_60, wl_61, wl_62, wl_65, wl_90, wl_97, wl_99, wl_100, wl_121, wl_122, wl_140, wl_142, wl_143, wl_145, wl_147, wl_160, wl_161, wl_162, wl_242, wl_380, wl_400, wl_420, wl_820, wl_1340, wl_5480, wl_9999, true_and, and_true, true_or, or_true, if_true, if_false, and_self, or_self, false_and, and_false, false_or, or_false, not_true_eq_false, not_false_eq_true, Int.reduceEq, Int.reduceLT, Int.reduceLE, Int.reduceToNat, Int.reduceAdd, Int.reduceMul, Int.reduceSub, Int.reduceMod, Int.reduceDiv, Int.reduceNeg, Nat.reduceEqDiff, sm_rd_ok, sm_rd_ok2, sm_wt_ok, sm_cp_ok, Option.isSome_some, Option.getD_some, w_cont, Option.toList_some, Option.toList_none, List.cons_append, List.nil_append]
      refine (a3 _).trans ?_
      rw [w_cont]
      simp only [wr_id, wr_b2i, wr_wr, b2i_eq0, b2i_eq1, b2i_01, sm_rem_eq, sm_div_eq, wl_m2, wl_m1, wl_0, wl_1, wl_2, wl_3, wl_4, wl_5, wl_6, wl_7, wl_8, wl_9, wl_10, wl_12, wl_13, wl_14, wl_16, wl_20, wl_21, wl_22, wl_23, wl_32, wl_36, wl_40, wl_41, wl_42, wl_43, wl_44, wl_45, wl_46, wl_47, wl_48, wl_57, wl_59, wl_60, wl_61, wl_62, wl_65, wl_90, wl_97, wl_99, wl_100, wl_121, wl_122, wl_140, wl_142, wl_143, wl_145, wl_147, wl_160, wl_161, wl_162, wl_242, wl_380, wl_400, wl_420, wl_820, wl_1340, wl_5480, wl_9999, true_and, and_true, true_or, or_true, if_true, if_false, and_self, or_self, false_and, and_false, false_or, or_false, not_true_eq_false, not_false_eq_true, Int.reduceEq, Int.reduceLT, Int.reduceLE, Int.reduceToNat, Int.reduceAdd, Int.reduceMul, Int.reduceSub, Int.reduceMod, Int.reduceDiv, Int.reduceNeg, Nat.reduceEqDiff, sm_rd_ok, sm_rd_ok2, sm_wt_ok, sm_cp_ok, Option.isSome_some, Option.getD_some, w_cont, Option.toList_some, Option.toList_none, List.cons_append, List.nil_append]
      rw [b155_34]
      simp only [wr_id, wr_b2i, wr_wr, b2i_eq0, b2i_eq1, b2i_01, sm_rem_eq, sm_div_eq, wl_m2, wl_m1, wl_0, wl_1, wl_2, wl_3, wl_4, wl_5, wl_6, wl_7, wl_8, wl_9, wl_10, wl_12, wl_13, wl_14, wl_16, wl_20, wl_21, wl_22, wl_23, wl_32, wl_36, wl_40, wl_41, wl_42, wl_43, wl_44, wl_45, wl_46, wl_47, wl_48, wl_57, wl_59, wl_60, wl_61, wl_62, wl_65, wl_90, wl_97, wl_99, wl_100, wl_121, wl_122, wl_140, wl_142, wl_143, wl_145, wl_147, wl_160, wl_161, wl_162, wl_242, wl_380, wl_400, wl_420, wl_820, wl_1340, wl_5480, wl_9999, true_and, and_true, true_or, or_true, if_true, if_false, and_self, or_self, false_and, and_false, false_or, or_false, not_true_eq_false, not_false_eq_true, Int.reduceEq, Int.reduceLT, Int.reduceLE, Int.reduceToNat, Int.reduceAdd, Int.reduceMul, Int.reduceSub, Int.reduceMod, Int.reduceDiv, Int.reduceNeg, Nat.reduceEqDiff, sm_rd_ok, sm_rd_ok2, sm_wt_ok, sm_cp_ok, Option.isSome_some, Option.getD_some, w_cont, Option.toList_some, Option.toList_none, List.cons_append, List.nil_append]
      rfl
    · rw [if_pos (by omega)] at e
      obtain ⟨w, hwd⟩ : ∃ w, w = tkS T len s - 20 := ⟨_, rfl⟩
      rw [← hwd] at e
      have hr1 := rch_step hlt h0 e
      rw [show (l : Int) + 1 = ((l + 1 : Nat) : Int) by omega] at hr1
      have n0 : (3 * (l : Int)).toNat = 3 * l := by omega
      have n1 : (3 * (l : Int) + 1).toNat = 3 * l + 1 := by omega
      obtain ⟨s1, hs1⟩ : ∃ s1, s1 = nsS T len s := ⟨_, rfl⟩
      obtain ⟨Z1, a1, a2, a3⟩ := m_nx (d := d + 30) (n := n) (z := z) H (pM_D 0 (pM_84 (j := 3 * l) (v := w) hp)) hlt
      rw [← hs1] at a1 hns hr1
      have k12 : Z1 79 12 = (l : Int) := by
        rw [a2.2 12 (by omega), sm_u_eq, if_neg (by decide), sm_u_row (by decide), h12]
      have k13 := a1.2.2.2.1.1
      have k84 : ∀ j, Z1 84 j = if j = 3 * l then w else Z 84 j := by
        intro j
        rw [a2.1 84 (by decide) (by decide), sm_u_row (by decide), sm_u_eq]
      have r1 : ∀ Q, sm_call (d + 38) 155 [.inr (some 79)] (Z, Rf, K, n, z) Q = sm_wp (d + 38) 155 62 [some (.inr (some 79))] [] (Z1, Rf, K, n, z) Q := by
        intro Q
        rw [r0, b155_20, kk_79 H, h12]
        simp only [wr_id, wr_b2i, wr_wr, b2i_eq0, b2i_eq1, b2i_01, sm_rem_eq, sm_div_eq, wl_m2, wl_m1, wl_0, wl_1, wl_2, wl_3, wl_4, wl_5, wl_6, wl_7, wl_8, wl_9, wl_10, wl_12, wl_13, wl_14, wl_16, wl_20, wl_21, wl_22, wl_23, wl_32, wl_36, wl_40, wl_41, wl_42, wl_43, wl_44, wl_45, wl_46, wl_47, wl_48, wl_57, wl_59, wl_60, wl_61, wl_62, wl_65, wl_90, wl_97, wl_99, wl_100, wl_121, wl_122, wl_140, wl_142, wl_143, wl_145, wl_147, wl_160, wl_161, wl_162, wl_242, wl_380, wl_400, wl_420, wl_820, wl_1340, wl_5480, wl_9999, true_and, and_true, true_or, or_true, if_true, if_false, and_self, or_self, false_and, and_false, false_or, or_false, not_true_eq_false, not_false_eq_true, Int.reduceEq, Int.reduceLT, Int.reduceLE, Int.reduceToNat, Int.reduceAdd, Int.reduceMul, Int.reduceSub, Int.reduceMod, Int.reduceDiv, Int.reduceNeg, Nat.reduceEqDiff, sm_rd_ok, sm_rd_ok2, sm_wt_ok, sm_cp_ok, Option.isSome_some, Option.getD_some, w_cont, Option.toList_some, Option.toList_none, List.cons_append, List.nil_append]
        rw [wr_id (by omega) (by omega), if_neg (by omega), b155_35, kk_79 H, rr_79_7 H, h12, h16, ← hwd]
        simp (disch := omega) only [wr_id, wr_b2i, wr_wr, b2i_eq0, b2i_eq1, b2i_01, sm_rem_eq, sm_div_eq, wl_m2, wl_m1, wl_0, wl_1, wl_2, wl_3, wl_4, wl_5, wl_6, wl_7, wl_8, wl_9, wl_10, wl_12, wl_13, wl_14, wl_16, wl_20, wl_21, wl_22, wl_23, wl_32, wl_36, wl_40, wl_41, wl_42, wl_43, wl_44, wl_45, wl_46, wl_47, wl_48, wl_57, wl_59, wl_60, wl_61, wl_62, wl_65, wl_90, wl_97, wl_99, wl_100, wl_121, wl_122, wl_140, wl_142, wl_143, wl_145, wl_147, wl_160, wl_161, wl_162, wl_242, wl_380, wl_400, wl_420, wl_820, wl_1340, wl_5480, wl_9999, true_and, and_true, true_or, or_true, if_true, if_false, and_self, or_self, false_and, and_false, false_or, or_false, not_true_eq_false, not_false_eq_true, Int.reduceEq, Int.reduceLT, Int.reduceLE, Int.reduceToNat, Int.reduceAdd, Int.reduceMul, Int.reduceSub, Int.reduceMod, Int.reduceDiv, Int.reduceNeg, Nat.reduceEqDiff, sm_rd_ok, sm_rd_ok2, sm_wt_ok, sm_cp_ok, Option.isSome_some, Option.getD_some, w_cont, Option.toList_some, Option.toList_none, List.cons_append, List.nil_append, kk_84 H, n0]
        refine (a3 _).trans ?_
        rw [w_cont]
        simp only [wr_id, wr_b2i, wr_wr, b2i_eq0, b2i_eq1, b2i_01, sm_rem_eq, sm_div_eq, wl_m2, wl_m1, wl_0, wl_1, wl_2, wl_3, wl_4, wl_5, wl_6, wl_7, wl_8, wl_9, wl_10, wl_12, wl_13, wl_14, wl_16, wl_20, wl_21, wl_22, wl_23, wl_32, wl_36, wl_40, wl_41, wl_42, wl_43, wl_44, wl_45, wl_46, wl_47, wl_48, wl_57, wl_59, wl_60, wl_61, wl_62, wl_65, wl_90, wl_97, wl_99, wl_100, wl_121, wl_122, wl_140, wl_142, wl_143, wl_145, wl_147, wl_160, wl_161, wl_162, wl_242, wl_380, wl_400, wl_420, wl_820, wl_1340, wl_5480, wl_9999, true_and, and_true, true_or, or_true, if_true, if_false, and_self, or_self, false_and, and_false, false_or, or_false, not_true_eq_false, not_false_eq_true, Int.reduceEq, Int.reduceLT, Int.reduceLE, Int.reduceToNat, Int.reduceAdd, Int.reduceMul, Int.reduceSub, Int.reduceMod, Int.reduceDiv, Int.reduceNeg, Nat.reduceEqDiff, sm_rd_ok, sm_rd_ok2, sm_wt_ok, sm_cp_ok, Option.isSome_some, Option.getD_some, w_cont, Option.toList_some, Option.toList_none, List.cons_append, List.nil_append]
      have f1 : frY Z Z1 := frY_trans frY_84 (frY_trans (frY_P (frP_D 0)) (frY_P a2))
      have p2 := pM_84 (j := 3 * l + 1) (v := (ms.length : Int)) a1
      have f2 : frY Z (sm_u Z1 84 (3 * l + 1) (ms.length : Int)) := frY_trans f1 frY_84
      obtain ⟨Z2, hZ2⟩ : ∃ Z2, Z2 = sm_u Z1 84 (3 * l + 1) (ms.length : Int) := ⟨_, rfl⟩
      rw [← hZ2] at p2 f2
      have m84 : ∀ j, Z2 84 j = if j = 3 * l then w else if j = 3 * l + 1 then (ms.length : Int) else Z 84 j := by
        intro j
        rw [hZ2, sm_u_eq]
        by_cases hj : j = 3 * l + 1
        · rw [if_pos hj, if_neg (by omega), if_pos hj]
        · rw [if_neg hj, k84, if_neg hj]
      have m12 : Z2 79 12 = (l : Int) := by
        rw [hZ2, sm_u_row (by decide), k12]
      have m16 := p2.2.2.1.2.1
      have mt0 := tkS_0 (len := len) (s := s1) hp.2.1.2.1
      have r2 : ∀ Q, sm_call (d + 38) 155 [.inr (some 79)] (Z, Rf, K, n, z) Q = if tkS T len s1 = 3 then sm_wp (d + 38) 155 87 [some (.inr (some 79))] [] (Z2, Rf, K, n, z) Q else sm_wp (d + 38) 155 100 [some (.inr (some 79))] [] (Z2, Rf, K, n, z) Q := by
        intro Q
        rw [r1, b155_62, kk_79 H, rr_79_7 H, k12, k13]
        simp (disch := omega) only [wr_id, wr_b2i, wr_wr, b2i_eq0, b2i_eq1, b2i_01, sm_rem_eq, sm_div_eq, wl_m2, wl_m1, wl_0, wl_1, wl_2, wl_3, wl_4, wl_5, wl_6, wl_7, wl_8, wl_9, wl_10, wl_12, wl_13, wl_14, wl_16, wl_20, wl_21, wl_22, wl_23, wl_32, wl_36, wl_40, wl_41, wl_42, wl_43, wl_44, wl_45, wl_46, wl_47, wl_48, wl_57, wl_59, wl_60, wl_61, wl_62, wl_65, wl_90, wl_97, wl_99, wl_100, wl_121, wl_122, wl_140, wl_142, wl_143, wl_145, wl_147, wl_160, wl_161, wl_162, wl_242, wl_380, wl_400, wl_420, wl_820, wl_1340, wl_5480, wl_9999, true_and, and_true, true_or, or_true, if_true, if_false, and_self, or_self, false_and, and_false, false_or, or_false, not_true_eq_false, not_false_eq_true, Int.reduceEq, Int.reduceLT, Int.reduceLE, Int.reduceToNat, Int.reduceAdd, Int.reduceMul, Int.reduceSub, Int.reduceMod, Int.reduceDiv, Int.reduceNeg, Nat.reduceEqDiff, sm_rd_ok, sm_rd_ok2, sm_wt_ok, sm_cp_ok, Option.isSome_some, Option.getD_some, w_cont, Option.toList_some, Option.toList_none, List.cons_append, List.nil_append, kk_84 H, n1]
        rw [← hZ2, m16, wr_id (by omega) (by omega)]
      have e2 := rdS_st (t := tkS T len s1) (v := vlS T len s1) (rc := rc) (pd := []) (st := 1) (ln := ((l + 1 : Nat) : Int)) (tn := cW w) (op := 0) (br := 0) (rt := rt) (by simp; omega)
      rw [if_neg (by decide), if_pos rfl] at e2
      simp only [tkWhen] at e2
      by_cases h3 : tkS T len s1 = 3
      · rw [if_neg (by omega), if_pos h3] at e2
        have hlt1 := lt_tk p2 (by omega)
        have hns1 := nsS_bd (T := T) hlt1
        have hr2 := rch_step hlt1 (by omega) e2
        obtain ⟨s2, hs2⟩ : ∃ s2, s2 = nsS T len s1 := ⟨_, rfl⟩
        obtain ⟨Z3, b1, b2, b3⟩ := m_nx (d := d + 30) (n := n) (z := z) H p2 hlt1
        rw [← hs2] at b1 hns1 hr2
        obtain ⟨Z4, r4, c1, c2⟩ := (m_knot (n := n) (z := z) (T := T) (len := len) H 8 0 d (by omega)).2 s2 ms Z3 rc [] ((l + 1 : Nat) : Int) (cW w) 0 rt b1 hns1.2 (by omega) (by omega) (by simp; omega) (by simp) (Or.inl rfl)
        have r3 : ∀ Q, sm_call (d + 38) 155 [.inr (some 79)] (Z, Rf, K, n, z) Q = sm_wp (d + 38) 155 95 [some (.inr (some 79))] [.inl (b2i r4)] (Z4, Rf, K, n, z) Q := by
          intro Q
          rw [r2, if_pos h3, b155_87, kk_79 H]
          simp only [wr_id, wr_b2i, wr_wr, b2i_eq0, b2i_eq1, b2i_01, sm_rem_eq, sm_div_eq, wl_m2, wl_m1, wl_0, wl_1, wl_2, wl_3, wl_4, wl_5, wl_6, wl_7, wl_8, wl_9, wl_10, wl_12, wl_13, wl_14, wl_16, wl_20, wl_21, wl_22, wl_23, wl_32, wl_36, wl_40, wl_41, wl_42, wl_43, wl_44, wl_45, wl_46, wl_47, wl_48, wl_57, wl_59, wl_60, wl_61, wl_62, wl_65, wl_90, wl_97, wl_99, wl_100, wl_121, wl_122, wl_140, wl_142, wl_143, wl_145, wl_147, wl_160, wl_161, wl_162, wl_242, wl_380, wl_400, wl_420, wl_820, wl_1340, wl_5480, wl_9999, true_and, and_true, true_or, or_true, if_true, if_false, and_self, or_self, false_and, and_false, false_or, or_false, not_true_eq_false, not_false_eq_true, Int.reduceEq, Int.reduceLT, Int.reduceLE, Int.reduceToNat, Int.reduceAdd, Int.reduceMul, Int.reduceSub, Int.reduceMod, Int.reduceDiv, Int.reduceNeg, Nat.reduceEqDiff, sm_rd_ok, sm_rd_ok2, sm_wt_ok, sm_cp_ok, Option.isSome_some, Option.getD_some, w_cont, Option.toList_some, Option.toList_none, List.cons_append, List.nil_append]
          refine (b3 _).trans ?_
          rw [w_cont]
          simp only [wr_id, wr_b2i, wr_wr, b2i_eq0, b2i_eq1, b2i_01, sm_rem_eq, sm_div_eq, wl_m2, wl_m1, wl_0, wl_1, wl_2, wl_3, wl_4, wl_5, wl_6, wl_7, wl_8, wl_9, wl_10, wl_12, wl_13, wl_14, wl_16, wl_20, wl_21, wl_22, wl_23, wl_32, wl_36, wl_40, wl_41, wl_42, wl_43, wl_44, wl_45, wl_46, wl_47, wl_48, wl_57, wl_59, wl_60, wl_61, wl_62, wl_65, wl_90, wl_97, wl_99, wl_100, wl_121, wl_122, wl_140, wl_142, wl_143, wl_145, wl_147, wl_160, wl_161, wl_162, wl_242, wl_380, wl_400, wl_420, wl_820, wl_1340, wl_5480, wl_9999, true_and, and_true, true_or, or_true, if_true, if_false, and_self, or_self, false_and, and_false, false_or, or_false, not_true_eq_false, not_false_eq_true, Int.reduceEq, Int.reduceLT, Int.reduceLE, Int.reduceToNat, Int.reduceAdd, Int.reduceMul, Int.reduceSub, Int.reduceMod, Int.reduceDiv, Int.reduceNeg, Nat.reduceEqDiff, sm_rd_ok, sm_rd_ok2, sm_wt_ok, sm_cp_ok, Option.isSome_some, Option.getD_some, w_cont, Option.toList_some, Option.toList_none, List.cons_append, List.nil_append]
          rw [b155_91, kk_79 H]
          simp only [wr_id, wr_b2i, wr_wr, b2i_eq0, b2i_eq1, b2i_01, sm_rem_eq, sm_div_eq, wl_m2, wl_m1, wl_0, wl_1, wl_2, wl_3, wl_4, wl_5, wl_6, wl_7, wl_8, wl_9, wl_10, wl_12, wl_13, wl_14, wl_16, wl_20, wl_21, wl_22, wl_23, wl_32, wl_36, wl_40, wl_41, wl_42, wl_43, wl_44, wl_45, wl_46, wl_47, wl_48, wl_57, wl_59, wl_60, wl_61, wl_62, wl_65, wl_90, wl_97, wl_99, wl_100, wl_121, wl_122, wl_140, wl_142, wl_143, wl_145, wl_147, wl_160, wl_161, wl_162, wl_242, wl_380, wl_400, wl_420, wl_820, wl_1340, wl_5480, wl_9999, true_and, and_true, true_or, or_true, if_true, if_false, and_self, or_self, false_and, and_false, false_or, or_false, not_true_eq_false, not_false_eq_true, Int.reduceEq, Int.reduceLT, Int.reduceLE, Int.reduceToNat, Int.reduceAdd, Int.reduceMul, Int.reduceSub, Int.reduceMod, Int.reduceDiv, Int.reduceNeg, Nat.reduceEqDiff, sm_rd_ok, sm_rd_ok2, sm_wt_ok, sm_cp_ok, Option.isSome_some, Option.getD_some, w_cont, Option.toList_some, Option.toList_none, List.cons_append, List.nil_append]
          refine (c2 _).trans ?_
          rw [w_cont]
          rfl
        cases r4 with
        | false =>
          obtain ⟨o1, _, o3⟩ := outc_fail (G := fun _ _ _ => True) (ms := ms) (D := 0) b2 (rch_trans hr1 hr2) c1
          refine ⟨Z4, false, frY_trans f2 (frY_P o1), fun g => Bool.noConfusion g, o3, fun Q => ?_⟩
          rw [r3, b155_95, if_pos (by decide), b155_98]
          simp only [wr_id, wr_b2i, wr_wr, b2i_eq0, b2i_eq1, b2i_01, sm_rem_eq, sm_div_eq, wl_m2, wl_m1, wl_0, wl_1, wl_2, wl_3, wl_4, wl_5, wl_6, wl_7, wl_8, wl_9, wl_10, wl_12, wl_13, wl_14, wl_16, wl_20, wl_21, wl_22, wl_23, wl_32, wl_36, wl_40, wl_41, wl_42, wl_43, wl_44, wl_45, wl_46, wl_47, wl_48, wl_57, wl_59, wl_60, wl_61, wl_62, wl_65, wl_90, wl_97, wl_99, wl_100, wl_121, wl_122, wl_140, wl_142, wl_143, wl_145, wl_147, wl_160, wl_161, wl_162, wl_242, wl_380, wl_400, wl_420, wl_820, wl_1340, wl_5480, wl_9999, true_and, and_true, true_or, or_true, if_true, if_false, and_self, or_self, false_and, and_false, false_or, or_false, not_true_eq_false, not_false_eq_true, Int.reduceEq, Int.reduceLT, Int.reduceLE, Int.reduceToNat, Int.reduceAdd, Int.reduceMul, Int.reduceSub, Int.reduceMod, Int.reduceDiv, Int.reduceNeg, Nat.reduceEqDiff, sm_rd_ok, sm_rd_ok2, sm_wt_ok, sm_cp_ok, Option.isSome_some, Option.getD_some, w_cont, Option.toList_some, Option.toList_none, List.cons_append, List.nil_append]
          rfl
        | true =>
          obtain ⟨o1, o2, _⟩ := c1
          obtain ⟨s3, new, cc, g1, g2, g3, g4, ops, rc', st', rt', ⟨g5, g5'⟩, g6, g7, g8, ⟨⟨_, g9⟩, g9'⟩, g10⟩ := o2 rfl
          rw [g6] at g1
          have hlen : ops.length + rc'.length = new.length + rc.length := by
            have := congrArg List.length g7
            simpa using this
          have q12 : Z4 79 12 = (l : Int) := by
            rw [o1.2 12 (by omega), b2.2 12 (by omega), m12]
          obtain ⟨Z5, u1, u2, u3, u4, u5, u6⟩ := m_stop (d := d + 29) (n := n) (z := z) H g4 (l := l) (by omega) q12
          have f5 : frY Z Z5 := frY_trans f2 (frY_trans (frY_P b2) (frY_trans (frY_P o1) u1))
          have r5 : ∀ Q, sm_call (d + 38) 155 [.inr (some 79)] (Z, Rf, K, n, z) Q = Q (some (.inl (b2i (decide (tkS T len s3 = 159))))) (Z5, Rf, K, n, z) := by
            intro Q
            rw [r3, b155_95, if_neg (by decide)]
            exact u6 Q
          have e3 := aft_rdS (v := vlS T len s3) (rc := rc') (pd := ops ++ []) (ln := ((l + 1 : Nat) : Int)) (tn := cW w) (op := ((0 : Nat) : Int) + cn3 ops) (br := 0) g10 (by simp; omega)
          have eS := stl_ops (s := 1) (pd := []) (Or.inl rfl) ops rc' (((0 : Nat) : Int) + cn3 ops) g5
          rw [show ((0 : Nat) : Int) + cn3 ops - cn3 ops = 0 by omega] at eS
          simp only [tkAC] at e3
          rw [if_neg g9', if_neg g9, if_neg (fun g => absurd g.2 (by decide))] at e3
          by_cases h159 : tkS T len s3 = 159
          · rw [if_pos ⟨h159, trivial⟩] at e3
            simp only [eS] at e3
            have hlt3 := lt_tk g4 (by omega)
            have hns3 := nsS_bd (T := T) hlt3
            have hr3 := rch_step hlt3 (by omega) e3
            rw [g7] at hr3
            have hne : ¬ new = [] := by
              intro g
              have := g8 [] (by simp)
              rw [g] at this
              cases this
            refine ⟨Z5, true, f5, fun _ => ⟨nsS T len s3, (w, new), new ++ ms, _, _, cW w, rt', rch_trans hr1 (rch_trans hr2 (rch_trans g1 hr3)), by omega, hns3.2, u4 h159, by rw [List.length_append]; omega, by simp; omega, by omega, ⟨ms, rc, lnS_cg ls ms rc (fun j hj => ?_) hL, rfl, by rw [if_neg hne], ?_, (by show 0 ≤ w ∧ w ≤ 4; omega), fun _ => g8 [] (by simp)⟩⟩, fun g => Bool.noConfusion g, fun Q => ?_⟩
            · rw [u2 j (by omega), o1.1 84 (by decide) (by decide), b2.1 84 (by decide) (by decide), m84, if_neg (by omega), if_neg (by omega)]
            · rw [hll]
              refine ⟨?_, ?_, u3⟩
              · rw [u2 _ (by omega), o1.1 84 (by decide) (by decide), b2.1 84 (by decide) (by decide), m84, if_pos rfl]
              · rw [u2 _ (by omega), o1.1 84 (by decide) (by decide), b2.1 84 (by decide) (by decide), m84, if_neg (by omega), if_pos rfl]
            · rw [r5, decide_eq_true h159]
          · rw [if_neg (fun g => h159 g.1)] at e3
            have hst : ¬ st' = 0 := by
              rcases g10 with h | h
              · omega
              · have := h.1; omega
            refine ⟨Z5, false, f5, fun g => Bool.noConfusion g, fun _ => ⟨1, s3, by decide, rch_flt hr1 (rch_flt hr2 (rch_flt g1 (flt_step (fun g => hst g.2) (by decide) (by rw [e3])))), u5 h159⟩, fun Q => ?_⟩
            rw [r5, decide_eq_false h159]
      · obtain ⟨Z5, u1, u2, u3, u4, u5, u6⟩ := m_stop (d := d + 29) (n := n) (z := z) H p2 (l := l) (by omega) m12
        have f5 : frY Z Z5 := frY_trans f2 u1
        have r5 : ∀ Q, sm_call (d + 38) 155 [.inr (some 79)] (Z, Rf, K, n, z) Q = Q (some (.inl (b2i (decide (tkS T len s1 = 159))))) (Z5, Rf, K, n, z) := by
          intro Q
          rw [r2, if_neg h3]
          exact u6 Q
        by_cases h159 : tkS T len s1 = 159
        · rw [if_pos h159] at e2
          have hlt1 := lt_tk p2 (by omega)
          have hns1 := nsS_bd (T := T) hlt1
          have hr2 := rch_step hlt1 (by omega) e2
          refine ⟨Z5, true, f5, fun _ => ⟨nsS T len s1, (w, []), ms, _, _, cW w, rt, rch_trans hr1 hr2, by omega, hns1.2, u4 h159, by omega, by simp; omega, by omega, ⟨ms, rc, lnS_cg ls ms rc (fun j hj => ?_) hL, rfl, by rw [if_pos rfl]; rfl, ?_, (by show 0 ≤ w ∧ w ≤ 4; omega), fun g => absurd rfl g⟩⟩, fun g => absurd g (by decide), fun Q => ?_⟩
          · rw [u2 j (by omega), m84, if_neg (by omega), if_neg (by omega)]
          · rw [hll]
            refine ⟨?_, ?_, u3⟩
            · rw [u2 _ (by omega), m84, if_pos rfl]
            · rw [u2 _ (by omega), m84, if_neg (by omega), if_pos rfl]
          · rw [r5, decide_eq_true h159]
        · rw [if_neg h159, if_neg h3] at e2
          refine ⟨Z5, false, f5, fun g => Bool.noConfusion g, fun _ => ⟨1, s1, by decide, rch_flt hr1 (flt_step (fun g => (show ¬ (1 : Int) = 0 by decide) g.2) (by decide) (by rw [e2])), u5 h159⟩, fun Q => ?_⟩
          rw [r5, decide_eq_false h159]
  · rw [if_neg hw] at e
    obtain ⟨Z1, a1, a2, a3⟩ := m_bad1 (d := d + 37) (n := n) (z := z) H hp 1
    refine ⟨Z1, false, frY_P a2, fun g => Bool.noConfusion g, fun _ => ⟨1, s, by decide, flt_step (fun g => h0 g.1) (by decide) (by rw [e]), a1⟩, fun Q => ?_⟩
    rw [ce155, b155_0, kk_79 H, h16]
    simp only [wr_id, wr_b2i, wr_wr, b2i_eq0, b2i_eq1, b2i_01, sm_rem_eq, sm_div_eq, wl_m2, wl_m1, wl_0, wl_1, wl_2, wl_3, wl_4, wl_5, wl_6, wl_7, wl_8, wl_9, wl_10, wl_12, wl_13, wl_14, wl_16, wl_20, wl_21, wl_22, wl_23, wl_32, wl_36, wl_40, wl_41, wl_42, wl_43, wl_44, wl_45, wl_46, wl_47, wl_48, wl_57, wl_59, wl_60, wl_61, wl_62, wl_65, wl_90, wl_97, wl_99, wl_100, wl_121, wl_122, wl_140, wl_142, wl_143, wl_145, wl_147, wl_160, wl_161, wl_162, wl_242, wl_380, wl_400, wl_420, wl_820, wl_1340, wl_5480, wl_9999, true_and, and_true, true_or, or_true, if_true, if_false, and_self, or_self, false_and, and_false, false_or, or_false, not_true_eq_false, not_false_eq_true, Int.reduceEq, Int.reduceLT, Int.reduceLE, Int.reduceToNat, Int.reduceAdd, Int.reduceMul, Int.reduceSub, Int.reduceMod, Int.reduceDiv, Int.reduceNeg, Nat.reduceEqDiff, sm_rd_ok, sm_rd_ok2, sm_wt_ok, sm_cp_ok, Option.isSome_some, Option.getD_some, w_cont, Option.toList_some, Option.toList_none, List.cons_append, List.nil_append]
    rw [m_isIn (by omega) (by omega) (by omega), w_cont]
    simp only [wr_id, wr_b2i, wr_wr, b2i_eq0, b2i_eq1, b2i_01, sm_rem_eq, sm_div_eq, wl_m2, wl_m1, wl_0, wl_1, wl_2, wl_3, wl_4, wl_5, wl_6, wl_7, wl_8, wl_9, wl_10, wl_12, wl_13, wl_14, wl_16, wl_20, wl_21, wl_22, wl_23, wl_32, wl_36, wl_40, wl_41, wl_42, wl_43, wl_44, wl_45, wl_46, wl_47, wl_48, wl_57, wl_59, wl_60, wl_61, wl_62, wl_65, wl_90, wl_97, wl_99, wl_100, wl_121, wl_122, wl_140, wl_142, wl_143, wl_145, wl_147, wl_160, wl_161, wl_162, wl_242, wl_380, wl_400, wl_420, wl_820, wl_1340, wl_5480, wl_9999, true_and, and_true, true_or, or_true, if_true, if_false, and_self, or_self, false_and, and_false, false_or, or_false, not_true_eq_false, not_false_eq_true, Int.reduceEq, Int.reduceLT, Int.reduceLE, Int.reduceToNat, Int.reduceAdd, Int.reduceMul, Int.reduceSub, Int.reduceMod, Int.reduceDiv, Int.reduceNeg, Nat.reduceEqDiff, sm_rd_ok, sm_rd_ok2, sm_wt_ok, sm_cp_ok, Option.isSome_some, Option.getD_some, w_cont, Option.toList_some, Option.toList_none, List.cons_append, List.nil_append]
    rw [b155_11, isInB, decide_eq_false hw, if_pos (by decide), b155_14, kk_79 H]
    simp only [wr_id, wr_b2i, wr_wr, b2i_eq0, b2i_eq1, b2i_01, sm_rem_eq, sm_div_eq, wl_m2, wl_m1, wl_0, wl_1, wl_2, wl_3, wl_4, wl_5, wl_6, wl_7, wl_8, wl_9, wl_10, wl_12, wl_13, wl_14, wl_16, wl_20, wl_21, wl_22, wl_23, wl_32, wl_36, wl_40, wl_41, wl_42, wl_43, wl_44, wl_45, wl_46, wl_47, wl_48, wl_57, wl_59, wl_60, wl_61, wl_62, wl_65, wl_90, wl_97, wl_99, wl_100, wl_121, wl_122, wl_140, wl_142, wl_143, wl_145, wl_147, wl_160, wl_161, wl_162, wl_242, wl_380, wl_400, wl_420, wl_820, wl_1340, wl_5480, wl_9999, true_and, and_true, true_or, or_true, if_true, if_false, and_self, or_self, false_and, and_false, false_or, or_false, not_true_eq_false, not_false_eq_true, Int.reduceEq, Int.reduceLT, Int.reduceLE, Int.reduceToNat, Int.reduceAdd, Int.reduceMul, Int.reduceSub, Int.reduceMod, Int.reduceDiv, Int.reduceNeg, Nat.reduceEqDiff, sm_rd_ok, sm_rd_ok2, sm_wt_ok, sm_cp_ok, Option.isSome_some, Option.getD_some, w_cont, Option.toList_some, Option.toList_none, List.cons_append, List.nil_append]
    refine (a3 _).trans ?_
    rw [w_cont]
    simp only [wr_id, wr_b2i, wr_wr, b2i_eq0, b2i_eq1, b2i_01, sm_rem_eq, sm_div_eq, wl_m2, wl_m1, wl_0, wl_1, wl_2, wl_3, wl_4, wl_5, wl_6, wl_7, wl_8, wl_9, wl_10, wl_12, wl_13, wl_14, wl_16, wl_20, wl_21, wl_22, wl_23, wl_32, wl_36, wl_40, wl_41, wl_42, wl_43, wl_44, wl_45, wl_46, wl_47, wl_48, wl_57, wl_59, wl_60, wl_61, wl_62, wl_65, wl_90, wl_97, wl_99, wl_100, wl_121, wl_122, wl_140, wl_142, wl_143, wl_145, wl_147, wl_160, wl_161, wl_162, wl_242, wl_380, wl_400, wl_420, wl_820, wl_1340, wl_5480, wl_9999, true_and, and_true, true_or, or_true, if_true, if_false, and_self, or_self, false_and, and_false, false_or, or_false, not_true_eq_false, not_false_eq_true, Int.reduceEq, Int.reduceLT, Int.reduceLE, Int.reduceToNat, Int.reduceAdd, Int.reduceMul, Int.reduceSub, Int.reduceMod, Int.reduceDiv, Int.reduceNeg, Nat.reduceEqDiff, sm_rd_ok, sm_rd_ok2, sm_wt_ok, sm_cp_ok, Option.isSome_some, Option.getD_some, w_cont, Option.toList_some, Option.toList_none, List.cons_append, List.nil_append]
    rw [b155_19]
    simp only [wr_id, wr_b2i, wr_wr, b2i_eq0, b2i_eq1, b2i_01, sm_rem_eq, sm_div_eq, wl_m2, wl_m1, wl_0, wl_1, wl_2, wl_3, wl_4, wl_5, wl_6, wl_7, wl_8, wl_9, wl_10, wl_12, wl_13, wl_14, wl_16, wl_20, wl_21, wl_22, wl_23, wl_32, wl_36, wl_40, wl_41, wl_42, wl_43, wl_44, wl_45, wl_46, wl_47, wl_48, wl_57, wl_59, wl_60, wl_61, wl_62, wl_65, wl_90, wl_97, wl_99, wl_100, wl_121, wl_122, wl_140, wl_142, wl_143, wl_145, wl_147, wl_160, wl_161, wl_162, wl_242, wl_380, wl_400, wl_420, wl_820, wl_1340, wl_5480, wl_9999, true_and, and_true, true_or, or_true, if_true, if_false, and_self, or_self, false_and, and_false, false_or, or_false, not_true_eq_false, not_false_eq_true, Int.reduceEq, Int.reduceLT, Int.reduceLE, Int.reduceToNat, Int.reduceAdd, Int.reduceMul, Int.reduceSub, Int.reduceMod, Int.reduceDiv, Int.reduceNeg, Nat.reduceEqDiff, sm_rd_ok, sm_rd_ok2, sm_wt_ok, sm_cp_ok, Option.isSome_some, Option.getD_some, w_cont, Option.toList_some, Option.toList_none, List.cons_append, List.nil_append]
    rfl
end LINE
