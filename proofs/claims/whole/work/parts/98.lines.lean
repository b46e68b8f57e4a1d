/-! Lines one after another. -/
theorem rdE_pos {T : Nat → Int} {len : Nat} (hT : ∀ j, 0 ≤ T j ∧ T j ≤ 255) : ∀ (f s : Nat) (c : rdT), s ≤ len → (rdE T len f s c).2.1 ≤ len := by
  intro f
  induction f with
  | zero => intro s c hs; exact hs
  | succ f ih =>
    intro s c hs
    simp only [rdE]
    split
    · exact hs
    · split
      · rename_i _ h
        have ht0 := tkS_0 (len := len) (s := s) hT
        rcases Nat.lt_or_ge s len with g | g
        · exact ih _ _ (nsS_bd (T := T) g).2
        · have h0 := ht0.2.2.2 g
          rw [h0] at h
          exact absurd h (rdS_end _ _)
      · exact hs
/-- a part of a text read to its end -/
theorem rch_end {T : Nat → Int} {len s s' : Nat} {c c' : rdT} (h : rch T len s c s' c') (hs : s' ≤ len) (h0 : tkS T len s' = 0) (hc : c'.2.2.1 = 0) : rdE T len (len + 1) s c = (-1, s', c') := by
  obtain ⟨m, h1, h2⟩ := h
  have := h2 (len + 1 - m)
  rw [show m + (len + 1 - m) = len + 1 by omega] at this
  rw [this, show len + 1 - m = (len - m) + 1 by omega]
  simp only [rdE]
  rw [if_pos ⟨h0, hc⟩]
theorem flt_end {T : Nat → Int} {len s s' : Nat} {c : rdT} {k : Int} (hT : ∀ j, 0 ≤ T j ∧ T j ≤ 255) (hs : s ≤ len) (h : flt T len s c k s') : (rdE T len (len + 1) s c).1 = k ∧ (rdE T len (len + 1) s c).2.1 = s' := by
  obtain ⟨m, c', h1, h2⟩ := h
  have h3 := rdE_pos hT (m + 0) s c hs
  rw [h2 0] at h3
  have h4 : s' ≤ len := h3
  have := h2 (len + 1 - m)
  rw [show m + (len + 1 - m) = len + 1 by omega] at this
  rw [this]
  exact ⟨rfl, rfl⟩
def frV (Z Z' : Nat → Nat → Int) : Prop := (∀ a, a ≠ 79 → a ≠ 84 → a ≠ 85 → Z' a = Z a) ∧ ∀ j, (j < 12 ∨ j = 14 ∨ j = 21 ∨ 22 < j) → Z' 79 j = Z 79 j
theorem frV_trans {Z Z' Z'' : Nat → Nat → Int} (h1 : frV Z Z') (h2 : frV Z' Z'') : frV Z Z'' := ⟨fun a q1 q2 q3 => by rw [h2.1 a q1 q2 q3, h1.1 a q1 q2 q3], fun j hj => by rw [h2.2 j hj, h1.2 j hj]⟩
theorem frV_Y {Z Z' : Nat → Nat → Int} (h : frY Z Z') : frV Z Z' := ⟨h.1, fun j hj => h.2 j (by omega)⟩
theorem frV_12 {Z : Nat → Nat → Int} {v : Int} : frV Z (sm_u Z 79 12 v) := ⟨fun a q1 _ _ => sm_u_row q1, fun i hi => by rw [sm_u_eq, if_neg (by omega)]⟩
section LINES
variable {d n z : Nat} {Rf : Nat → Nat → Option Nat} {K : Nat → Nat × Nat} {T : Nat → Int} {len : Nat}
theorem pM_12 {Z : Nat → Nat → Int} {s : Nat} {v : Int} {ms : List (Int × Int)} {D : Int} (hp : pM Z T len s ms D) : pM (sm_u Z 79 12 v) T len s ms D := by
  obtain ⟨h1, h2, h3, h4, h5⟩ := hp
  refine ⟨zs_fr h1 (fun a ha => sm_u_row (by omega)), tpM_fr (sm_u_row (by decide)) (by rw [sm_u_eq, if_neg (by decide)]) h2, ?_, ⟨by rw [sm_u_eq, if_neg (by decide)]; exact h4.1, by rw [sm_u_row (by decide)]; exact h4.2.1, by rw [sm_u_eq, if_neg (by decide)]; exact h4.2.2⟩, by rw [sm_u_eq, if_neg (by decide)]; exact h5⟩
  unfold lkA at h3 ⊢
  rw [sm_u_eq, if_neg (by decide), sm_u_eq, if_neg (by decide), sm_u_eq, if_neg (by decide), sm_u_eq, if_neg (by decide)]
  exact h3
theorem m_lines (H : sm_sh Rf K) (l1 l3 : Option sm_V) : ∀ (f s : Nat) (ms : List (Int × Int)) (rc : List Int) (ls : List (Int × List (Int × Int))) (Z : Nat → Nat → Int) (D tn rt : Int), len < s + f → s ≤ len → pM Z T len s ms D → ms.length ≤ s → rc.length + ls.length ≤ s → Z 79 12 = (ls.length : Int) → ls.length ≤ 16 → lnS (Z 84) ls ms rc → ∃ Z' b, frV Z Z' ∧ (b = true → ∃ s' ms' rc' ls' D' tn' rt', rch T len s (rc, [], 0, (ls.length : Int), tn, 0, 0, rt) s' (rc', [], 0, (ls'.length : Int), tn', 0, 0, rt') ∧ tkS T len s' = 0 ∧ s' ≤ len ∧ pM Z' T len s' ms' D' ∧ rc'.length + ls'.length ≤ s' ∧ Z' 79 12 = (ls'.length : Int) ∧ ls'.length ≤ 16 ∧ lnS (Z' 84) ls' ms' rc') ∧ (b = false → ∃ k s', (0 < k ∧ k < 9) ∧ flt T len s (rc, [], 0, (ls.length : Int), tn, 0, 0, rt) k s' ∧ Z' 79 19 = k ∧ Z' 79 20 = (s' : Int)) ∧ ∀ Q, sm_wp (d + 39) 156 52 [some (.inr (some 79)), l1, some (.inl 1), l3] [] (Z, Rf, K, n, z) Q = sm_wp (d + 39) 156 89 [some (.inr (some 79)), l1, some (.inl (b2i b)), l3] [] (Z', Rf, K, n, z) Q := by
  intro f
  induction f with
  | zero => intro s ms rc ls Z D tn rt hf hs; omega
  | succ f ih =>
    intro s ms rc ls Z D tn rt hf hs hp hms hcap h12 hl hL
    have h16 := hp.2.2.1.2.1
    have ht0 := tkS_0 (len := len) (s := s) hp.2.1.2.1
    by_cases h0 : tkS T len s = 0
    · refine ⟨Z, true, ⟨fun _ _ _ _ => rfl, fun _ _ => rfl⟩, fun _ => ⟨s, ms, rc, ls, D, tn, rt, rch_refl, h0, hs, hp, hcap, h12, hl, hL⟩, fun g => Bool.noConfusion g, fun Q => ?_⟩
      rw [b156_52, if_neg (by decide), b156_56, kk_79 H, h16, h0]
      simp only [wr_id, wr_b2i, wr_wr, b2i_eq0, b2i_eq1, b2i_01, sm_rem_eq, sm_div_eq, wl_m2, wl_m1, wl_0, wl_1, wl_2, wl_3, wl_4, wl_5, wl_6, wl_7, wl_8, wl_9, wl_10, wl_12, wl_13, wl_14, wl_16, wl_20, wl_21, wl_22, wl_23, wl_32, wl_36, wl_40, wl_41, wl_42, wl_43, wl_44, wl_45, wl_46, wl_47, wl_48, wl_57, wl_59, wl_60, wl_61, wl_62, wl_65, wl_90, wl_97, wl_99, wl_100, wl_121, wl_122, wl_140, wl_142, wl_143, wl_145, wl_147, wl_160, wl_161, wl_162, wl_242, wl_380, wl_400, wl_420, wl_820, wl_1340, wl_5480, wl_9999, true_and, and_true, true_or, or_true, if_true, if_false, and_self, or_self, false_and, and_false, false_or, or_false, not_true_eq_false, not_false_eq_true, Int.reduceEq, Int.reduceLT, Int.reduceLE, Int.reduceToNat, Int.reduceAdd, Int.reduceMul, Int.reduceSub, Int.reduceMod, Int.reduceDiv, Int.reduceNeg, Nat.reduceEqDiff, sm_rd_ok, sm_rd_ok2, sm_wt_ok, sm_cp_ok, Option.isSome_some, Option.getD_some, w_cont, Option.toList_some, Option.toList_none, List.cons_append, List.nil_append]
      rfl
    · obtain ⟨Z1, r1, a1, a2, a3, a4⟩ := m_line (d := d) (n := n) (z := z) (tn := tn) (rt := rt) H hp hs h0 hms hcap h12 hl hL
      have k12 : Z1 79 12 = (ls.length : Int) := by
        rw [a1.2 12 (by omega), h12]
      have run : ∀ Q, sm_wp (d + 39) 156 52 [some (.inr (some 79)), l1, some (.inl 1), l3] [] (Z, Rf, K, n, z) Q = sm_wp (d + 39) 156 52 [some (.inr (some 79)), l1, some (.inl (b2i r1)), l3] [] (sm_u Z1 79 12 ((ls.length : Int) + b2i r1), Rf, K, n, z) Q := by
        intro Q
        rw [b156_52, if_neg (by decide), b156_56, kk_79 H, h16]
        simp only [wr_id, wr_b2i, wr_wr, b2i_eq0, b2i_eq1, b2i_01, sm_rem_eq, sm_div_eq, wl_m2, wl_m1, wl_0, wl_1, wl_2, wl_3, wl_4, wl_5, wl_6, wl_7, wl_8, wl_9, wl_10, wl_12, wl_13, wl_14, wl_16, wl_20, wl_21, wl_22, wl_23, wl_32, wl_36, wl_40, wl_41, wl_42, wl_43, wl_44, wl_45, wl_46, wl_47, wl_48, wl_57, wl_59, wl_60, wl_61, wl_62, wl_65, wl_90, wl_97, wl_99, wl_100, wl_121, wl_122, wl_140, wl_142, wl_143, wl_145, wl_147, wl_160, wl_161, wl_162, wl_242, wl_380, wl_400, wl_420, wl_820, wl_1340, wl_5480, wl_9999, true_and, and_true, true_or, or_true, if_true, if_false, and_self, or_self, false_and, and_false, false_or, or_false, not_true_eq_false, not_false_eq_true, Int.reduceEq, Int.reduceLT, Int.reduceLE, Int.reduceToNat, Int.reduceAdd, Int.reduceMul, Int.reduceSub, Int.reduceMod, Int.reduceDiv, Int.reduceNeg, Nat.reduceEqDiff, sm_rd_ok, sm_rd_ok2, sm_wt_ok, sm_cp_ok, Option.isSome_some, Option.getD_some, w_cont, Option.toList_some, Option.toList_none, List.cons_append, List.nil_append]
        rw [wr_id (by omega) (by omega), if_neg h0, b156_63, kk_79 H]
        simp only [wr_id, wr_b2i, wr_wr, b2i_eq0, b2i_eq1, b2i_01, sm_rem_eq, sm_div_eq, wl_m2, wl_m1, wl_0, wl_1, wl_2, wl_3, wl_4, wl_5, wl_6, wl_7, wl_8, wl_9, wl_10, wl_12, wl_13, wl_14, wl_16, wl_20, wl_21, wl_22, wl_23, wl_32, wl_36, wl_40, wl_41, wl_42, wl_43, wl_44, wl_45, wl_46, wl_47, wl_48, wl_57, wl_59, wl_60, wl_61, wl_62, wl_65, wl_90, wl_97, wl_99, wl_100, wl_121, wl_122, wl_140, wl_142, wl_143, wl_145, wl_147, wl_160, wl_161, wl_162, wl_242, wl_380, wl_400, wl_420, wl_820, wl_1340, wl_5480, wl_9999, true_and, and_true, true_or, or_true, if_true, if_false, and_self, or_self, false_and, and_false, false_or, or_false, not_true_eq_false, not_false_eq_true, Int.reduceEq, Int.reduceLT, Int.reduceLE, Int.reduceToNat, Int.reduceAdd, Int.reduceMul, Int.reduceSub, Int.reduceMod, Int.reduceDiv, Int.reduceNeg, Nat.reduceEqDiff, sm_rd_ok, sm_rd_ok2, sm_wt_ok, sm_cp_ok, Option.isSome_some, Option.getD_some, w_cont, Option.toList_some, Option.toList_none, List.cons_append, List.nil_append]
        refine (a4 _).trans ?_
        rw [w_cont]
        simp only [wr_id, wr_b2i, wr_wr, b2i_eq0, b2i_eq1, b2i_01, sm_rem_eq, sm_div_eq, wl_m2, wl_m1, wl_0, wl_1, wl_2, wl_3, wl_4, wl_5, wl_6, wl_7, wl_8, wl_9, wl_10, wl_12, wl_13, wl_14, wl_16, wl_20, wl_21, wl_22, wl_23, wl_32, wl_36, wl_40, wl_41, wl_42, wl_43, wl_44, wl_45, wl_46, wl_47, wl_48, wl_57, wl_59, wl_60, wl_61, wl_62, wl_65, wl_90, wl_97, wl_99, wl_100, wl_121, wl_122, wl_140, wl_142, wl_143, wl_145, wl_147, wl_160, wl_161, wl_162, wl_242, wl_380, wl_400, wl_420, wl_820, wl_1340, wl_5480, wl_9999, true_and, and_true, true_or, or_true, if_true, if_false, and_self, or_self, false_and, and_false, false_or, or_false, not_true_eq_false, not_false_eq_true, Int.reduceEq, Int.reduceLT, Int.reduceLE, Int.reduceToNat, Int.reduceAdd, Int.reduceMul, Int.reduceSub, Int.reduceMod, Int.reduceDiv, Int.reduceNeg, Nat.reduceEqDiff, sm_rd_ok, sm_rd_ok2, sm_wt_ok, sm_cp_ok, Option.isSome_some, Option.getD_some, w_cont, Option.toList_some, Option.toList_none, List.cons_append, List.nil_append]
        rw [b156_67, kk_79 H, k12]
        cases r1 with
        | false =>
          rw [if_pos (by decide), b156_81, b156_82, kk_79 H]
          simp only [wr_id, wr_b2i, wr_wr, b2i_eq0, b2i_eq1, b2i_01, sm_rem_eq, sm_div_eq, wl_m2, wl_m1, wl_0, wl_1, wl_2, wl_3, wl_4, wl_5, wl_6, wl_7, wl_8, wl_9, wl_10, wl_12, wl_13, wl_14, wl_16, wl_20, wl_21, wl_22, wl_23, wl_32, wl_36, wl_40, wl_41, wl_42, wl_43, wl_44, wl_45, wl_46, wl_47, wl_48, wl_57, wl_59, wl_60, wl_61, wl_62, wl_65, wl_90, wl_97, wl_99, wl_100, wl_121, wl_122, wl_140, wl_142, wl_143, wl_145, wl_147, wl_160, wl_161, wl_162, wl_242, wl_380, wl_400, wl_420, wl_820, wl_1340, wl_5480, wl_9999, true_and, and_true, true_or, or_true, if_true, if_false, and_self, or_self, false_and, and_false, false_or, or_false, not_true_eq_false, not_false_eq_true, Int.reduceEq, Int.reduceLT, Int.reduceLE, Int.reduceToNat, Int.reduceAdd, Int.reduceMul, Int.reduceSub, Int.reduceMod, Int.reduceDiv, Int.reduceNeg, Nat.reduceEqDiff, sm_rd_ok, sm_rd_ok2, sm_wt_ok, sm_cp_ok, Option.isSome_some, Option.getD_some, w_cont, Option.toList_some, Option.toList_none, List.cons_append, List.nil_append]
          rfl
        | true =>
          rw [if_neg (by decide), b156_77, b156_82, kk_79 H]
          simp only [wr_id, wr_b2i, wr_wr, b2i_eq0, b2i_eq1, b2i_01, sm_rem_eq, sm_div_eq, wl_m2, wl_m1, wl_0, wl_1, wl_2, wl_3, wl_4, wl_5, wl_6, wl_7, wl_8, wl_9, wl_10, wl_12, wl_13, wl_14, wl_16, wl_20, wl_21, wl_22, wl_23, wl_32, wl_36, wl_40, wl_41, wl_42, wl_43, wl_44, wl_45, wl_46, wl_47, wl_48, wl_57, wl_59, wl_60, wl_61, wl_62, wl_65, wl_90, wl_97, wl_99, wl_100, wl_121, wl_122, wl_140, wl_142, wl_143, wl_145, wl_147, wl_160, wl_161, wl_162, wl_242, wl_380, wl_400, wl_420, wl_820, wl_1340, wl_5480, wl_9999, true_and, and_true, true_or, or_true, if_true, if_false, and_self, or_self, false_and, and_false, false_or, or_false, not_true_eq_false, not_false_eq_true, Int.reduceEq, Int.reduceLT, Int.reduceLE, Int.reduceToNat, Int.reduceAdd, Int.reduceMul, Int.reduceSub, Int.reduceMod, Int.reduceDiv, Int.reduceNeg, Nat.reduceEqDiff, sm_rd_ok, sm_rd_ok2, sm_wt_ok, sm_cp_ok, Option.isSome_some, Option.getD_some, w_cont, Option.toList_some, Option.toList_none, List.cons_append, List.nil_append]
          rfl
      cases r1 with
      | false =>
        obtain ⟨k, s', e1, e2, e3, e4⟩ := a3 rfl
        refine ⟨sm_u Z1 79 12 ((ls.length : Int) + b2i false), false, frV_trans (frV_Y a1) frV_12, fun g => Bool.noConfusion g, fun _ => ⟨k, s', e1, e2, by rw [sm_u_eq, if_neg (by decide)]; exact e3, by rw [sm_u_eq, if_neg (by decide)]; exact e4⟩, fun Q => ?_⟩
        rw [run, b156_52, if_pos (by decide)]
      | true =>
        obtain ⟨s', p, ms', rc', D', tn', rt', e1, e2, e3, e4, e5, e6, e7, e8⟩ := a2 rfl
        have hb : b2i true = 1 := rfl
        rw [hb] at run
        obtain ⟨Z2, b, c1, c2, c3, c4⟩ := ih s' ms' rc' (p :: ls) (sm_u Z1 79 12 ((ls.length : Int) + 1)) D' tn' rt' (by omega) e3 (pM_12 e4) e5 (by rw [List.length_cons]; omega) (by rw [sm_u_self, List.length_cons]; omega) (by rw [List.length_cons]; omega) (by rw [sm_u_row (by decide)]; exact e8)
        refine ⟨Z2, b, frV_trans (frV_trans (frV_Y a1) frV_12) c1, fun hb2 => ?_, fun hb2 => ?_, fun Q => ?_⟩
        · obtain ⟨s2, ms2, rc2, ls2, D2, tn2, rt2, x1, x2⟩ := c2 hb2
          exact ⟨s2, ms2, rc2, ls2, D2, tn2, rt2, rch_trans e1 x1, x2⟩
        · obtain ⟨k, s2, x1, x2, x3⟩ := c3 hb2
          exact ⟨k, s2, x1, rch_flt e1 x2, x3⟩
        · rw [run]
          exact c4 Q
end LINES
