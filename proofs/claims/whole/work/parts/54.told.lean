def hbA (M : Nat → Int) (k : Nat) : Nat → Int := fun i => M (2200 + 820 * k + 2 * i)
def hbB (M : Nat → Int) (k : Nat) : Nat → Int := fun i => M (2201 + 820 * k + 2 * i)
/-- what the first line does whose condition is so -/
def toR (M : Nat → Int) (k : Nat) (F : Int → Int) : Nat → Nat → Int
  | 0, _ => 0
  | c + 1, i => if M (2130 + 16 * k + i) = M (2060 + 16 * k + i) then M (1990 + 16 * k + i) else if evR (hbA M k) (hbB M k) F ((M (2130 + 16 * k + i)).toNat - (M (2060 + 16 * k + i)).toNat) (M (2060 + 16 * k + i)).toNat [] = [1] then M (1990 + 16 * k + i) else toR M k F c (i + 1)
/-- a habit's lines are sound -/
def wfL (M : Nat → Int) (k L : Nat) (P : Nat → Nat) : Prop := M (1985 + k) = (L : Int) ∧ L ≤ 16 ∧ P 0 = 0 ∧ ∀ i, i < L → M (2060 + 16 * k + i) = (P i : Int) ∧ M (2130 + 16 * k + i) = (P (i + 1) : Int) ∧ P i ≤ P (i + 1) ∧ P (i + 1) ≤ 400 ∧ (0 ≤ M (1990 + 16 * k + i) ∧ M (1990 + 16 * k + i) ≤ 4) ∧ (P i < P (i + 1) → tyR (hbA M k) (hbB M k) (P (i + 1) - P i) (P i) [] [true])
/-- a row holds a habit's orders -/
def cdH (C : Nat → Int) (M : Nat → Int) (k L : Nat) (P : Nat → Nat) : Prop := ∀ i, i < L → (∀ s, P i ≤ s → s < P (i + 1) → C (s + i) = cOrd (hbA M k s) (hbB M k s)) ∧ C (P (i + 1) + i) = 16 * cW (M (1990 + 16 * k + i)) + (if P i = P (i + 1) then 12 else 13)
theorem wfL_mono {M : Nat → Int} {k L : Nat} {P : Nat → Nat} (h : wfL M k L P) : ∀ j i, i + j = L → P i ≤ P L := by
  intro j
  induction j with
  | zero => intro i hi; rw [show i = L by omega]; exact Nat.le_refl _
  | succ j ih =>
    intro i hi
    have h1 := (h.2.2.2 i (by omega)).2.2.1
    have h2 := ih (i + 1) (by omega)
    omega
theorem cW_bd {w : Int} (h : 0 ≤ w ∧ w ≤ 4) : 0 ≤ cW w ∧ cW w ≤ 4 := by
  unfold cW
  repeat' split
  all_goals omega
section TOLD
variable {d n z : Nat} {Rf : Nat → Nat → Option Nat} {K : Nat → Nat × Nat} {F : Int → Int}
theorem m_told_loop (H : sm_sh Rf K) {k : Nat} (hk : k < 4) {M : Nat → Int} {L : Nat} {P : Nat → Nat} (hw : wfL M k L P) : ∀ (m i : Nat) (Z : Nat → Nat → Int) (l3 : Option sm_V), i + m = L → Z 80 = M → (∀ s, 1 ≤ s → s ≤ 9 → Z 88 s.toNat = F s) → ∃ Z', (∀ a, a ≠ 87 → Z' a = Z a) ∧ ∀ Q, sm_wp (d + 2) 166 2 [some (.inr (some 79)), some (.inl (k : Int)), some (.inl (i : Int)), l3] [] (Z, Rf, K, n, z) Q = Q (some (.inl (toR M k F m i))) (Z', Rf, K, n, z) := by
  intro m
  induction m with
  | zero =>
    intro i Z l3 hi hM hF
    refine ⟨Z, fun a _ => rfl, fun Q => ?_⟩
    have hl := hw.1
    have hl2 := hw.2.1
    rw [b166_2, kk_79 H, rr_79_0 H]
    simp (disch := omega) only [wr_id, wr_b2i, wr_wr, b2i_eq0, b2i_eq1, b2i_01, sm_rem_eq, sm_div_eq, wl_m2, wl_m1, wl_0, wl_1, wl_2, wl_3, wl_4, wl_5, wl_6, wl_7, wl_8, wl_9, wl_10, wl_12, wl_13, wl_14, wl_16, wl_20, wl_21, wl_22, wl_23, wl_32, wl_36, wl_40, wl_41, wl_42, wl_43, wl_44, wl_45, wl_46, wl_47, wl_48, wl_57, wl_59, wl_60, wl_61, wl_62, wl_65, wl_90, wl_97, wl_99, wl_100, wl_121, wl_122, wl_140, wl_142, wl_143, wl_145, wl_147, wl_160, wl_161, wl_162, wl_242, wl_380, wl_400, wl_420, wl_820, wl_1340, wl_5480, wl_9999, true_and, and_true, true_or, or_true, if_true, if_false, and_self, or_self, false_and, and_false, false_or, or_false, not_true_eq_false, not_false_eq_true, Int.reduceEq, Int.reduceLT, Int.reduceLE, Int.reduceToNat, Int.reduceAdd, Int.reduceMul, Int.reduceSub, Int.reduceMod, Int.reduceDiv, Int.reduceNeg, Nat.reduceEqDiff, sm_rd_ok, sm_rd_ok2, sm_wt_ok, sm_cp_ok, Option.isSome_some, Option.getD_some, w_cont, Option.toList_some, Option.toList_none, List.cons_append, List.nil_append, kk_80 H, hM]
    rw [show (1985 + (k : Int)).toNat = 1985 + k by omega, hl, wr_id (by omega) (by omega), if_pos (by omega), b166_92]
    rfl
  | succ m ih =>
    intro i Z l3 hi hM hF
    have hl := hw.1
    have hl2 := hw.2.1
    obtain ⟨h1, h2, h3, h4, h5, h6⟩ := hw.2.2.2 i (by omega)
    have n1 : (1985 + (k : Int)).toNat = 1985 + k := by omega
    have n2 : (2130 + (16 * (k : Int) + (i : Int))).toNat = 2130 + 16 * k + i := by omega
    have n3 : (2060 + (16 * (k : Int) + (i : Int))).toNat = 2060 + 16 * k + i := by omega
    have n4 : (1990 + (16 * (k : Int) + (i : Int))).toNat = 1990 + 16 * k + i := by omega
    have head : ∀ Q, sm_wp (d + 2) 166 2 [some (.inr (some 79)), some (.inl (k : Int)), some (.inl (i : Int)), l3] [] (Z, Rf, K, n, z) Q = if (P (i + 1) : Int) = (P i : Int) then sm_wp (d + 2) 166 75 [some (.inr (some 79)), some (.inl (k : Int)), some (.inl (i : Int)), some (.inl (16 * (k : Int) + (i : Int)))] [] (Z, Rf, K, n, z) Q else sm_wp (d + 2) 166 46 [some (.inr (some 79)), some (.inl (k : Int)), some (.inl (i : Int)), some (.inl (16 * (k : Int) + (i : Int)))] [] (Z, Rf, K, n, z) Q := by
      intro Q
      rw [b166_2, kk_79 H, rr_79_0 H]
      simp (disch := omega) only [wr_id, wr_b2i, wr_wr, b2i_eq0, b2i_eq1, b2i_01, sm_rem_eq, sm_div_eq, wl_m2, wl_m1, wl_0, wl_1, wl_2, wl_3, wl_4, wl_5, wl_6, wl_7, wl_8, wl_9, wl_10, wl_12, wl_13, wl_14, wl_16, wl_20, wl_21, wl_22, wl_23, wl_32, wl_36, wl_40, wl_41, wl_42, wl_43, wl_44, wl_45, wl_46, wl_47, wl_48, wl_57, wl_59, wl_60, wl_61, wl_62, wl_65, wl_90, wl_97, wl_99, wl_100, wl_121, wl_122, wl_140, wl_142, wl_143, wl_145, wl_147, wl_160, wl_161, wl_162, wl_242, wl_380, wl_400, wl_420, wl_820, wl_1340, wl_5480, wl_9999, true_and, and_true, true_or, or_true, if_true, if_false, and_self, or_self, false_and, and_false, false_or, or_false, not_true_eq_false, not_false_eq_true, Int.reduceEq, Int.reduceLT, Int.reduceLE, Int.reduceToNat, Int.reduceAdd, Int.reduceMul, Int.reduceSub, Int.reduceMod, Int.reduceDiv, Int.reduceNeg, Nat.reduceEqDiff, sm_rd_ok, sm_rd_ok2, sm_wt_ok, sm_cp_ok, Option.isSome_some, Option.getD_some, w_cont, Option.toList_some, Option.toList_none, List.cons_append, List.nil_append, kk_80 H, hM, n1, hl]
      rw [if_neg (by omega), b166_16, kk_79 H, rr_79_0 H]
      simp (disch := omega) only [wr_id, wr_b2i, wr_wr, b2i_eq0, b2i_eq1, b2i_01, sm_rem_eq, sm_div_eq, wl_m2, wl_m1, wl_0, wl_1, wl_2, wl_3, wl_4, wl_5, wl_6, wl_7, wl_8, wl_9, wl_10, wl_12, wl_13, wl_14, wl_16, wl_20, wl_21, wl_22, wl_23, wl_32, wl_36, wl_40, wl_41, wl_42, wl_43, wl_44, wl_45, wl_46, wl_47, wl_48, wl_57, wl_59, wl_60, wl_61, wl_62, wl_65, wl_90, wl_97, wl_99, wl_100, wl_121, wl_122, wl_140, wl_142, wl_143, wl_145, wl_147, wl_160, wl_161, wl_162, wl_242, wl_380, wl_400, wl_420, wl_820, wl_1340, wl_5480, wl_9999, true_and, and_true, true_or, or_true, if_true, if_false, and_self, or_self, false_and, and_false, false_or, or_false, not_true_eq_false, not_false_eq_true, Int.reduceEq, Int.reduceLT, Int.reduceLE, Int.reduceToNat, Int.reduceAdd, Int.reduceMul, Int.reduceSub, Int.reduceMod, Int.reduceDiv, Int.reduceNeg, Nat.reduceEqDiff, sm_rd_ok, sm_rd_ok2, sm_wt_ok, sm_cp_ok, Option.isSome_some, Option.getD_some, w_cont, Option.toList_some, Option.toList_none, List.cons_append, List.nil_append, kk_80 H, hM, n2, n3, h1, h2]
    have tail : ∀ (Z : Nat → Nat → Int) Q, Z 80 = M → sm_wp (d + 2) 166 75 [some (.inr (some 79)), some (.inl (k : Int)), some (.inl (i : Int)), some (.inl (16 * (k : Int) + (i : Int)))] [] (Z, Rf, K, n, z) Q = Q (some (.inl (M (1990 + 16 * k + i)))) (Z, Rf, K, n, z) := by
      intro Z Q hM
      rw [b166_75, kk_79 H, rr_79_0 H]
      simp (disch := omega) only [wr_id, wr_b2i, wr_wr, b2i_eq0, b2i_eq1, b2i_01, sm_rem_eq, sm_div_eq, wl_m2, wl_m1, wl_0, wl_1, wl_2, wl_3, wl_4, wl_5, wl_6, wl_7, wl_8, wl_9, wl_10, wl_12, wl_13, wl_14, wl_16, wl_20, wl_21, wl_22, wl_23, wl_32, wl_36, wl_40, wl_41, wl_42, wl_43, wl_44, wl_45, wl_46, wl_47, wl_48, wl_57, wl_59, wl_60, wl_61, wl_62, wl_65, wl_90, wl_97, wl_99, wl_100, wl_121, wl_122, wl_140, wl_142, wl_143, wl_145, wl_147, wl_160, wl_161, wl_162, wl_242, wl_380, wl_400, wl_420, wl_820, wl_1340, wl_5480, wl_9999, true_and, and_true, true_or, or_true, if_true, if_false, and_self, or_self, false_and, and_false, false_or, or_false, not_true_eq_false, not_false_eq_true, Int.reduceEq, Int.reduceLT, Int.reduceLE, Int.reduceToNat, Int.reduceAdd, Int.reduceMul, Int.reduceSub, Int.reduceMod, Int.reduceDiv, Int.reduceNeg, Nat.reduceEqDiff, sm_rd_ok, sm_rd_ok2, sm_wt_ok, sm_cp_ok, Option.isSome_some, Option.getD_some, w_cont, Option.toList_some, Option.toList_none, List.cons_append, List.nil_append, kk_80 H, hM, n4]
    by_cases he : P (i + 1) = P i
    · refine ⟨Z, fun a _ => rfl, fun Q => ?_⟩
      rw [head, if_pos (by omega), tail Z Q hM]
      simp only [toR]
      rw [if_pos (by omega)]
    · obtain ⟨Z1, v, e1, e2, e3, e4⟩ := m_comesTo (d := d) (n := n) (z := z) (A := hbA M k) (B := hbB M k) (F := F) H hk (i := P i) (e := P (i + 1)) h4 h3 (Z := Z) (fun j _ _ => by rw [hM]; exact ⟨rfl, rfl⟩) hF (h6 (by omega))
      have mid : ∀ Q, sm_wp (d + 2) 166 46 [some (.inr (some 79)), some (.inl (k : Int)), some (.inl (i : Int)), some (.inl (16 * (k : Int) + (i : Int)))] [] (Z, Rf, K, n, z) Q = if v = 1 then sm_wp (d + 2) 166 75 [some (.inr (some 79)), some (.inl (k : Int)), some (.inl (i : Int)), some (.inl (16 * (k : Int) + (i : Int)))] [] (Z1, Rf, K, n, z) Q else sm_wp (d + 2) 166 86 [some (.inr (some 79)), some (.inl (k : Int)), some (.inl (i : Int)), some (.inl (16 * (k : Int) + (i : Int)))] [] (Z1, Rf, K, n, z) Q := by
        intro Q
        rw [b166_46, kk_79 H, rr_79_0 H]
        simp (disch := omega) only [wr_id, wr_b2i, wr_wr, b2i_eq0, b2i_eq1, b2i_01, sm_rem_eq, sm_div_eq, wl_m2, wl_m1, wl_0, wl_1, wl_2, wl_3, wl_4, wl_5, wl_6, wl_7, wl_8, wl_9, wl_10, wl_12, wl_13, wl_14, wl_16, wl_20, wl_21, wl_22, wl_23, wl_32, wl_36, wl_40, wl_41, wl_42, wl_43, wl_44, wl_45, wl_46, wl_47, wl_48, wl_57, wl_59, wl_60, wl_61, wl_62, wl_65, wl_90, wl_97, wl_99, wl_100, wl_121, wl_122, wl_140, wl_142, wl_143, wl_145, wl_147, wl_160, wl_161, wl_162, wl_242, wl_380, wl_400, wl_420, wl_820, wl_1340, wl_5480, wl_9999, true_and, and_true, true_or, or_true, if_true, if_false, and_self, or_self, false_and, and_false, false_or, or_false, not_true_eq_false, not_false_eq_true, Int.reduceEq, Int.reduceLT, Int.reduceLE, Int.reduceToNat, Int.reduceAdd, Int.reduceMul, Int.reduceSub, Int.reduceMod, Int.reduceDiv, Int.reduceNeg, Nat.reduceEqDiff, sm_rd_ok, sm_rd_ok2, sm_wt_ok, sm_cp_ok, Option.isSome_some, Option.getD_some, w_cont, Option.toList_some, Option.toList_none, List.cons_append, List.nil_append, kk_80 H, hM, n2, n3, h1, h2, e4]
        rw [b166_71, wr_id (by omega) (by omega)]
      have hto : toR M k F (m + 1) i = if v = 1 then M (1990 + 16 * k + i) else toR M k F m (i + 1) := by
        simp only [toR]
        rw [if_neg (by omega), h1, h2, Int.toNat_natCast, Int.toNat_natCast, e3]
        simp only [List.cons.injEq, and_true]
      by_cases hv : v = 1
      · refine ⟨Z1, e1, fun Q => ?_⟩
        rw [head, if_neg (by omega), mid, if_pos hv, tail Z1 Q (by rw [e1 80 (by decide)]; exact hM), hto, if_pos hv]
      · obtain ⟨Z2, f1, f2⟩ := ih (i + 1) Z1 (some (.inl (16 * (k : Int) + (i : Int)))) (by omega) (by rw [e1 80 (by decide)]; exact hM) (fun s h1 h2 => by rw [e1 88 (by decide)]; exact hF s h1 h2)
        refine ⟨Z2, fun a ha => by rw [f1 a ha, e1 a ha], fun Q => ?_⟩
        rw [head, if_neg (by omega), mid, if_neg hv, b166_86, show (i : Int) + 1 = ((i + 1 : Nat) : Int) by omega, f2, hto, if_neg hv]
theorem m_told (H : sm_sh Rf K) {k : Nat} (hk : k < 4) {L : Nat} {P : Nat → Nat} {Z : Nat → Nat → Int} (hw : wfL (Z 80) k L P) (hF : ∀ s, 1 ≤ s → s ≤ 9 → Z 88 s.toNat = F s) : ∃ Z', (∀ a, a ≠ 87 → Z' a = Z a) ∧ ∀ Q, sm_call (d + 2) 166 [.inr (some 79), .inl (k : Int)] (Z, Rf, K, n, z) Q = Q (some (.inl (toR (Z 80) k F L 0))) (Z', Rf, K, n, z) := by
  obtain ⟨Z', h1, h2⟩ := m_told_loop (d := d) (n := n) (z := z) (F := F) H hk hw L 0 Z none (by omega) rfl hF
  refine ⟨Z', h1, fun Q => ?_⟩
  rw [ce166, b166_0]
  exact h2 Q
end TOLD
theorem kiS_bd {s : Int} : 4 ≤ kiS s ∧ kiS s ≤ 11 := by
  unfold kiS
  repeat' split
  all_goals omega
theorem cOrd_bd {s v : Int} {t t' : List Bool} (h : tyS s v t t') : 0 ≤ cOrd s v ∧ cOrd s v < 200000 := by
  rcases h with ⟨rfl, _, hv, _⟩ | ⟨hs, _⟩ | ⟨rfl, hv, _⟩ | ⟨rfl, _⟩ | ⟨b, r, c, _, _, hs⟩
  · show 0 ≤ 16 * v ∧ 16 * v < 200000
    omega
  · unfold cOrd
    rw [if_neg (by omega), if_pos (by omega)]
    omega
  · show 0 ≤ 16 * v + 2 ∧ 16 * v + 2 < 200000
    omega
  · show (0 : Int) ≤ 3 ∧ (3 : Int) < 200000
    omega
  · have := kiS_bd (s := s)
    unfold cOrd
    rw [if_neg (by omega), if_neg (by omega), if_neg (by omega), if_neg (by omega)]
    omega
section CHOOSE
variable {d n z : Nat} {Rf : Nat → Nat → Option Nat} {K : Nat → Nat × Nat} {A B : Nat → Int} {F : Int → Int} {a q : Nat} {len : Nat}
set_option maxHeartbeats 2000000 in
theorem c_ev1 (H : sm_sh Rf K) (hKa : K a = (2, 2)) (hRa : Rf a 1 = some q) (hKq : K q = (100, len)) (hq62 : q ≠ 62) {i o : Nat} (hlen : i + o < len) (hl5 : len ≤ 1000) {t t' : List Bool} {st : List Int} {Z : Nat → Nat → Int} (l5 l6 : Option sm_V) (hC : Z q (i + o) = cOrd (A i) (B i)) (hF : ∀ s, 1 ≤ s → s ≤ 9 → Z 61 (s - 1).toNat = F s) (hty : tyS (A i) (B i) t t') (ho : tyO t st) (hst : stk (Z 62) st) (hle : st.length ≤ 32) : ∃ Z' l5' l6', stk (Z' 62) (evS F (A i) (B i) st) ∧ (∀ a, a ≠ 62 → Z' a = Z a) ∧ (evS F (A i) (B i) st).length ≤ 32 ∧ ∀ Q, sm_wp (d + 1) 22 5 [some (.inr (some a)), some (.inr (some 61)), some (.inr (some 62)), some (.inl (st.length : Int)), some (.inl ((i + o : Nat) : Int)), l5, l6] [] (Z, Rf, K, n, z) Q = sm_wp (d + 1) 22 5 [some (.inr (some a)), some (.inr (some 61)), some (.inr (some 62)), some (.inl ((evS F (A i) (B i) st).length : Int)), some (.inl ((i + 1 + o : Nat) : Int)), l5', l6'] [] (Z', Rf, K, n, z) Q := by
  have hlen2 := tyO_len ho
  have hob := cOrd_bd hty
  have hK62 := kk_62 H
  have hK61 := kk_61 H
  have head : ∀ (kd nu : Int), cOrd (A i) (B i) % 16 = kd → cOrd (A i) (B i) / 16 = nu → kd ≠ 12 → ∀ Q, sm_wp (d + 1) 22 5 [some (.inr (some a)), some (.inr (some 61)), some (.inr (some 62)), some (.inl (st.length : Int)), some (.inl ((i + o : Nat) : Int)), l5, l6] [] (Z, Rf, K, n, z) Q = sm_wp (d + 1) 22 48 [some (.inr (some a)), some (.inr (some 61)), some (.inr (some 62)), some (.inl (st.length : Int)), some (.inl ((i + o : Nat) : Int)), some (.inl kd), some (.inl nu)] [] (Z, Rf, K, n, z) Q := by
    intro kd nu h1 h2 h3 Q
    have e4 := shr_bv (cOrd (A i) (B i)) 4 (by omega)
    rw [wr_id (by omega) (by omega)] at e4
    rw [b22_5, hKa, hRa]
    simp (disch := omega) only [wr_id, wr_b2i, wr_wr, b2i_eq0, b2i_eq1, b2i_01, sm_rem_eq, sm_div_eq, wl_m2, wl_m1, wl_0, wl_1, wl_2, wl_3, wl_4, wl_5, wl_6, wl_7, wl_8, wl_9, wl_10, wl_12, wl_13, wl_14, wl_16, wl_20, wl_21, wl_22, wl_23, wl_32, wl_36, wl_40, wl_41, wl_42, wl_43, wl_44, wl_45, wl_46, wl_47, wl_48, wl_57, wl_59, wl_60, wl_61, wl_62, wl_65, wl_90, wl_97, wl_99, wl_100, wl_121, wl_122, wl_140, wl_142, wl_143, wl_145, wl_147, wl_160, wl_161, wl_162, wl_242, wl_380, wl_400, wl_420, wl_820, wl_1340, wl_5480, wl_9999, true_and, and_true, true_or, or_true, if_true, if_false, and_self, or_self, false_and, and_false, false_or, or_false, not_true_eq_false, not_false_eq_true, Int.reduceEq, Int.reduceLT, Int.reduceLE, Int.reduceToNat, Int.reduceAdd, Int.reduceMul, Int.reduceSub, Int.reduceMod, Int.reduceDiv, Int.reduceNeg, Nat.reduceEqDiff, sm_rd_ok, sm_rd_ok2, sm_wt_ok, sm_cp_ok, Option.isSome_some, Option.getD_some, w_cont, Option.toList_some, Option.toList_none, List.cons_append, List.nil_append, hKq]
    rw [if_neg (by omega), b22_15, hKa, hRa]
    simp (disch := omega) only [wr_id, wr_b2i, wr_wr, b2i_eq0, b2i_eq1, b2i_01, sm_rem_eq, sm_div_eq, wl_m2, wl_m1, wl_0, wl_1, wl_2, wl_3, wl_4, wl_5, wl_6, wl_7, wl_8, wl_9, wl_10, wl_12, wl_13, wl_14, wl_16, wl_20, wl_21, wl_22, wl_23, wl_32, wl_36, wl_40, wl_41, wl_42, wl_43, wl_44, wl_45, wl_46, wl_47, wl_48, wl_57, wl_59, wl_60, wl_61, wl_62, wl_65, wl_90, wl_97, wl_99, wl_100, wl_121, wl_122, wl_140, wl_142, wl_143, wl_145, wl_147, wl_160, wl_161, wl_162, wl_242, wl_380, wl_400, wl_420, wl_820, wl_1340, wl_5480, wl_9999, true_and, and_true, true_or, or_true, if_true, if_false, and_self, or_self, false_and, and_false, false_or, or_false, not_true_eq_false, not_false_eq_true, Int.reduceEq, Int.reduceLT, Int.reduceLE, Int.reduceToNat, Int.reduceAdd, Int.reduceMul, Int.reduceSub, Int.reduceMod, Int.reduceDiv, Int.reduceNeg, Nat.reduceEqDiff, sm_rd_ok, sm_rd_ok2, sm_wt_ok, sm_cp_ok, Option.isSome_some, Option.getD_some, w_cont, Option.toList_some, Option.toList_none, List.cons_append, List.nil_append, hKq, Int.toNat_natCast, hC, and_15]
    rw [h1, if_neg h3]
    have e5 : sm_shr (cOrd (A i) (B i)) 4 = nu := by
      refine Eq.trans e4 ?_
      rw [← h2]
      rfl
    rw [e5]
  rcases hty with ⟨h0, hl, hv, rfl⟩ | ⟨h0, hl, rfl⟩ | ⟨h0, hv, ⟨r, rfl⟩, rfl⟩ | ⟨h0, ⟨r, rfl⟩, rfl⟩ | ⟨b, r, c, rfl, rfl, h0⟩
  · have ev : evS F (A i) (B i) st = B i :: st := by unfold evS; rw [if_pos (by omega), if_pos h0]
    have eo : cOrd (A i) (B i) = 16 * B i := by unfold cOrd; rw [if_pos h0]
    refine ⟨sm_u Z 62 st.length (B i), some (.inl 0), some (.inl (B i)), ?_, fun a ha => sm_u_row ha, ?_, ?_⟩
    · rw [ev]; exact stk_put hst
    · rw [ev, List.length_cons]; omega
    · intro Q
      rw [head 0 (B i) (by omega) (by omega) (by decide), b22_48, wl_0, if_pos rfl, b22_59, hK62]
      simp (disch := omega) only [wr_id, wr_b2i, wr_wr, b2i_eq0, b2i_eq1, b2i_01, sm_rem_eq, sm_div_eq, wl_m2, wl_m1, wl_0, wl_1, wl_2, wl_3, wl_4, wl_5, wl_6, wl_7, wl_8, wl_9, wl_10, wl_12, wl_13, wl_14, wl_16, wl_20, wl_21, wl_22, wl_23, wl_32, wl_36, wl_40, wl_41, wl_42, wl_43, wl_44, wl_45, wl_46, wl_47, wl_48, wl_57, wl_59, wl_60, wl_61, wl_62, wl_65, wl_90, wl_97, wl_99, wl_100, wl_121, wl_122, wl_140, wl_142, wl_143, wl_145, wl_147, wl_160, wl_161, wl_162, wl_242, wl_380, wl_400, wl_420, wl_820, wl_1340, wl_5480, wl_9999, true_and, and_true, true_or, or_true, if_true, if_false, and_self, or_self, false_and, and_false, false_or, or_false, not_true_eq_false, not_false_eq_true, Int.reduceEq, Int.reduceLT, Int.reduceLE, Int.reduceToNat, Int.reduceAdd, Int.reduceMul, Int.reduceSub, Int.reduceMod, Int.reduceDiv, Int.reduceNeg, Nat.reduceEqDiff, sm_rd_ok, sm_rd_ok2, sm_wt_ok, sm_cp_ok, Option.isSome_some, Option.getD_some, w_cont, Option.toList_some, Option.toList_none, List.cons_append, List.nil_append]
      rw [if_neg (by omega), b22_65, wl_0, if_neg (by decide), b22_80, wl_0, if_pos rfl, b22_87, b22_96, hK62]
      simp (disch := omega) only [wr_id, wr_b2i, wr_wr, b2i_eq0, b2i_eq1, b2i_01, sm_rem_eq, sm_div_eq, wl_m2, wl_m1, wl_0, wl_1, wl_2, wl_3, wl_4, wl_5, wl_6, wl_7, wl_8, wl_9, wl_10, wl_12, wl_13, wl_14, wl_16, wl_20, wl_21, wl_22, wl_23, wl_32, wl_36, wl_40, wl_41, wl_42, wl_43, wl_44, wl_45, wl_46, wl_47, wl_48, wl_57, wl_59, wl_60, wl_61, wl_62, wl_65, wl_90, wl_97, wl_99, wl_100, wl_121, wl_122, wl_140, wl_142, wl_143, wl_145, wl_147, wl_160, wl_161, wl_162, wl_242, wl_380, wl_400, wl_420, wl_820, wl_1340, wl_5480, wl_9999, true_and, and_true, true_or, or_true, if_true, if_false, and_self, or_self, false_and, and_false, false_or, or_false, not_true_eq_false, not_false_eq_true, Int.reduceEq, Int.reduceLT, Int.reduceLE, Int.reduceToNat, Int.reduceAdd, Int.reduceMul, Int.reduceSub, Int.reduceMod, Int.reduceDiv, Int.reduceNeg, Nat.reduceEqDiff, sm_rd_ok, sm_rd_ok2, sm_wt_ok, sm_cp_ok, Option.isSome_some, Option.getD_some, w_cont, Option.toList_some, Option.toList_none, List.cons_append, List.nil_append, Int.toNat_natCast]
      rw [b22_209, ev, List.length_cons, show i + 1 + o = i + o + 1 by omega]
      rfl
  · have ev : evS F (A i) (B i) st = F (A i) :: st := by unfold evS; rw [if_pos (by omega), if_neg (by omega)]
    have eo : cOrd (A i) (B i) = 16 * (A i - 1) + 1 := by unfold cOrd; rw [if_neg (by omega), if_pos (by omega)]
    refine ⟨sm_u Z 62 st.length (F (A i)), some (.inl 1), some (.inl (A i - 1)), ?_, fun a ha => sm_u_row ha, ?_, ?_⟩
    · rw [ev]; exact stk_put hst
    · rw [ev, List.length_cons]; omega
    · intro Q
      rw [head 1 (A i - 1) (by omega) (by omega) (by decide), b22_48, wl_1, if_neg (by decide), b22_53, wl_1, if_pos rfl, b22_59, hK62]
      simp (disch := omega) only [wr_id, wr_b2i, wr_wr, b2i_eq0, b2i_eq1, b2i_01, sm_rem_eq, sm_div_eq, wl_m2, wl_m1, wl_0, wl_1, wl_2, wl_3, wl_4, wl_5, wl_6, wl_7, wl_8, wl_9, wl_10, wl_12, wl_13, wl_14, wl_16, wl_20, wl_21, wl_22, wl_23, wl_32, wl_36, wl_40, wl_41, wl_42, wl_43, wl_44, wl_45, wl_46, wl_47, wl_48, wl_57, wl_59, wl_60, wl_61, wl_62, wl_65, wl_90, wl_97, wl_99, wl_100, wl_121, wl_122, wl_140, wl_142, wl_143, wl_145, wl_147, wl_160, wl_161, wl_162, wl_242, wl_380, wl_400, wl_420, wl_820, wl_1340, wl_5480, wl_9999, true_and, and_true, true_or, or_true, if_true, if_false, and_self, or_self, false_and, and_false, false_or, or_false, not_true_eq_false, not_false_eq_true, Int.reduceEq, Int.reduceLT, Int.reduceLE, Int.reduceToNat, Int.reduceAdd, Int.reduceMul, Int.reduceSub, Int.reduceMod, Int.reduceDiv, Int.reduceNeg, Nat.reduceEqDiff, sm_rd_ok, sm_rd_ok2, sm_wt_ok, sm_cp_ok, Option.isSome_some, Option.getD_some, w_cont, Option.toList_some, Option.toList_none, List.cons_append, List.nil_append]
      rw [if_neg (by omega), b22_65, wl_1, if_pos rfl, b22_71, hK61]
      simp (disch := omega) only [wr_id, wr_b2i, wr_wr, b2i_eq0, b2i_eq1, b2i_01, sm_rem_eq, sm_div_eq, wl_m2, wl_m1, wl_0, wl_1, wl_2, wl_3, wl_4, wl_5, wl_6, wl_7, wl_8, wl_9, wl_10, wl_12, wl_13, wl_14, wl_16, wl_20, wl_21, wl_22, wl_23, wl_32, wl_36, wl_40, wl_41, wl_42, wl_43, wl_44, wl_45, wl_46, wl_47, wl_48, wl_57, wl_59, wl_60, wl_61, wl_62, wl_65, wl_90, wl_97, wl_99, wl_100, wl_121, wl_122, wl_140, wl_142, wl_143, wl_145, wl_147, wl_160, wl_161, wl_162, wl_242, wl_380, wl_400, wl_420, wl_820, wl_1340, wl_5480, wl_9999, true_and, and_true, true_or, or_true, if_true, if_false, and_self, or_self, false_and, and_false, false_or, or_false, not_true_eq_false, not_false_eq_true, Int.reduceEq, Int.reduceLT, Int.reduceLE, Int.reduceToNat, Int.reduceAdd, Int.reduceMul, Int.reduceSub, Int.reduceMod, Int.reduceDiv, Int.reduceNeg, Nat.reduceEqDiff, sm_rd_ok, sm_rd_ok2, sm_wt_ok, sm_cp_ok, Option.isSome_some, Option.getD_some, w_cont, Option.toList_some, Option.toList_none, List.cons_append, List.nil_append]
      rw [if_pos (by omega), b22_80, wl_1, if_neg (by decide), b22_92, hK61]
      simp (disch := omega) only [wr_id, wr_b2i, wr_wr, b2i_eq0, b2i_eq1, b2i_01, sm_rem_eq, sm_div_eq, wl_m2, wl_m1, wl_0, wl_1, wl_2, wl_3, wl_4, wl_5, wl_6, wl_7, wl_8, wl_9, wl_10, wl_12, wl_13, wl_14, wl_16, wl_20, wl_21, wl_22, wl_23, wl_32, wl_36, wl_40, wl_41, wl_42, wl_43, wl_44, wl_45, wl_46, wl_47, wl_48, wl_57, wl_59, wl_60, wl_61, wl_62, wl_65, wl_90, wl_97, wl_99, wl_100, wl_121, wl_122, wl_140, wl_142, wl_143, wl_145, wl_147, wl_160, wl_161, wl_162, wl_242, wl_380, wl_400, wl_420, wl_820, wl_1340, wl_5480, wl_9999, true_and, and_true, true_or, or_true, if_true, if_false, and_self, or_self, false_and, and_false, false_or, or_false, not_true_eq_false, not_false_eq_true, Int.reduceEq, Int.reduceLT, Int.reduceLE, Int.reduceToNat, Int.reduceAdd, Int.reduceMul, Int.reduceSub, Int.reduceMod, Int.reduceDiv, Int.reduceNeg, Nat.reduceEqDiff, sm_rd_ok, sm_rd_ok2, sm_wt_ok, sm_cp_ok, Option.isSome_some, Option.getD_some, w_cont, Option.toList_some, Option.toList_none, List.cons_append, List.nil_append]
      rw [hF _ h0.1 h0.2, b22_96, hK62]
      simp (disch := omega) only [wr_id, wr_b2i, wr_wr, b2i_eq0, b2i_eq1, b2i_01, sm_rem_eq, sm_div_eq, wl_m2, wl_m1, wl_0, wl_1, wl_2, wl_3, wl_4, wl_5, wl_6, wl_7, wl_8, wl_9, wl_10, wl_12, wl_13, wl_14, wl_16, wl_20, wl_21, wl_22, wl_23, wl_32, wl_36, wl_40, wl_41, wl_42, wl_43, wl_44, wl_45, wl_46, wl_47, wl_48, wl_57, wl_59, wl_60, wl_61, wl_62, wl_65, wl_90, wl_97, wl_99, wl_100, wl_121, wl_122, wl_140, wl_142, wl_143, wl_145, wl_147, wl_160, wl_161, wl_162, wl_242, wl_380, wl_400, wl_420, wl_820, wl_1340, wl_5480, wl_9999, true_and, and_true, true_or, or_true, if_true, if_false, and_self, or_self, false_and, and_false, false_or, or_false, not_true_eq_false, not_false_eq_true, Int.reduceEq, Int.reduceLT, Int.reduceLE, Int.reduceToNat, Int.reduceAdd, Int.reduceMul, Int.reduceSub, Int.reduceMod, Int.reduceDiv, Int.reduceNeg, Nat.reduceEqDiff, sm_rd_ok, sm_rd_ok2, sm_wt_ok, sm_cp_ok, Option.isSome_some, Option.getD_some, w_cont, Option.toList_some, Option.toList_none, List.cons_append, List.nil_append, Int.toNat_natCast]
      rw [b22_209, ev, List.length_cons, show i + 1 + o = i + o + 1 by omega]
      rfl
  · obtain ⟨x, r', rfl, h1, h2⟩ := tyO_cons ho
    have ev : evS F (A i) (B i) (x :: r') = sm_div x (B i) :: r' := by unfold evS; rw [if_neg (by omega), if_pos h0]
    have eo : cOrd (A i) (B i) = 16 * B i + 2 := by unfold cOrd; rw [if_neg (by omega), if_neg (by omega), if_pos h0]
    have hz : Z 62 r'.length = x := hst.1
    simp only [List.length_cons] at head hle ⊢
    have n3 : (((r'.length + 1 : Nat) : Int) - 1) = (r'.length : Int) := by omega
    refine ⟨sm_u Z 62 r'.length (sm_div x (B i)), some (.inl 2), some (.inl (B i)), ?_, fun a ha => sm_u_row ha, ?_, ?_⟩
    · rw [ev]; exact stk_put hst.2
    · rw [ev, List.length_cons]; omega
    · intro Q
      rw [head 2 (B i) (by omega) (by omega) (by decide), b22_48, wl_2, if_neg (by decide), b22_53, wl_2, if_neg (by decide), b22_103, wr_id (by omega) (by omega), if_pos (by omega), b22_110, wl_2, if_neg (by decide), b22_129, wl_2, if_neg (by decide), b22_150, wl_2, if_pos rfl, b22_156, wr_id (by omega) (by omega), if_neg (by omega), b22_169, hK62, n3]
      simp (disch := omega) only [wr_id, wr_b2i, wr_wr, b2i_eq0, b2i_eq1, b2i_01, sm_rem_eq, sm_div_eq, wl_m2, wl_m1, wl_0, wl_1, wl_2, wl_3, wl_4, wl_5, wl_6, wl_7, wl_8, wl_9, wl_10, wl_12, wl_13, wl_14, wl_16, wl_20, wl_21, wl_22, wl_23, wl_32, wl_36, wl_40, wl_41, wl_42, wl_43, wl_44, wl_45, wl_46, wl_47, wl_48, wl_57, wl_59, wl_60, wl_61, wl_62, wl_65, wl_90, wl_97, wl_99, wl_100, wl_121, wl_122, wl_140, wl_142, wl_143, wl_145, wl_147, wl_160, wl_161, wl_162, wl_242, wl_380, wl_400, wl_420, wl_820, wl_1340, wl_5480, wl_9999, true_and, and_true, true_or, or_true, if_true, if_false, and_self, or_self, false_and, and_false, false_or, or_false, not_true_eq_false, not_false_eq_true, Int.reduceEq, Int.reduceLT, Int.reduceLE, Int.reduceToNat, Int.reduceAdd, Int.reduceMul, Int.reduceSub, Int.reduceMod, Int.reduceDiv, Int.reduceNeg, Nat.reduceEqDiff, sm_rd_ok, sm_rd_ok2, sm_wt_ok, sm_cp_ok, Option.isSome_some, Option.getD_some, w_cont, Option.toList_some, Option.toList_none, List.cons_append, List.nil_append, Int.toNat_natCast, hz]
      rw [b22_177, hK62]
      simp (disch := omega) only [wr_id, wr_b2i, wr_wr, b2i_eq0, b2i_eq1, b2i_01, sm_rem_eq, sm_div_eq, wl_m2, wl_m1, wl_0, wl_1, wl_2, wl_3, wl_4, wl_5, wl_6, wl_7, wl_8, wl_9, wl_10, wl_12, wl_13, wl_14, wl_16, wl_20, wl_21, wl_22, wl_23, wl_32, wl_36, wl_40, wl_41, wl_42, wl_43, wl_44, wl_45, wl_46, wl_47, wl_48, wl_57, wl_59, wl_60, wl_61, wl_62, wl_65, wl_90, wl_97, wl_99, wl_100, wl_121, wl_122, wl_140, wl_142, wl_143, wl_145, wl_147, wl_160, wl_161, wl_162, wl_242, wl_380, wl_400, wl_420, wl_820, wl_1340, wl_5480, wl_9999, true_and, and_true, true_or, or_true, if_true, if_false, and_self, or_self, false_and, and_false, false_or, or_false, not_true_eq_false, not_false_eq_true, Int.reduceEq, Int.reduceLT, Int.reduceLE, Int.reduceToNat, Int.reduceAdd, Int.reduceMul, Int.reduceSub, Int.reduceMod, Int.reduceDiv, Int.reduceNeg, Nat.reduceEqDiff, sm_rd_ok, sm_rd_ok2, sm_wt_ok, sm_cp_ok, Option.isSome_some, Option.getD_some, w_cont, Option.toList_some, Option.toList_none, List.cons_append, List.nil_append, Int.toNat_natCast]
      rw [b22_209, ev, List.length_cons, show i + 1 + o = i + o + 1 by omega, eq_true (show ¬ B i = 0 by omega)]
      simp only [true_and]
      rfl
  · obtain ⟨x, r', rfl, h1, h2⟩ := tyO_cons ho
    have ev : evS F (A i) (B i) (x :: r') = (1 - x) :: r' := by unfold evS; rw [if_neg (by omega), if_neg (by omega), if_pos h0]
    have eo : cOrd (A i) (B i) = 3 := by unfold cOrd; rw [if_neg (by omega), if_neg (by omega), if_neg (by omega), if_pos h0]
    have hz : Z 62 r'.length = x := hst.1
    simp only [List.length_cons] at head hle ⊢
    have n3 : (((r'.length + 1 : Nat) : Int) - 1) = (r'.length : Int) := by omega
    refine ⟨sm_u Z 62 r'.length (1 - x), some (.inl 3), some (.inl 0), ?_, fun a ha => sm_u_row ha, ?_, ?_⟩
    · rw [ev]; exact stk_put hst.2
    · rw [ev, List.length_cons]; omega
    · intro Q
      rw [head 3 0 (by omega) (by omega) (by decide), b22_48, wl_3, if_neg (by decide), b22_53, wl_3, if_neg (by decide), b22_103, wr_id (by omega) (by omega), if_pos (by omega), b22_110, wl_3, if_neg (by decide), b22_129, wl_3, if_pos rfl, b22_135, hK62, n3]
      simp (disch := omega) only [wr_id, wr_b2i, wr_wr, b2i_eq0, b2i_eq1, b2i_01, sm_rem_eq, sm_div_eq, wl_m2, wl_m1, wl_0, wl_1, wl_2, wl_3, wl_4, wl_5, wl_6, wl_7, wl_8, wl_9, wl_10, wl_12, wl_13, wl_14, wl_16, wl_20, wl_21, wl_22, wl_23, wl_32, wl_36, wl_40, wl_41, wl_42, wl_43, wl_44, wl_45, wl_46, wl_47, wl_48, wl_57, wl_59, wl_60, wl_61, wl_62, wl_65, wl_90, wl_97, wl_99, wl_100, wl_121, wl_122, wl_140, wl_142, wl_143, wl_145, wl_147, wl_160, wl_161, wl_162, wl_242, wl_380, wl_400, wl_420, wl_820, wl_1340, wl_5480, wl_9999, true_and, and_true, true_or, or_true, if_true, if_false, and_self, or_self, false_and, and_false, false_or, or_false, not_true_eq_false, not_false_eq_true, Int.reduceEq, Int.reduceLT, Int.reduceLE, Int.reduceToNat, Int.reduceAdd, Int.reduceMul, Int.reduceSub, Int.reduceMod, Int.reduceDiv, Int.reduceNeg, Nat.reduceEqDiff, sm_rd_ok, sm_rd_ok2, sm_wt_ok, sm_cp_ok, Option.isSome_some, Option.getD_some, w_cont, Option.toList_some, Option.toList_none, List.cons_append, List.nil_append, Int.toNat_natCast, hz]
      rw [b22_209, ev, List.length_cons, show i + 1 + o = i + o + 1 by omega]
      rfl
  · obtain ⟨x, r1, rfl, h1, h2⟩ := tyO_cons ho
    obtain ⟨y, r2, rfl, h3, h4⟩ := tyO_cons h2
    have ev : evS F (A i) (B i) (x :: y :: r2) = joS (kiS (A i)) y x :: r2 := by
      unfold evS
      rw [if_neg (by omega), if_neg (by omega), if_neg (by omega)]
    have eo : cOrd (A i) (B i) = kiS (A i) := by unfold cOrd; rw [if_neg (by omega), if_neg (by omega), if_neg (by omega), if_neg (by omega)]
    have hkb := kiS_bd (s := A i)
    have hz1 : Z 62 (r2.length + 1) = x := hst.1
    have hz2 : Z 62 r2.length = y := hst.2.1
    simp only [List.length_cons] at head hle ⊢
    have n3 : (((r2.length + 1 + 1 : Nat) : Int) + -1 - 1) = (r2.length : Int) := by omega
    have n4 : (((r2.length + 1 + 1 : Nat) : Int) + -1) = ((r2.length + 1 : Nat) : Int) := by omega
    refine ⟨sm_u Z 62 r2.length (joS (kiS (A i)) y x), some (.inl (kiS (A i))), some (.inl 0), ?_, fun a ha => sm_u_row ha, ?_, ?_⟩
    · rw [ev]; exact stk_put hst.2.2
    · rw [ev, List.length_cons]; omega
    · intro Q
      have wk : wr (kiS (A i)) = kiS (A i) := wr_id (by omega) (by omega)
      rw [head (kiS (A i)) 0 (by omega) (by omega) (by omega), b22_48, wk, if_neg (by omega), b22_53, wk, if_neg (by omega), b22_103, wr_id (by omega) (by omega), if_pos (by omega), b22_110, wk, if_neg (by omega), b22_129, wk, if_neg (by omega), b22_150, wk, if_neg (by omega), b22_181, wr_id (by omega) (by omega), if_pos (by omega), b22_188, hK62, n3, n4]
      simp (disch := omega) only [wr_id, wr_b2i, wr_wr, b2i_eq0, b2i_eq1, b2i_01, sm_rem_eq, sm_div_eq, wl_m2, wl_m1, wl_0, wl_1, wl_2, wl_3, wl_4, wl_5, wl_6, wl_7, wl_8, wl_9, wl_10, wl_12, wl_13, wl_14, wl_16, wl_20, wl_21, wl_22, wl_23, wl_32, wl_36, wl_40, wl_41, wl_42, wl_43, wl_44, wl_45, wl_46, wl_47, wl_48, wl_57, wl_59, wl_60, wl_61, wl_62, wl_65, wl_90, wl_97, wl_99, wl_100, wl_121, wl_122, wl_140, wl_142, wl_143, wl_145, wl_147, wl_160, wl_161, wl_162, wl_242, wl_380, wl_400, wl_420, wl_820, wl_1340, wl_5480, wl_9999, true_and, and_true, true_or, or_true, if_true, if_false, and_self, or_self, false_and, and_false, false_or, or_false, not_true_eq_false, not_false_eq_true, Int.reduceEq, Int.reduceLT, Int.reduceLE, Int.reduceToNat, Int.reduceAdd, Int.reduceMul, Int.reduceSub, Int.reduceMod, Int.reduceDiv, Int.reduceNeg, Nat.reduceEqDiff, sm_rd_ok, sm_rd_ok2, sm_wt_ok, sm_cp_ok, Option.isSome_some, Option.getD_some, w_cont, Option.toList_some, Option.toList_none, List.cons_append, List.nil_append, Int.toNat_natCast, hz1, hz2]
      rw [c_join hkb]
      simp only [wr_id, wr_b2i, wr_wr, b2i_eq0, b2i_eq1, b2i_01, sm_rem_eq, sm_div_eq, wl_m2, wl_m1, wl_0, wl_1, wl_2, wl_3, wl_4, wl_5, wl_6, wl_7, wl_8, wl_9, wl_10, wl_12, wl_13, wl_14, wl_16, wl_20, wl_21, wl_22, wl_23, wl_32, wl_36, wl_40, wl_41, wl_42, wl_43, wl_44, wl_45, wl_46, wl_47, wl_48, wl_57, wl_59, wl_60, wl_61, wl_62, wl_65, wl_90, wl_97, wl_99, wl_100, wl_121, wl_122, wl_140, wl_142, wl_143, wl_145, wl_147, wl_160, wl_161, wl_162, wl_242, wl_380, wl_400, wl_420, wl_820, wl_1340, wl_5480, wl_9999, true_and, and_true, true_or, or_true, if_true, if_false, and_self, or_self, false_and, and_false, false_or, or_false, not_true_eq_false, not_false_eq_true, Int.reduceEq, Int.reduceLT, Int.reduceLE, Int.reduceToNat, Int.reduceAdd, Int.reduceMul, Int.reduceSub, Int.reduceMod, Int.reduceDiv, Int.reduceNeg, Nat.reduceEqDiff, sm_rd_ok, sm_rd_ok2, sm_wt_ok, sm_cp_ok, Option.isSome_some, Option.getD_some, w_cont, Option.toList_some, Option.toList_none, List.cons_append, List.nil_append]
      rw [b22_208, hK62]
      simp (disch := omega) only [wr_id, wr_b2i, wr_wr, b2i_eq0, b2i_eq1, b2i_01, sm_rem_eq, sm_div_eq, wl_m2, wl_m1, wl_0, wl_1, wl_2, wl_3, wl_4, wl_5, wl_6, wl_7, wl_8, wl_9, wl_10, wl_12, wl_13, wl_14, wl_16, wl_20, wl_21, wl_22, wl_23, wl_32, wl_36, wl_40, wl_41, wl_42, wl_43, wl_44, wl_45, wl_46, wl_47, wl_48, wl_57, wl_59, wl_60, wl_61, wl_62, wl_65, wl_90, wl_97, wl_99, wl_100, wl_121, wl_122, wl_140, wl_142, wl_143, wl_145, wl_147, wl_160, wl_161, wl_162, wl_242, wl_380, wl_400, wl_420, wl_820, wl_1340, wl_5480, wl_9999, true_and, and_true, true_or, or_true, if_true, if_false, and_self, or_self, false_and, and_false, false_or, or_false, not_true_eq_false, not_false_eq_true, Int.reduceEq, Int.reduceLT, Int.reduceLE, Int.reduceToNat, Int.reduceAdd, Int.reduceMul, Int.reduceSub, Int.reduceMod, Int.reduceDiv, Int.reduceNeg, Nat.reduceEqDiff, sm_rd_ok, sm_rd_ok2, sm_wt_ok, sm_cp_ok, Option.isSome_some, Option.getD_some, w_cont, Option.toList_some, Option.toList_none, List.cons_append, List.nil_append, Int.toNat_natCast]
      rw [b22_209, ev, List.length_cons, show i + 1 + o = i + o + 1 by omega]
      rfl
theorem c_ev (H : sm_sh Rf K) (hKa : K a = (2, 2)) (hRa : Rf a 1 = some q) (hKq : K q = (100, len)) (hq62 : q ≠ 62) (hl5 : len ≤ 1000) {o : Nat} : ∀ (m i : Nat) (t t' : List Bool) (st : List Int) (Z : Nat → Nat → Int) (l5 l6 : Option sm_V), i + m + o < len → (∀ j, i ≤ j → j < i + m → Z q (j + o) = cOrd (A j) (B j)) → (∀ s, 1 ≤ s → s ≤ 9 → Z 61 (s - 1).toNat = F s) → tyR A B m i t t' → tyO t st → stk (Z 62) st → st.length ≤ 32 → ∃ Z' l5' l6', stk (Z' 62) (evR A B F m i st) ∧ tyO t' (evR A B F m i st) ∧ (evR A B F m i st).length ≤ 32 ∧ (∀ a, a ≠ 62 → Z' a = Z a) ∧ ∀ Q, sm_wp (d + 1) 22 5 [some (.inr (some a)), some (.inr (some 61)), some (.inr (some 62)), some (.inl (st.length : Int)), some (.inl ((i + o : Nat) : Int)), l5, l6] [] (Z, Rf, K, n, z) Q = sm_wp (d + 1) 22 5 [some (.inr (some a)), some (.inr (some 61)), some (.inr (some 62)), some (.inl ((evR A B F m i st).length : Int)), some (.inl ((i + m + o : Nat) : Int)), l5', l6'] [] (Z', Rf, K, n, z) Q := by
  intro m
  induction m with
  | zero =>
    intro i t t' st Z l5 l6 hi hC hF hty ho hst hle
    refine ⟨Z, l5, l6, hst, ?_, hle, fun a _ => rfl, fun Q => rfl⟩
    have : t = t' := hty
    rw [← this]; exact ho
  | succ m ih =>
    intro i t t' st Z l5 l6 hi hC hF hty ho hst hle
    obtain ⟨t1, h1, h2⟩ := hty
    obtain ⟨Z1, l5a, l6a, e1, e2, e3, e4⟩ := c_ev1 (d := d) (n := n) (z := z) (A := A) (B := B) (F := F) H hKa hRa hKq hq62 (i := i) (o := o) (by omega) hl5 l5 l6 (hC i (by omega) (by omega)) hF h1 ho hst hle
    obtain ⟨Z2, l5b, l6b, f1, f2, f3, f4, f5⟩ := ih (i + 1) t1 t' (evS F (A i) (B i) st) Z1 l5a l6a (by omega) (fun j hj1 hj2 => by rw [e2 q hq62]; exact hC j (by omega) (by omega)) (fun s h1 h2 => by rw [e2 61 (by decide)]; exact hF s h1 h2) h2 (tyS_ev h1 ho) e1 e3
    refine ⟨Z2, l5b, l6b, f1, f2, f3, fun a ha => by rw [f4 a ha, e2 a ha], fun Q => ?_⟩
    rw [e4, f5, show i + 1 + m + o = i + (m + 1) + o by omega]
    rfl
theorem c_choose_loop (H : sm_sh Rf K) {k : Nat} {M : Nat → Int} {L : Nat} {P : Nat → Nat} (hw : wfL M k L P) (hKa : K a = (2, 2)) (hRa : Rf a 1 = some q) (hKq : K q = (100, P L + L)) (hq62 : q ≠ 62) : ∀ (m i : Nat) (Z : Nat → Nat → Int) (l5 l6 : Option sm_V), i + m = L → cdH (Z q) M k L P → (∀ s, 1 ≤ s → s ≤ 9 → Z 61 (s - 1).toNat = F s) → ∃ Z', (∀ a, a ≠ 62 → Z' a = Z a) ∧ ∀ Q, sm_wp (d + 1) 22 5 [some (.inr (some a)), some (.inr (some 61)), some (.inr (some 62)), some (.inl 0), some (.inl ((P i + i : Nat) : Int)), l5, l6] [] (Z, Rf, K, n, z) Q = Q (some (.inl (cW (toR M k F m i)))) (Z', Rf, K, n, z) := by
  have hPL : P L ≤ 400 := by
    cases L with
    | zero => rw [hw.2.2.1]; omega
    | succ L => exact (hw.2.2.2 L (by omega)).2.2.2.1
  have hL := hw.2.1
  intro m
  induction m with
  | zero =>
    intro i Z l5 l6 hi hC hF
    refine ⟨Z, fun a _ => rfl, fun Q => ?_⟩
    have hi : i = L := by omega
    subst hi
    rw [b22_5, hKa, hRa]
    simp (disch := omega) only [wr_id, wr_b2i, wr_wr, b2i_eq0, b2i_eq1, b2i_01, sm_rem_eq, sm_div_eq, wl_m2, wl_m1, wl_0, wl_1, wl_2, wl_3, wl_4, wl_5, wl_6, wl_7, wl_8, wl_9, wl_10, wl_12, wl_13, wl_14, wl_16, wl_20, wl_21, wl_22, wl_23, wl_32, wl_36, wl_40, wl_41, wl_42, wl_43, wl_44, wl_45, wl_46, wl_47, wl_48, wl_57, wl_59, wl_60, wl_61, wl_62, wl_65, wl_90, wl_97, wl_99, wl_100, wl_121, wl_122, wl_140, wl_142, wl_143, wl_145, wl_147, wl_160, wl_161, wl_162, wl_242, wl_380, wl_400, wl_420, wl_820, wl_1340, wl_5480, wl_9999, true_and, and_true, true_or, or_true, if_true, if_false, and_self, or_self, false_and, and_false, false_or, or_false, not_true_eq_false, not_false_eq_true, Int.reduceEq, Int.reduceLT, Int.reduceLE, Int.reduceToNat, Int.reduceAdd, Int.reduceMul, Int.reduceSub, Int.reduceMod, Int.reduceDiv, Int.reduceNeg, Nat.reduceEqDiff, sm_rd_ok, sm_rd_ok2, sm_wt_ok, sm_cp_ok, Option.isSome_some, Option.getD_some, w_cont, Option.toList_some, Option.toList_none, List.cons_append, List.nil_append, hKq]
    rw [if_pos (by omega), b22_215]
    rfl
  | succ m ih =>
    intro i Z l5 l6 hi hC hF
    obtain ⟨h1, h2, h3, h4, h5, h6⟩ := hw.2.2.2 i (by omega)
    obtain ⟨c1, c2⟩ := hC i (by omega)
    have hm1 := wfL_mono hw m (i + 1) (by omega)
    have hcw := cW_bd h5
    by_cases he : P i = P (i + 1)
    · refine ⟨Z, fun a _ => rfl, fun Q => ?_⟩
      rw [if_pos he, ← he] at c2
      have e4 := shr_bv (16 * cW (M (1990 + 16 * k + i)) + 12) 4 (by omega)
      rw [wr_id (by omega) (by omega)] at e4
      have e5 : sm_shr (16 * cW (M (1990 + 16 * k + i)) + 12) 4 = cW (M (1990 + 16 * k + i)) := by
        refine Eq.trans e4 ?_
        show (16 * cW (M (1990 + 16 * k + i)) + 12) / 16 = _
        omega
      have e6 : (16 * cW (M (1990 + 16 * k + i)) + 12) % 16 = 12 := by omega
      rw [b22_5, hKa, hRa]
      simp (disch := omega) only [wr_id, wr_b2i, wr_wr, b2i_eq0, b2i_eq1, b2i_01, sm_rem_eq, sm_div_eq, wl_m2, wl_m1, wl_0, wl_1, wl_2, wl_3, wl_4, wl_5, wl_6, wl_7, wl_8, wl_9, wl_10, wl_12, wl_13, wl_14, wl_16, wl_20, wl_21, wl_22, wl_23, wl_32, wl_36, wl_40, wl_41, wl_42, wl_43, wl_44, wl_45, wl_46, wl_47, wl_48, wl_57, wl_59, wl_60, wl_61, wl_62, wl_65, wl_90, wl_97, wl_99, wl_100, wl_121, wl_122, wl_140, wl_142, wl_143, wl_145, wl_147, wl_160, wl_161, wl_162, wl_242, wl_380, wl_400, wl_420, wl_820, wl_1340, wl_5480, wl_9999, true_and, and_true, true_or, or_true, if_true, if_false, and_self, or_self, false_and, and_false, false_or, or_false, not_true_eq_false, not_false_eq_true, Int.reduceEq, Int.reduceLT, Int.reduceLE, Int.reduceToNat, Int.reduceAdd, Int.reduceMul, Int.reduceSub, Int.reduceMod, Int.reduceDiv, Int.reduceNeg, Nat.reduceEqDiff, sm_rd_ok, sm_rd_ok2, sm_wt_ok, sm_cp_ok, Option.isSome_some, Option.getD_some, w_cont, Option.toList_some, Option.toList_none, List.cons_append, List.nil_append, hKq]
      rw [if_neg (by omega), b22_15, hKa, hRa]
      simp (disch := omega) only [wr_id, wr_b2i, wr_wr, b2i_eq0, b2i_eq1, b2i_01, sm_rem_eq, sm_div_eq, wl_m2, wl_m1, wl_0, wl_1, wl_2, wl_3, wl_4, wl_5, wl_6, wl_7, wl_8, wl_9, wl_10, wl_12, wl_13, wl_14, wl_16, wl_20, wl_21, wl_22, wl_23, wl_32, wl_36, wl_40, wl_41, wl_42, wl_43, wl_44, wl_45, wl_46, wl_47, wl_48, wl_57, wl_59, wl_60, wl_61, wl_62, wl_65, wl_90, wl_97, wl_99, wl_100, wl_121, wl_122, wl_140, wl_142, wl_143, wl_145, wl_147, wl_160, wl_161, wl_162, wl_242, wl_380, wl_400, wl_420, wl_820, wl_1340, wl_5480, wl_9999, true_and, and_true, true_or, or_true, if_true, if_false, and_self, or_self, false_and, and_false, false_or, or_false, not_true_eq_false, not_false_eq_true, Int.reduceEq, Int.reduceLT, Int.reduceLE, Int.reduceToNat, Int.reduceAdd, Int.reduceMul, Int.reduceSub, Int.reduceMod, Int.reduceDiv, Int.reduceNeg, Nat.reduceEqDiff, sm_rd_ok, sm_rd_ok2, sm_wt_ok, sm_cp_ok, Option.isSome_some, Option.getD_some, w_cont, Option.toList_some, Option.toList_none, List.cons_append, List.nil_append, hKq, Int.toNat_natCast, c2, and_15, e5, e6]
      rw [b22_45]
      simp only [toR]
      rw [if_pos (by omega)]
    · rw [if_neg he] at c2
      obtain ⟨Z1, l5a, l6a, g1, g2, g3, g4, g5⟩ := c_ev (d := d) (n := n) (z := z) (A := hbA M k) (B := hbB M k) (F := F) (o := i) H hKa hRa hKq hq62 (by omega) (P (i + 1) - P i) (P i) [] [true] [] Z l5 l6 (by omega) (fun j hj1 hj2 => c1 j hj1 (by omega)) hF (h6 (by omega)) trivial trivial (by simp)
      obtain ⟨v, r, hv, hv1, hr⟩ := tyO_cons g2
      have hr0 : r = [] := by cases r with
        | nil => rfl
        | cons a b => exact hr.elim
      subst hr0
      have hvv := hv1 rfl
      rw [hv] at g1 g5
      have hz : Z1 62 0 = v := g1.1
      have c2' : Z1 q (P (i + 1) + i) = 16 * cW (M (1990 + 16 * k + i)) + 13 := by rw [g4 q hq62]; exact c2
      have e4 := shr_bv (16 * cW (M (1990 + 16 * k + i)) + 13) 4 (by omega)
      rw [wr_id (by omega) (by omega)] at e4
      have e5 : sm_shr (16 * cW (M (1990 + 16 * k + i)) + 13) 4 = cW (M (1990 + 16 * k + i)) := by
        refine Eq.trans e4 ?_
        show (16 * cW (M (1990 + 16 * k + i)) + 13) / 16 = _
        omega
      have e6 : (16 * cW (M (1990 + 16 * k + i)) + 13) % 16 = 13 := by omega
      have hto : toR M k F (m + 1) i = if v = 1 then M (1990 + 16 * k + i) else toR M k F m (i + 1) := by
        simp only [toR]
        rw [if_neg (by omega), h1, h2, Int.toNat_natCast, Int.toNat_natCast, hv]
        simp only [List.cons.injEq, and_true]
      have mid : ∃ l5' l6', ∀ Q, sm_wp (d + 1) 22 5 [some (.inr (some a)), some (.inr (some 61)), some (.inr (some 62)), some (.inl 0), some (.inl ((P i + i : Nat) : Int)), l5, l6] [] (Z, Rf, K, n, z) Q = if v = 0 then sm_wp (d + 1) 22 5 [some (.inr (some a)), some (.inr (some 61)), some (.inr (some 62)), some (.inl 0), some (.inl ((P (i + 1) + (i + 1) : Nat) : Int)), l5', l6'] [] (Z1, Rf, K, n, z) Q else Q (some (.inl (cW (M (1990 + 16 * k + i))))) (Z1, Rf, K, n, z) := by
        refine ⟨some (.inl 13), some (.inl (cW (M (1990 + 16 * k + i)))), fun Q => ?_⟩
        refine (g5 Q).trans ?_
        rw [show P i + (P (i + 1) - P i) + i = P (i + 1) + i by omega, List.length_singleton, b22_5, hKa, hRa]
        simp (disch := omega) only [wr_id, wr_b2i, wr_wr, b2i_eq0, b2i_eq1, b2i_01, sm_rem_eq, sm_div_eq, wl_m2, wl_m1, wl_0, wl_1, wl_2, wl_3, wl_4, wl_5, wl_6, wl_7, wl_8, wl_9, wl_10, wl_12, wl_13, wl_14, wl_16, wl_20, wl_21, wl_22, wl_23, wl_32, wl_36, wl_40, wl_41, wl_42, wl_43, wl_44, wl_45, wl_46, wl_47, wl_48, wl_57, wl_59, wl_60, wl_61, wl_62, wl_65, wl_90, wl_97, wl_99, wl_100, wl_121, wl_122, wl_140, wl_142, wl_143, wl_145, wl_147, wl_160, wl_161, wl_162, wl_242, wl_380, wl_400, wl_420, wl_820, wl_1340, wl_5480, wl_9999, true_and, and_true, true_or, or_true, if_true, if_false, and_self, or_self, false_and, and_false, false_or, or_false, not_true_eq_false, not_false_eq_true, Int.reduceEq, Int.reduceLT, Int.reduceLE, Int.reduceToNat, Int.reduceAdd, Int.reduceMul, Int.reduceSub, Int.reduceMod, Int.reduceDiv, Int.reduceNeg, Nat.reduceEqDiff, sm_rd_ok, sm_rd_ok2, sm_wt_ok, sm_cp_ok, Option.isSome_some, Option.getD_some, w_cont, Option.toList_some, Option.toList_none, List.cons_append, List.nil_append, hKq]
        rw [if_neg (by omega), b22_15, hKa, hRa]
        simp (disch := omega) only [wr_id, wr_b2i, wr_wr, b2i_eq0, b2i_eq1, b2i_01, sm_rem_eq, sm_div_eq, wl_m2, wl_m1, wl_0, wl_1, wl_2, wl_3, wl_4, wl_5, wl_6, wl_7, wl_8, wl_9, wl_10, wl_12, wl_13, wl_14, wl_16, wl_20, wl_21, wl_22, wl_23, wl_32, wl_36, wl_40, wl_41, wl_42, wl_43, wl_44, wl_45, wl_46, wl_47, wl_48, wl_57, wl_59, wl_60, wl_61, wl_62, wl_65, wl_90, wl_97, wl_99, wl_100, wl_121, wl_122, wl_140, wl_142, wl_143, wl_145, wl_147, wl_160, wl_161, wl_162, wl_242, wl_380, wl_400, wl_420, wl_820, wl_1340, wl_5480, wl_9999, true_and, and_true, true_or, or_true, if_true, if_false, and_self, or_self, false_and, and_false, false_or, or_false, not_true_eq_false, not_false_eq_true, Int.reduceEq, Int.reduceLT, Int.reduceLE, Int.reduceToNat, Int.reduceAdd, Int.reduceMul, Int.reduceSub, Int.reduceMod, Int.reduceDiv, Int.reduceNeg, Nat.reduceEqDiff, sm_rd_ok, sm_rd_ok2, sm_wt_ok, sm_cp_ok, Option.isSome_some, Option.getD_some, w_cont, Option.toList_some, Option.toList_none, List.cons_append, List.nil_append, hKq, Int.toNat_natCast, c2', and_15, e5, e6]
        rw [b22_48, wl_13, if_neg (by decide), b22_53, wl_13, if_neg (by decide), b22_103, wr_id (by omega) (by omega), if_pos (by omega), b22_110, wl_13, if_pos rfl, b22_117, kk_62 H]
        simp only [show ((1 : Nat) : Int) + -1 = 0 from rfl]
        simp (disch := omega) only [wr_id, wr_b2i, wr_wr, b2i_eq0, b2i_eq1, b2i_01, sm_rem_eq, sm_div_eq, wl_m2, wl_m1, wl_0, wl_1, wl_2, wl_3, wl_4, wl_5, wl_6, wl_7, wl_8, wl_9, wl_10, wl_12, wl_13, wl_14, wl_16, wl_20, wl_21, wl_22, wl_23, wl_32, wl_36, wl_40, wl_41, wl_42, wl_43, wl_44, wl_45, wl_46, wl_47, wl_48, wl_57, wl_59, wl_60, wl_61, wl_62, wl_65, wl_90, wl_97, wl_99, wl_100, wl_121, wl_122, wl_140, wl_142, wl_143, wl_145, wl_147, wl_160, wl_161, wl_162, wl_242, wl_380, wl_400, wl_420, wl_820, wl_1340, wl_5480, wl_9999, true_and, and_true, true_or, or_true, if_true, if_false, and_self, or_self, false_and, and_false, false_or, or_false, not_true_eq_false, not_false_eq_true, Int.reduceEq, Int.reduceLT, Int.reduceLE, Int.reduceToNat, Int.reduceAdd, Int.reduceMul, Int.reduceSub, Int.reduceMod, Int.reduceDiv, Int.reduceNeg, Nat.reduceEqDiff, sm_rd_ok, sm_rd_ok2, sm_wt_ok, sm_cp_ok, Option.isSome_some, Option.getD_some, w_cont, Option.toList_some, Option.toList_none, List.cons_append, List.nil_append, hz]
        rw [b22_126, b22_209]
        rfl
      obtain ⟨l5b, l6b, hmid⟩ := mid
      by_cases hv0 : v = 1
      · refine ⟨Z1, g4, fun Q => ?_⟩
        rw [hmid, if_neg (by omega), hto, if_pos hv0]
      · obtain ⟨Z2, f1, f2⟩ := ih (i + 1) Z1 l5b l6b (by omega) (by rw [g4 q hq62]; exact hC) (fun s h1 h2 => by rw [g4 61 (by decide)]; exact hF s h1 h2)
        refine ⟨Z2, fun a ha => by rw [f1 a ha, g4 a ha], fun Q => ?_⟩
        rw [hmid, if_pos (by omega), f2, hto, if_neg hv0]
theorem c_choose (H : sm_sh Rf K) {k : Nat} {M : Nat → Int} {L : Nat} {P : Nat → Nat} {Z : Nat → Nat → Int} (hw : wfL M k L P) (hKa : K a = (2, 2)) (hRa : Rf a 1 = some q) (hKq : K q = (100, P L + L)) (hq62 : q ≠ 62) (hC : cdH (Z q) M k L P) (hF : ∀ s, 1 ≤ s → s ≤ 9 → Z 61 (s - 1).toNat = F s) : ∃ Z', (∀ a, a ≠ 62 → Z' a = Z a) ∧ ∀ Q, sm_call (d + 1) 22 [.inr (some a), .inr (some 61), .inr (some 62)] (Z, Rf, K, n, z) Q = Q (some (.inl (cW (toR M k F L 0)))) (Z', Rf, K, n, z) := by
  obtain ⟨Z', h1, h2⟩ := c_choose_loop (d := d) (n := n) (z := z) (F := F) H hw hKa hRa hKq hq62 L 0 Z none none (by omega) hC hF
  refine ⟨Z', h1, fun Q => ?_⟩
  have h3 := h2 Q
  rw [hw.2.2.1] at h3
  rw [ce22, b22_0]
  exact h3
end CHOOSE
