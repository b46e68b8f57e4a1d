theorem flR_inv {th : Bool} {k : Nat} (hk : k < 4) {s len : Int} (hs : 0 ≤ s ∧ s ≤ 7) (hl : len ≤ 60) : ∀ (f : Nat) (M : Nat → Int) (x y h st : Int), invF M → isP (M 0) (M 1) x y = true → (0 ≤ h ∧ h ≤ 3) → 0 ≤ st → st + f ≤ len → invF (flR th k s len f M x y h st).1 ∧ agT M (flR th k s len f M x y h st).1 := by
  intro f
  induction f with
  | zero => intro M x y h st hi _ _ _ _; exact ⟨hi, agT_refl M⟩
  | succ f ih =>
    intro M x y h st hi hp hh hst hsl
    simp only [flR]
    split
    · exact ⟨hi, agT_refl M⟩
    · split
      · exact ⟨hi, agT_refl M⟩
      · rename_i h1 h2
        obtain ⟨hi5, ag5⟩ := invF_stS (th := th) (s := s) (st := st) hi h2 hs (by omega)
        split
        · exact ⟨hi5, ag5⟩
        · obtain ⟨_, _, hp2⟩ := yF_nn h2
          have y0 := ag5 0 (by omega) (by omega) (by omega)
          have y1 := ag5 1 (by omega) (by omega) (by omega)
          obtain ⟨a, b⟩ := ih _ _ _ _ (st + 1) hi5 (by rw [y0, y1]; exact hp2) hdM_bd (by omega) (by omega)
          exact ⟨a, agT_trans ag5 b⟩
/-- the flight of swallow s -/
def flO (th : Bool) (s : Nat) (M : Nat → Int) : (Nat → Int) × Int × Int × Int × Int := flR th (M (1859 + 5 * s)).toNat (s : Int) (M (1858 + 5 * s)) (M (1858 + 5 * s)).toNat M (M (1855 + 5 * s)) (M (1856 + 5 * s)) (M (1857 + 5 * s)) 0
def alR (th : Bool) : Nat → Nat → (Nat → Int) → (Nat → Int)
  | 0, _, M => M
  | c + 1, s, M => alR th c (s + 1) (flO th s M).1
def enR (th : Bool) (t : Nat) : Nat → Nat → (Nat → Int) → (Nat → Int) × Int × Int × Int × Int
  | 0, _, M => (M, 0, 0, 0, 0)
  | c + 1, s, M => if s = t then flO th s M else enR th t c (s + 1) (flO th s M).1
/-- no threads, no suits -/
def clrS (M : Nat → Int) : Nat → Int := fun k => if k = 6 then 0 else if 850 ≤ k ∧ k < 1334 then -1 else M k
def allS (th : Bool) (M : Nat → Int) : Nat → Int := alR th (M 4).toNat 0 (clrS M)
def endS (th : Bool) (t : Nat) (M : Nat → Int) : (Nat → Int) × Int × Int × Int × Int := enR th t (M 4).toNat 0 (clrS M)
/-- swallows are as they must be -/
def swS (M : Nat → Int) : Prop := (0 ≤ M 4 ∧ M 4 ≤ 8) ∧ ∀ s : Nat, (s : Int) < M 4 → isP (M 0) (M 1) (M (1855 + 5 * s)) (M (1856 + 5 * s)) = true ∧ (0 ≤ M (1857 + 5 * s) ∧ M (1857 + 5 * s) ≤ 3) ∧ (0 ≤ M (1858 + 5 * s) ∧ M (1858 + 5 * s) ≤ 60) ∧ (0 ≤ M (1859 + 5 * s) ∧ M (1859 + 5 * s) ≤ 3)
theorem agT_clr (M : Nat → Int) : agT M (clrS M) := by
  intro k a b c
  unfold clrS
  rw [if_neg b, if_neg a]
theorem invF_clr {M : Nat → Int} (hi : invF M) : invF (clrS M) := by
  refine invF_ag (agT_clr M) hi ?_ ?_ ?_
  · intro k hk
    unfold clrS
    rw [if_neg (by omega), if_pos (by omega)]
    omega
  · intro k hk
    unfold clrS
    rw [if_neg (by omega), if_pos (by omega)]
    omega
  · unfold clrS
    rw [if_pos rfl]
    omega
theorem swS_ag {M M' : Nat → Int} (h : agT M M') (hs : swS M) : swS M' := by
  have e : ∀ j, j < 850 → j ≠ 6 → M' j = M j := fun j hj h6 => h j (by omega) h6 (by omega)
  have e2 : ∀ j, 1840 ≤ j → M' j = M j := fun j hj => h j (by omega) (by omega) (by omega)
  unfold swS at hs ⊢
  rw [e 4 (by decide) (by decide), e 0 (by decide) (by decide), e 1 (by decide) (by decide)]
  refine ⟨hs.1, fun s hs2 => ?_⟩
  rw [e2 _ (by omega), e2 _ (by omega), e2 _ (by omega), e2 _ (by omega), e2 _ (by omega)]
  exact hs.2 s hs2
theorem flO_inv {th : Bool} {s : Nat} {M : Nat → Int} (hi : invF M) (hw : swS M) (hs : (s : Int) < M 4) : invF (flO th s M).1 ∧ agT M (flO th s M).1 := by
  obtain ⟨h1, h2, h3, h4⟩ := hw.2 s hs
  have h8 := hw.1
  unfold flO
  exact flR_inv (by omega) (by omega) (by omega) _ M _ _ _ 0 hi h1 h2 (by omega) (by omega)
theorem alR_inv {th : Bool} : ∀ (c s : Nat) (M : Nat → Int), invF M → swS M → ((s + c : Nat) : Int) ≤ M 4 → invF (alR th c s M) ∧ agT M (alR th c s M) := by
  intro c
  induction c with
  | zero => intro s M hi _ _; exact ⟨hi, agT_refl M⟩
  | succ c ih =>
    intro s M hi hw hs
    obtain ⟨a, b⟩ := flO_inv (th := th) (s := s) hi hw (by omega)
    simp only [alR]
    have h4 := b 4 (by omega) (by omega) (by omega)
    obtain ⟨a2, b2⟩ := ih (s + 1) _ a (swS_ag b hw) (by rw [h4]; omega)
    exact ⟨a2, agT_trans b b2⟩
theorem allS_inv {th : Bool} {M : Nat → Int} (hi : invF M) (hw : swS M) : invF (allS th M) ∧ agT M (allS th M) := by
  have h4 : clrS M 4 = M 4 := agT_clr M 4 (by omega) (by omega) (by omega)
  obtain ⟨a, b⟩ := alR_inv (th := th) (M 4).toNat 0 (clrS M) (invF_clr hi) (swS_ag (agT_clr M) hw) (by rw [h4]; have := hw.1; omega)
  exact ⟨a, agT_trans (agT_clr M) b⟩
theorem clrS_eq {Z : Nat → Nat → Int} : m_clr Z 80 = clrS (Z 80) := by
  funext k
  unfold m_clr clrS sm_u sm_fr
  simp only [true_and]
  by_cases h6 : k = 6
  · rw [if_pos h6, if_pos h6]
  · rw [if_neg h6, if_neg h6]
    by_cases h1 : 1092 ≤ k ∧ k < 1334
    · rw [if_pos h1, if_pos (by omega)]
    · rw [if_neg h1]
      by_cases h2 : 850 ≤ k ∧ k < 1092
      · rw [if_pos h2, if_pos (by omega)]
      · rw [if_neg h2, if_neg (by omega)]
theorem m_clr_row {Z : Nat → Nat → Int} {a : Nat} (h : a ≠ 80) : m_clr Z a = Z a := by
  funext k
  unfold m_clr
  rw [sm_u_ne h, sm_fr_ne h, sm_fr_ne h]
section ALLFLY
variable {d n z : Nat} {Rf : Nat → Nat → Option Nat} {K : Nat → Nat × Nat}
theorem m_flies (H : sm_sh Rf K) {th : Bool} {s : Nat} {M : Nat → Int} {Z : Nat → Nat → Int} (hM : Z 80 = M) (hi : invF M) (hw : swS M) (hth : Z 79 6 = b2i th) (hs : (s : Int) < M 4) : ∃ Z', enM Z Z' s (flO th s M) ∧ ∀ Q, sm_call (d + 5) 170 [.inr (some 79), .inl (s : Int)] (Z, Rf, K, n, z) Q = Q none (Z', Rf, K, n, z) := by
  obtain ⟨h1, h2, h3, h4⟩ := hw.2 s hs
  have h8 := hw.1
  obtain ⟨Z', e1, e2⟩ := m_flies_loop (d := d) (n := n) (z := z) H s (M (1859 + 5 * s)).toNat (M (1858 + 5 * s)).toNat (by omega) (by omega) (by omega) th (M (1858 + 5 * s)).toNat 0 M Z (M (1855 + 5 * s)) (M (1856 + 5 * s)) (M (1857 + 5 * s)) none none none (by omega) hM hi hth (by omega) (by omega) h1 h2
  refine ⟨Z', ?_, fun Q => ?_⟩
  · unfold flO
    rw [show (((M (1858 + 5 * s)).toNat : Nat) : Int) = M (1858 + 5 * s) by omega] at e1
    exact e1
  · rw [ce170, b170_0, kk_79 H, rr_79_0 H]
    simp (disch := omega) only [wr_id, wr_b2i, wr_wr, b2i_eq0, b2i_eq1, b2i_01, sm_rem_eq, sm_div_eq, wl_m2, wl_m1, wl_0, wl_1, wl_2, wl_3, wl_4, wl_5, wl_6, wl_7, wl_8, wl_9, wl_10, wl_12, wl_13, wl_14, wl_16, wl_20, wl_21, wl_22, wl_23, wl_32, wl_36, wl_40, wl_41, wl_42, wl_43, wl_44, wl_45, wl_46, wl_47, wl_48, wl_57, wl_59, wl_60, wl_61, wl_62, wl_65, wl_90, wl_97, wl_99, wl_100, wl_121, wl_122, wl_140, wl_142, wl_143, wl_145, wl_147, wl_160, wl_161, wl_162, wl_242, wl_380, wl_400, wl_420, wl_820, wl_1340, wl_5480, wl_9999, true_and, and_true, true_or, or_true, if_true, if_false, and_self, or_self, false_and, and_false, false_or, or_false, not_true_eq_false, not_false_eq_true, Int.reduceEq, Int.reduceLT, Int.reduceLE, Int.reduceToNat, Int.reduceAdd, Int.reduceMul, Int.reduceSub, Int.reduceMod, Int.reduceDiv, Int.reduceNeg, Nat.reduceEqDiff, sm_rd_ok, sm_rd_ok2, sm_wt_ok, sm_cp_ok, Option.isSome_some, Option.getD_some, w_cont, Option.toList_some, Option.toList_none, List.cons_append, List.nil_append, kk_80 H, hM]
    rw [show (1855 + 5 * (s : Int)).toNat = 1855 + 5 * s by omega, show (1855 + 5 * (s : Int) + 1).toNat = 1856 + 5 * s by omega, show (1855 + 5 * (s : Int) + 2).toNat = 1857 + 5 * s by omega]
    exact e2 Q
theorem m_allFly_loop (H : sm_sh Rf K) {th : Bool} : ∀ (c s : Nat) (M : Nat → Int) (Z : Nat → Nat → Int), ((s + c : Nat) : Int) = M 4 → Z 80 = M → invF M → swS M → Z 79 6 = b2i th → ∃ Z', Z' 80 = alR th c s M ∧ (∀ t, (t < s → Z' 89 t = Z 89 t ∧ Z' 90 t = Z 90 t ∧ Z' 91 t = Z 91 t ∧ Z' 92 t = Z 92 t) ∧ (s ≤ t → t < s + c → Z' 89 t = (enR th t c s M).2.1 ∧ Z' 90 t = (enR th t c s M).2.2.1 ∧ Z' 91 t = (enR th t c s M).2.2.2.2 ∧ Z' 92 t = (enR th t c s M).2.2.2.1)) ∧ (∀ a, a ≠ 80 → a ≠ 87 → a ≠ 88 → a ≠ 89 → a ≠ 90 → a ≠ 91 → a ≠ 92 → Z' a = Z a) ∧ ∀ Q, sm_wp (d + 6) 171 6 [some (.inr (some 79)), some (.inl (s : Int))] [] (Z, Rf, K, n, z) Q = Q none (Z', Rf, K, n, z) := by
  intro c
  induction c with
  | zero =>
    intro s M Z hsc hM hi hw hth
    refine ⟨Z, hM, fun t => ⟨fun _ => ⟨rfl, rfl, rfl, rfl⟩, fun h1 h2 => by omega⟩, fun a _ _ _ _ _ _ _ => rfl, fun Q => ?_⟩
    have h8 := hw.1
    rw [b171_6, kk_79 H, rr_79_0 H]
    simp (disch := omega) only [wr_id, wr_b2i, wr_wr, b2i_eq0, b2i_eq1, b2i_01, sm_rem_eq, sm_div_eq, wl_m2, wl_m1, wl_0, wl_1, wl_2, wl_3, wl_4, wl_5, wl_6, wl_7, wl_8, wl_9, wl_10, wl_12, wl_13, wl_14, wl_16, wl_20, wl_21, wl_22, wl_23, wl_32, wl_36, wl_40, wl_41, wl_42, wl_43, wl_44, wl_45, wl_46, wl_47, wl_48, wl_57, wl_59, wl_60, wl_61, wl_62, wl_65, wl_90, wl_97, wl_99, wl_100, wl_121, wl_122, wl_140, wl_142, wl_143, wl_145, wl_147, wl_160, wl_161, wl_162, wl_242, wl_380, wl_400, wl_420, wl_820, wl_1340, wl_5480, wl_9999, true_and, and_true, true_or, or_true, if_true, if_false, and_self, or_self, false_and, and_false, false_or, or_false, not_true_eq_false, not_false_eq_true, Int.reduceEq, Int.reduceLT, Int.reduceLE, Int.reduceToNat, Int.reduceAdd, Int.reduceMul, Int.reduceSub, Int.reduceMod, Int.reduceDiv, Int.reduceNeg, Nat.reduceEqDiff, sm_rd_ok, sm_rd_ok2, sm_wt_ok, sm_cp_ok, Option.isSome_some, Option.getD_some, w_cont, Option.toList_some, Option.toList_none, List.cons_append, List.nil_append, kk_80 H, hM]
    rw [if_pos (by omega), b171_27]
  | succ c ih =>
    intro s M Z hsc hM hi hw hth
    have h8 := hw.1
    obtain ⟨Z1, ⟨g1, g2, g3, g4, g5, g6⟩, g7⟩ := m_flies (d := d) (n := n) (z := z) H (th := th) (s := s) hM hi hw hth (by omega)
    obtain ⟨hi1, ag1⟩ := flO_inv (th := th) (s := s) hi hw (by omega)
    have h4 := ag1 4 (by omega) (by omega) (by omega)
    obtain ⟨Z2, f1, f2, f3, f4⟩ := ih (s + 1) _ Z1 (by rw [h4]; omega) g1 hi1 (swS_ag ag1 hw) (by rw [g6 79 (by decide) (by decide) (by decide) (by decide) (by decide) (by decide) (by decide)]; exact hth)
    refine ⟨Z2, f1, ?_, fun a h1 h2 h3 h4 h5 h6 h7 => by rw [f3 a h1 h2 h3 h4 h5 h6 h7, g6 a h1 h2 h3 h4 h5 h6 h7], fun Q => ?_⟩
    · intro t
      constructor
      · intro ht
        obtain ⟨p1, p2, p3, p4⟩ := (f2 t).1 (by omega)
        rw [p1, p2, p3, p4, g2, g3, g5, g4]
        unfold mU
        rw [if_neg (by omega), if_neg (by omega), if_neg (by omega), if_neg (by omega)]
        exact ⟨rfl, rfl, rfl, rfl⟩
      · intro h1 h2
        simp only [enR]
        by_cases ht : s = t
        · rw [if_pos ht]
          obtain ⟨p1, p2, p3, p4⟩ := (f2 t).1 (by omega)
          rw [p1, p2, p3, p4, g2, g3, g5, g4]
          unfold mU
          rw [if_pos ht.symm, if_pos ht.symm, if_pos ht.symm, if_pos ht.symm]
          exact ⟨rfl, rfl, rfl, rfl⟩
        · rw [if_neg ht]
          exact (f2 t).2 (by omega) (by omega)
    · rw [b171_6, kk_79 H, rr_79_0 H]
      simp (disch := omega) only [wr_id, wr_b2i, wr_wr, b2i_eq0, b2i_eq1, b2i_01, sm_rem_eq, sm_div_eq, wl_m2, wl_m1, wl_0, wl_1, wl_2, wl_3, wl_4, wl_5, wl_6, wl_7, wl_8, wl_9, wl_10, wl_12, wl_13, wl_14, wl_16, wl_20, wl_21, wl_22, wl_23, wl_32, wl_36, wl_40, wl_41, wl_42, wl_43, wl_44, wl_45, wl_46, wl_47, wl_48, wl_57, wl_59, wl_60, wl_61, wl_62, wl_65, wl_90, wl_97, wl_99, wl_100, wl_121, wl_122, wl_140, wl_142, wl_143, wl_145, wl_147, wl_160, wl_161, wl_162, wl_242, wl_380, wl_400, wl_420, wl_820, wl_1340, wl_5480, wl_9999, true_and, and_true, true_or, or_true, if_true, if_false, and_self, or_self, false_and, and_false, false_or, or_false, not_true_eq_false, not_false_eq_true, Int.reduceEq, Int.reduceLT, Int.reduceLE, Int.reduceToNat, Int.reduceAdd, Int.reduceMul, Int.reduceSub, Int.reduceMod, Int.reduceDiv, Int.reduceNeg, Nat.reduceEqDiff, sm_rd_ok, sm_rd_ok2, sm_wt_ok, sm_cp_ok, Option.isSome_some, Option.getD_some, w_cont, Option.toList_some, Option.toList_none, List.cons_append, List.nil_append, kk_80 H, hM]
      rw [if_neg (by omega), b171_16, kk_79 H, g7, w_cont]
      simp only [wr_id, wr_b2i, wr_wr, b2i_eq0, b2i_eq1, b2i_01, sm_rem_eq, sm_div_eq, wl_m2, wl_m1, wl_0, wl_1, wl_2, wl_3, wl_4, wl_5, wl_6, wl_7, wl_8, wl_9, wl_10, wl_12, wl_13, wl_14, wl_16, wl_20, wl_21, wl_22, wl_23, wl_32, wl_36, wl_40, wl_41, wl_42, wl_43, wl_44, wl_45, wl_46, wl_47, wl_48, wl_57, wl_59, wl_60, wl_61, wl_62, wl_65, wl_90, wl_97, wl_99, wl_100, wl_121, wl_122, wl_140, wl_142, wl_143, wl_145, wl_147, wl_160, wl_161, wl_162, wl_242, wl_380, wl_400, wl_420, wl_820, wl_1340, wl_5480, wl_9999, true_and, and_true, true_or, or_true, if_true, if_false, and_self, or_self, false_and, and_false, false_or, or_false, not_true_eq_false, not_false_eq_true, Int.reduceEq, Int.reduceLT, Int.reduceLE, Int.reduceToNat, Int.reduceAdd, Int.reduceMul, Int.reduceSub, Int.reduceMod, Int.reduceDiv, Int.reduceNeg, Nat.reduceEqDiff, sm_rd_ok, sm_rd_ok2, sm_wt_ok, sm_cp_ok, Option.isSome_some, Option.getD_some, w_cont, Option.toList_some, Option.toList_none, List.cons_append, List.nil_append]
      rw [b171_21, show (s : Int) + 1 = ((s + 1 : Nat) : Int) by omega, f4]
theorem m_allFly (H : sm_sh Rf K) {th : Bool} {M : Nat → Int} {Z : Nat → Nat → Int} (hM : Z 80 = M) (hi : invF M) (hw : swS M) (hth : Z 79 6 = b2i th) : ∃ Z', Z' 80 = allS th M ∧ (∀ t : Nat, (t : Int) < M 4 → Z' 89 t = (endS th t M).2.1 ∧ Z' 90 t = (endS th t M).2.2.1 ∧ Z' 91 t = (endS th t M).2.2.2.2 ∧ Z' 92 t = (endS th t M).2.2.2.1) ∧ (∀ a, a ≠ 80 → a ≠ 87 → a ≠ 88 → a ≠ 89 → a ≠ 90 → a ≠ 91 → a ≠ 92 → Z' a = Z a) ∧ ∀ Q, sm_call (d + 6) 171 [.inr (some 79)] (Z, Rf, K, n, z) Q = Q none (Z', Rf, K, n, z) := by
  have h4 : clrS M 4 = M 4 := agT_clr M 4 (by omega) (by omega) (by omega)
  have h8 := hw.1
  obtain ⟨Z', f1, f2, f3, f4⟩ := m_allFly_loop (d := d) (n := n) (z := z) H (th := th) (M 4).toNat 0 (clrS M) (m_clr Z) (by rw [h4]; omega) (by rw [clrS_eq, hM]) (invF_clr hi) (swS_ag (agT_clr M) hw) (by rw [m_clr_row (by decide)]; exact hth)
  refine ⟨Z', f1, fun t ht => (f2 t).2 (by omega) (by omega), fun a h1 h2 h3 h4 h5 h6 h7 => by rw [f3 a h1 h2 h3 h4 h5 h6 h7, m_clr_row h1], fun Q => ?_⟩
  rw [ce171, b171_0, kk_79 H, m_clears H, w_cont]
  simp only [wr_id, wr_b2i, wr_wr, b2i_eq0, b2i_eq1, b2i_01, sm_rem_eq, sm_div_eq, wl_m2, wl_m1, wl_0, wl_1, wl_2, wl_3, wl_4, wl_5, wl_6, wl_7, wl_8, wl_9, wl_10, wl_12, wl_13, wl_14, wl_16, wl_20, wl_21, wl_22, wl_23, wl_32, wl_36, wl_40, wl_41, wl_42, wl_43, wl_44, wl_45, wl_46, wl_47, wl_48, wl_57, wl_59, wl_60, wl_61, wl_62, wl_65, wl_90, wl_97, wl_99, wl_100, wl_121, wl_122, wl_140, wl_142, wl_143, wl_145, wl_147, wl_160, wl_161, wl_162, wl_242, wl_380, wl_400, wl_420, wl_820, wl_1340, wl_5480, wl_9999, true_and, and_true, true_or, or_true, if_true, if_false, and_self, or_self, false_and, and_false, false_or, or_false, not_true_eq_false, not_false_eq_true, Int.reduceEq, Int.reduceLT, Int.reduceLE, Int.reduceToNat, Int.reduceAdd, Int.reduceMul, Int.reduceSub, Int.reduceMod, Int.reduceDiv, Int.reduceNeg, Nat.reduceEqDiff, sm_rd_ok, sm_rd_ok2, sm_wt_ok, sm_cp_ok, Option.isSome_some, Option.getD_some, w_cont, Option.toList_some, Option.toList_none, List.cons_append, List.nil_append]
  rw [b171_4]
  exact f4 Q
end ALLFLY
