theorem toR_bd {M : Nat → Int} {k : Nat} {F : Int → Int} {L : Nat} {P : Nat → Nat} (hw : wfL M k L P) : ∀ (m i : Nat), i + m = L → 0 ≤ toR M k F m i ∧ toR M k F m i ≤ 4 := by
  intro m
  induction m with
  | zero => intro i _; simp [toR]
  | succ m ih =>
    intro i hi
    have h5 := (hw.2.2.2 i (by omega)).2.2.2.2.1
    have := ih (i + 1) (by omega)
    simp only [toR]
    split
    · exact h5
    · split
      · exact h5
      · exact this
theorem sm_r_row {α : Type} {f : Nat → Nat → α} {a b : Nat} {v : Nat → α} (h : b ≠ a) : sm_r f a v b = f b := by
  funext j
  simp [sm_r, h]
theorem sm_r_same {α : Type} {f : Nat → Nat → α} {a : Nat} {v : Nat → α} : sm_r f a v a = v := by
  funext j
  simp [sm_r]
theorem sm_u_mU {Z : Nat → Nat → Int} {a i : Nat} {v : Int} : sm_u Z a i v a = mU (Z a) i v := by
  funext j
  simp [sm_u, mU]
theorem catS_congr {f g : Nat → Int} {w h : Int} (hw : w ≤ 10) (hh : h ≤ 10) (hfg : ∀ c, c < 100 → f c = g c) (x y : Int) : catS f w h x y = catS g w h x y := by
  have one : ∀ cx cy, catA f w h cx cy = catA g w h cx cy := by
    intro cx cy
    have hcb := cAt_bd (w := w) (h := h) cx cy hw hh
    by_cases h1 : cAt w h cx cy = -1
    · simp only [catA, h1, not_true_eq_false, false_and]
    · simp only [catA, hfg (cAt w h cx cy).toNat (by omega)]
  simp only [catS, one]
section FLIES
variable {d n z : Nat} {Rf : Nat → Nat → Option Nat} {K : Nat → Nat × Nat}
/-- how the model's cells stand behind a flight -/
def enM (Z Z' : Nat → Nat → Int) (s : Nat) (r : (Nat → Int) × Int × Int × Int × Int) : Prop := Z' 80 = r.1 ∧ Z' 89 = mU (Z 89) s r.2.1 ∧ Z' 90 = mU (Z 90) s r.2.2.1 ∧ Z' 92 = mU (Z 92) s r.2.2.2.1 ∧ Z' 91 = mU (Z 91) s r.2.2.2.2 ∧ ∀ a, a ≠ 80 → a ≠ 87 → a ≠ 88 → a ≠ 89 → a ≠ 90 → a ≠ 91 → a ≠ 92 → Z' a = Z a
theorem m_fl_end (H : sm_sh Rf K) {Z : Nat → Nat → Int} (s : Nat) (hs : s < 8) {x y h st : Int} (l2 l7 l8 l9 l10 : Option sm_V) : ∃ Z', enM Z Z' s (Z 80, x, y, h, st) ∧ ∀ Q, sm_wp d 170 313 [some (.inr (some 79)), some (.inl (s : Int)), l2, some (.inl x), some (.inl y), some (.inl h), some (.inl st), l7, l8, l9, l10] [] (Z, Rf, K, n, z) Q = Q none (Z', Rf, K, n, z) := by
  refine ⟨sm_u (sm_u (sm_u (sm_u Z 89 s x) 90 s y) 91 s st) 92 s h, ⟨?_, ?_, ?_, ?_, ?_, ?_⟩, fun Q => ?_⟩
  · rw [sm_u_row (by decide), sm_u_row (by decide), sm_u_row (by decide), sm_u_row (by decide)]
  · rw [sm_u_row (by decide), sm_u_row (by decide), sm_u_row (by decide), sm_u_mU]
  · rw [sm_u_row (by decide), sm_u_row (by decide), sm_u_mU, sm_u_row (by decide)]
  · rw [sm_u_mU, sm_u_row (by decide), sm_u_row (by decide), sm_u_row (by decide)]
  · rw [sm_u_row (by decide), sm_u_mU, sm_u_row (by decide), sm_u_row (by decide)]
  · intro a h1 h2 h3 h4 h5 h6 h7
    rw [sm_u_row h7, sm_u_row h6, sm_u_row h5, sm_u_row h4]
  · rw [b170_313, kk_79 H, rr_79_24 H, rr_79_25 H, rr_79_26 H, rr_79_27 H]
    simp (disch := omega) only [wr_id, wr_b2i, wr_wr, b2i_eq0, b2i_eq1, b2i_01, sm_rem_eq, sm_div_eq, wl_m2, wl_m1, wl_0, wl_1, wl_2, wl_3, wl_4, wl_5, wl_6, wl_7, wl_8, wl_9, wl_10, wl_12, wl_13, wl_14, wl_16, wl_20, wl_21, wl_22, wl_23, wl_32, wl_36, wl_40, wl_41, wl_42, wl_43, wl_44, wl_45, wl_46, wl_47, wl_48, wl_57, wl_59, wl_60, wl_61, wl_62, wl_65, wl_90, wl_97, wl_99, wl_100, wl_121, wl_122, wl_140, wl_142, wl_143, wl_145, wl_147, wl_160, wl_161, wl_162, wl_242, wl_380, wl_400, wl_420, wl_820, wl_1340, wl_5480, wl_9999, true_and, and_true, true_or, or_true, if_true, if_false, and_self, or_self, false_and, and_false, false_or, or_false, not_true_eq_false, not_false_eq_true, Int.reduceEq, Int.reduceLT, Int.reduceLE, Int.reduceToNat, Int.reduceAdd, Int.reduceMul, Int.reduceSub, Int.reduceMod, Int.reduceDiv, Int.reduceNeg, Nat.reduceEqDiff, sm_rd_ok, sm_rd_ok2, sm_wt_ok, sm_cp_ok, Option.isSome_some, Option.getD_some, w_cont, Option.toList_some, Option.toList_none, List.cons_append, List.nil_append, kk_89 H, kk_90 H, kk_91 H, kk_92 H, Int.toNat_natCast]
set_option maxHeartbeats 1000000 in
theorem m_flies_loop (H : sm_sh Rf K) (s k len : Nat) (hs : s < 8) (hk : k < 4) (hl : len ≤ 60) (th : Bool) : ∀ (f st : Nat) (M : Nat → Int) (Z : Nat → Nat → Int) (x y h : Int) (l8 l9 l10 : Option sm_V), st + f = len → Z 80 = M → invF M → Z 79 6 = b2i th → M (1858 + 5 * s) = (len : Int) → M (1859 + 5 * s) = (k : Int) → isP (M 0) (M 1) x y = true → (0 ≤ h ∧ h ≤ 3) → ∃ Z', enM Z Z' s (flR th k (s : Int) (len : Int) f M x y h (st : Int)) ∧ ∀ Q, sm_wp (d + 5) 170 41 [some (.inr (some 79)), some (.inl (s : Int)), some (.inl (1855 + 5 * (s : Int))), some (.inl x), some (.inl y), some (.inl h), some (.inl (st : Int)), some (.inl 1), l8, l9, l10] [] (Z, Rf, K, n, z) Q = Q none (Z', Rf, K, n, z) := by
  intro f
  induction f with
  | zero =>
    intro st M Z x y h l8 l9 l10 hst hM hi hth hlen hkk hp hh
    obtain ⟨Z', e1, e2⟩ := m_fl_end (d := d + 5) (n := n) (z := z) H (Z := Z) s hs (x := x) (y := y) (h := h) (st := (st : Int)) (some (.inl (1855 + 5 * (s : Int)))) (some (.inl 1)) l8 l9 l10
    refine ⟨Z', ?_, fun Q => ?_⟩
    · rw [hM] at e1; exact e1
    · rw [b170_41, wl_1, if_neg (by decide), b170_46, kk_79 H, rr_79_0 H]
      simp (disch := omega) only [wr_id, wr_b2i, wr_wr, b2i_eq0, b2i_eq1, b2i_01, sm_rem_eq, sm_div_eq, wl_m2, wl_m1, wl_0, wl_1, wl_2, wl_3, wl_4, wl_5, wl_6, wl_7, wl_8, wl_9, wl_10, wl_12, wl_13, wl_14, wl_16, wl_20, wl_21, wl_22, wl_23, wl_32, wl_36, wl_40, wl_41, wl_42, wl_43, wl_44, wl_45, wl_46, wl_47, wl_48, wl_57, wl_59, wl_60, wl_61, wl_62, wl_65, wl_90, wl_97, wl_99, wl_100, wl_121, wl_122, wl_140, wl_142, wl_143, wl_145, wl_147, wl_160, wl_161, wl_162, wl_242, wl_380, wl_400, wl_420, wl_820, wl_1340, wl_5480, wl_9999, true_and, and_true, true_or, or_true, if_true, if_false, and_self, or_self, false_and, and_false, false_or, or_false, not_true_eq_false, not_false_eq_true, Int.reduceEq, Int.reduceLT, Int.reduceLE, Int.reduceToNat, Int.reduceAdd, Int.reduceMul, Int.reduceSub, Int.reduceMod, Int.reduceDiv, Int.reduceNeg, Nat.reduceEqDiff, sm_rd_ok, sm_rd_ok2, sm_wt_ok, sm_cp_ok, Option.isSome_some, Option.getD_some, w_cont, Option.toList_some, Option.toList_none, List.cons_append, List.nil_append, kk_80 H, hM]
      rw [show (1855 + 5 * (s : Int) + 3).toNat = 1858 + 5 * s by omega, hlen, wr_id (by omega) (by omega), if_pos (by omega), e2]
  | succ f ih =>
    intro st M Z x y h l8 l9 l10 hst hM hi hth hlen hkk hp hh
    obtain ⟨L, P, hw⟩ := hi.2.2.2.2.2.2 k hk
    have hsz := hi.1
    have hszM : szM Z := by subst hM; exact hsz
    unfold szN at hsz
    have hp' := hp
    simp only [isP, decide_eq_true_eq] at hp'
    have hLn : (M (1985 + k)).toNat = L := by rw [hw.1]; omega
    obtain ⟨Z1, f1, f2, f3⟩ := m_facts (d := d) (n := n) (z := z) H hM hi.1 hh hp (fun k hk => by have := hi.2.1 k hk; exact ⟨by omega, by omega⟩)
    let Z2 := sm_u (sm_u (sm_u Z1 88 7 (st : Int)) 88 8 ((len : Int) - (st : Int))) 88 9 (s : Int)
    have r2 : ∀ a, a ≠ 88 → Z2 a = Z a := fun a ha => by
      show sm_u (sm_u (sm_u Z1 88 7 _) 88 8 _) 88 9 _ a = _
      rw [sm_u_row ha, sm_u_row ha, sm_u_row ha, f1 a ha]
    have hM2 : Z2 80 = M := by rw [r2 80 (by decide)]; exact hM
    have hF : ∀ i, 1 ≤ i → i ≤ 9 → Z2 88 i.toNat = fcS M x y h (st : Int) ((len : Int) - (st : Int)) (s : Int) i := by
      intro i h1 h2
      show sm_u (sm_u (sm_u Z1 88 7 _) 88 8 _) 88 9 _ 88 _ = _
      by_cases h9 : i = 9
      · subst h9; rfl
      · by_cases h8 : i = 8
        · subst h8; rfl
        · by_cases h7 : i = 7
          · subst h7; rfl
          · rw [sm_u_eq, if_neg (by omega), sm_u_eq, if_neg (by omega), sm_u_eq, if_neg (by omega)]
            exact f2 i _ _ _ h1 (by omega)
    obtain ⟨Z3, t1, t2⟩ := m_told (d := d + 2) (n := n) (z := z) (F := fcS M x y h (st : Int) ((len : Int) - (st : Int)) (s : Int)) H hk (Z := Z2) (by rw [hM2]; exact hw) hF
    rw [hM2] at t2
    have r3 : ∀ a, a ≠ 87 → a ≠ 88 → Z3 a = Z a := fun a h1 h2 => by rw [t1 a h1, r2 a h2]
    have hM3 : Z3 80 = M := by rw [r3 80 (by decide) (by decide)]; exact hM
    have htb := toR_bd (F := fcS M x y h (st : Int) ((len : Int) - (st : Int)) (s : Int)) hw L 0 (by omega)
    generalize htn : toR M k (fcS M x y h (st : Int) ((len : Int) - (st : Int)) (s : Int)) L 0 = tn at htb t2
    have head : ∀ Q, sm_wp (d + 5) 170 41 [some (.inr (some 79)), some (.inl (s : Int)), some (.inl (1855 + 5 * (s : Int))), some (.inl x), some (.inl y), some (.inl h), some (.inl (st : Int)), some (.inl 1), l8, l9, l10] [] (Z, Rf, K, n, z) Q = if tn = 4 then sm_wp (d + 5) 170 123 [some (.inr (some 79)), some (.inl (s : Int)), some (.inl (1855 + 5 * (s : Int))), some (.inl x), some (.inl y), some (.inl h), some (.inl (st : Int)), some (.inl 1), some (.inl tn), l9, l10] [] (Z3, Rf, K, n, z) Q else sm_wp (d + 5) 170 126 [some (.inr (some 79)), some (.inl (s : Int)), some (.inl (1855 + 5 * (s : Int))), some (.inl x), some (.inl y), some (.inl h), some (.inl (st : Int)), some (.inl 1), some (.inl tn), l9, l10] [] (Z3, Rf, K, n, z) Q := by
      intro Q
      have n3 : (1855 + 5 * (s : Int) + 3).toNat = 1858 + 5 * s := by omega
      have n4 : (1855 + 5 * (s : Int) + 4).toNat = 1859 + 5 * s := by omega
      have hM1 : Z1 80 = M := by rw [f1 80 (by decide)]; exact hM
      rw [b170_41, wl_1, if_neg (by decide), b170_46, kk_79 H, rr_79_0 H]
      simp (disch := omega) only [wr_id, wr_b2i, wr_wr, b2i_eq0, b2i_eq1, b2i_01, sm_rem_eq, sm_div_eq, wl_m2, wl_m1, wl_0, wl_1, wl_2, wl_3, wl_4, wl_5, wl_6, wl_7, wl_8, wl_9, wl_10, wl_12, wl_13, wl_14, wl_16, wl_20, wl_21, wl_22, wl_23, wl_32, wl_36, wl_40, wl_41, wl_42, wl_43, wl_44, wl_45, wl_46, wl_47, wl_48, wl_57, wl_59, wl_60, wl_61, wl_62, wl_65, wl_90, wl_97, wl_99, wl_100, wl_121, wl_122, wl_140, wl_142, wl_143, wl_145, wl_147, wl_160, wl_161, wl_162, wl_242, wl_380, wl_400, wl_420, wl_820, wl_1340, wl_5480, wl_9999, true_and, and_true, true_or, or_true, if_true, if_false, and_self, or_self, false_and, and_false, false_or, or_false, not_true_eq_false, not_false_eq_true, Int.reduceEq, Int.reduceLT, Int.reduceLE, Int.reduceToNat, Int.reduceAdd, Int.reduceMul, Int.reduceSub, Int.reduceMod, Int.reduceDiv, Int.reduceNeg, Nat.reduceEqDiff, sm_rd_ok, sm_rd_ok2, sm_wt_ok, sm_cp_ok, Option.isSome_some, Option.getD_some, w_cont, Option.toList_some, Option.toList_none, List.cons_append, List.nil_append, kk_80 H, hM]
      rw [n3, hlen, wr_id (by omega) (by omega), if_neg (by omega), b170_59, kk_79 H, f3, w_cont]
      simp only [wr_id, wr_b2i, wr_wr, b2i_eq0, b2i_eq1, b2i_01, sm_rem_eq, sm_div_eq, wl_m2, wl_m1, wl_0, wl_1, wl_2, wl_3, wl_4, wl_5, wl_6, wl_7, wl_8, wl_9, wl_10, wl_12, wl_13, wl_14, wl_16, wl_20, wl_21, wl_22, wl_23, wl_32, wl_36, wl_40, wl_41, wl_42, wl_43, wl_44, wl_45, wl_46, wl_47, wl_48, wl_57, wl_59, wl_60, wl_61, wl_62, wl_65, wl_90, wl_97, wl_99, wl_100, wl_121, wl_122, wl_140, wl_142, wl_143, wl_145, wl_147, wl_160, wl_161, wl_162, wl_242, wl_380, wl_400, wl_420, wl_820, wl_1340, wl_5480, wl_9999, true_and, and_true, true_or, or_true, if_true, if_false, and_self, or_self, false_and, and_false, false_or, or_false, not_true_eq_false, not_false_eq_true, Int.reduceEq, Int.reduceLT, Int.reduceLE, Int.reduceToNat, Int.reduceAdd, Int.reduceMul, Int.reduceSub, Int.reduceMod, Int.reduceDiv, Int.reduceNeg, Nat.reduceEqDiff, sm_rd_ok, sm_rd_ok2, sm_wt_ok, sm_cp_ok, Option.isSome_some, Option.getD_some, w_cont, Option.toList_some, Option.toList_none, List.cons_append, List.nil_append]
      rw [b170_68, kk_79 H, rr_79_0 H, rr_79_11 H]
      simp (disch := omega) only [wr_id, wr_b2i, wr_wr, b2i_eq0, b2i_eq1, b2i_01, sm_rem_eq, sm_div_eq, wl_m2, wl_m1, wl_0, wl_1, wl_2, wl_3, wl_4, wl_5, wl_6, wl_7, wl_8, wl_9, wl_10, wl_12, wl_13, wl_14, wl_16, wl_20, wl_21, wl_22, wl_23, wl_32, wl_36, wl_40, wl_41, wl_42, wl_43, wl_44, wl_45, wl_46, wl_47, wl_48, wl_57, wl_59, wl_60, wl_61, wl_62, wl_65, wl_90, wl_97, wl_99, wl_100, wl_121, wl_122, wl_140, wl_142, wl_143, wl_145, wl_147, wl_160, wl_161, wl_162, wl_242, wl_380, wl_400, wl_420, wl_820, wl_1340, wl_5480, wl_9999, true_and, and_true, true_or, or_true, if_true, if_false, and_self, or_self, false_and, and_false, false_or, or_false, not_true_eq_false, not_false_eq_true, Int.reduceEq, Int.reduceLT, Int.reduceLE, Int.reduceToNat, Int.reduceAdd, Int.reduceMul, Int.reduceSub, Int.reduceMod, Int.reduceDiv, Int.reduceNeg, Nat.reduceEqDiff, sm_rd_ok, sm_rd_ok2, sm_wt_ok, sm_cp_ok, Option.isSome_some, Option.getD_some, w_cont, Option.toList_some, Option.toList_none, List.cons_append, List.nil_append, kk_80 H, kk_88 H, n3, n4, sm_u_ne, hM1, hlen, hkk]
      have t3 := t2 (sm_cont (d + 5) 170 115 [some (.inr (some 79)), some (.inl (s : Int)), some (.inl (1855 + 5 * (s : Int))), some (.inl x), some (.inl y), some (.inl h), some (.inl (st : Int)), some (.inl 1), l8, l9, l10] [] Q)
      refine Eq.trans t3 ?_
      rw [w_cont]
      simp only [wr_id, wr_b2i, wr_wr, b2i_eq0, b2i_eq1, b2i_01, sm_rem_eq, sm_div_eq, wl_m2, wl_m1, wl_0, wl_1, wl_2, wl_3, wl_4, wl_5, wl_6, wl_7, wl_8, wl_9, wl_10, wl_12, wl_13, wl_14, wl_16, wl_20, wl_21, wl_22, wl_23, wl_32, wl_36, wl_40, wl_41, wl_42, wl_43, wl_44, wl_45, wl_46, wl_47, wl_48, wl_57, wl_59, wl_60, wl_61, wl_62, wl_65, wl_90, wl_97, wl_99, wl_100, wl_121, wl_122, wl_140, wl_142, wl_143, wl_145, wl_147, wl_160, wl_161, wl_162, wl_242, wl_380, wl_400, wl_420, wl_820, wl_1340, wl_5480, wl_9999, true_and, and_true, true_or, or_true, if_true, if_false, and_self, or_self, false_and, and_false, false_or, or_false, not_true_eq_false, not_false_eq_true, Int.reduceEq, Int.reduceLT, Int.reduceLE, Int.reduceToNat, Int.reduceAdd, Int.reduceMul, Int.reduceSub, Int.reduceMod, Int.reduceDiv, Int.reduceNeg, Nat.reduceEqDiff, sm_rd_ok, sm_rd_ok2, sm_wt_ok, sm_cp_ok, Option.isSome_some, Option.getD_some, w_cont, Option.toList_some, Option.toList_none, List.cons_append, List.nil_append]
      rw [b170_115, wr_id (by omega) (by omega)]
    simp only [flR]
    rw [hLn, htn]
    by_cases h4 : tn = 4
    · rw [if_pos h4]
      obtain ⟨Z', e1, e2⟩ := m_fl_end (d := d + 5) (n := n) (z := z) H (Z := Z3) s hs (x := x) (y := y) (h := h) (st := (st : Int)) (some (.inl (1855 + 5 * (s : Int)))) (some (.inl 1)) (some (.inl tn)) l9 l10
      refine ⟨Z', ?_, fun Q => ?_⟩
      · obtain ⟨g1, g2, g3, g4, g5, g6⟩ := e1
        rw [hM3] at g1
        rw [r3 89 (by decide) (by decide)] at g2
        rw [r3 90 (by decide) (by decide)] at g3
        rw [r3 92 (by decide) (by decide)] at g4
        rw [r3 91 (by decide) (by decide)] at g5
        exact ⟨g1, g2, g3, g4, g5, fun a h1 h2 h3 h4 h5 h6 h7 => by rw [g6 a h1 h2 h3 h4 h5 h6 h7, r3 a h2 h3]⟩
      · rw [head, if_pos h4, b170_123, e2]
    · rw [if_neg h4]
      have hmir := hi.2.2.2.2.2.1 (11 * y + x).toNat (by omega)
      have nm : (720 + 11 * y + x).toNat = 720 + (11 * y + x).toNat := by omega
      have hd : ∃ l8', ∀ Q, sm_wp (d + 5) 170 126 [some (.inr (some 79)), some (.inl (s : Int)), some (.inl (1855 + 5 * (s : Int))), some (.inl x), some (.inl y), some (.inl h), some (.inl (st : Int)), some (.inl 1), some (.inl tn), l9, l10] [] (Z3, Rf, K, n, z) Q = sm_call (d + 4) 160 [.inl (hdM M x y h tn)] (Z3, Rf, K, n, z) (sm_cont (d + 5) 170 176 [some (.inr (some 79)), some (.inl (s : Int)), some (.inl (1855 + 5 * (s : Int))), some (.inl x), some (.inl y), some (.inl (hdM M x y h tn)), some (.inl (st : Int)), some (.inl 1), l8', l9, l10] [.inl x, .inr (some 79)] Q) := by
        unfold hdM
        rw [nm]
        by_cases m1 : M (720 + (11 * y + x).toNat) = 1
        · by_cases m2 : tn % 2 = 1
          · refine ⟨some (.inl (4 - tn)), fun Q => ?_⟩
            rw [b170_126, kk_79 H, rr_79_0 H]
            simp (disch := omega) only [wr_id, wr_b2i, wr_wr, b2i_eq0, b2i_eq1, b2i_01, sm_rem_eq, sm_div_eq, wl_m2, wl_m1, wl_0, wl_1, wl_2, wl_3, wl_4, wl_5, wl_6, wl_7, wl_8, wl_9, wl_10, wl_12, wl_13, wl_14, wl_16, wl_20, wl_21, wl_22, wl_23, wl_32, wl_36, wl_40, wl_41, wl_42, wl_43, wl_44, wl_45, wl_46, wl_47, wl_48, wl_57, wl_59, wl_60, wl_61, wl_62, wl_65, wl_90, wl_97, wl_99, wl_100, wl_121, wl_122, wl_140, wl_142, wl_143, wl_145, wl_147, wl_160, wl_161, wl_162, wl_242, wl_380, wl_400, wl_420, wl_820, wl_1340, wl_5480, wl_9999, true_and, and_true, true_or, or_true, if_true, if_false, and_self, or_self, false_and, and_false, false_or, or_false, not_true_eq_false, not_false_eq_true, Int.reduceEq, Int.reduceLT, Int.reduceLE, Int.reduceToNat, Int.reduceAdd, Int.reduceMul, Int.reduceSub, Int.reduceMod, Int.reduceDiv, Int.reduceNeg, Nat.reduceEqDiff, sm_rd_ok, sm_rd_ok2, sm_wt_ok, sm_cp_ok, Option.isSome_some, Option.getD_some, w_cont, Option.toList_some, Option.toList_none, List.cons_append, List.nil_append, kk_80 H, nm, hM3, m1]
            rw [b170_146]
            simp (disch := omega) only [wr_id, wr_b2i, wr_wr, b2i_eq0, b2i_eq1, b2i_01, sm_rem_eq, sm_div_eq, wl_m2, wl_m1, wl_0, wl_1, wl_2, wl_3, wl_4, wl_5, wl_6, wl_7, wl_8, wl_9, wl_10, wl_12, wl_13, wl_14, wl_16, wl_20, wl_21, wl_22, wl_23, wl_32, wl_36, wl_40, wl_41, wl_42, wl_43, wl_44, wl_45, wl_46, wl_47, wl_48, wl_57, wl_59, wl_60, wl_61, wl_62, wl_65, wl_90, wl_97, wl_99, wl_100, wl_121, wl_122, wl_140, wl_142, wl_143, wl_145, wl_147, wl_160, wl_161, wl_162, wl_242, wl_380, wl_400, wl_420, wl_820, wl_1340, wl_5480, wl_9999, true_and, and_true, true_or, or_true, if_true, if_false, and_self, or_self, false_and, and_false, false_or, or_false, not_true_eq_false, not_false_eq_true, Int.reduceEq, Int.reduceLT, Int.reduceLE, Int.reduceToNat, Int.reduceAdd, Int.reduceMul, Int.reduceSub, Int.reduceMod, Int.reduceDiv, Int.reduceNeg, Nat.reduceEqDiff, sm_rd_ok, sm_rd_ok2, sm_wt_ok, sm_cp_ok, Option.isSome_some, Option.getD_some, w_cont, Option.toList_some, Option.toList_none, List.cons_append, List.nil_append, m2]
            rw [b170_154, b170_160]
            simp (disch := omega) only [wr_id, wr_b2i, wr_wr, b2i_eq0, b2i_eq1, b2i_01, sm_rem_eq, sm_div_eq, wl_m2, wl_m1, wl_0, wl_1, wl_2, wl_3, wl_4, wl_5, wl_6, wl_7, wl_8, wl_9, wl_10, wl_12, wl_13, wl_14, wl_16, wl_20, wl_21, wl_22, wl_23, wl_32, wl_36, wl_40, wl_41, wl_42, wl_43, wl_44, wl_45, wl_46, wl_47, wl_48, wl_57, wl_59, wl_60, wl_61, wl_62, wl_65, wl_90, wl_97, wl_99, wl_100, wl_121, wl_122, wl_140, wl_142, wl_143, wl_145, wl_147, wl_160, wl_161, wl_162, wl_242, wl_380, wl_400, wl_420, wl_820, wl_1340, wl_5480, wl_9999, true_and, and_true, true_or, or_true, if_true, if_false, and_self, or_self, false_and, and_false, false_or, or_false, not_true_eq_false, not_false_eq_true, Int.reduceEq, Int.reduceLT, Int.reduceLE, Int.reduceToNat, Int.reduceAdd, Int.reduceMul, Int.reduceSub, Int.reduceMod, Int.reduceDiv, Int.reduceNeg, Nat.reduceEqDiff, sm_rd_ok, sm_rd_ok2, sm_wt_ok, sm_cp_ok, Option.isSome_some, Option.getD_some, w_cont, Option.toList_some, Option.toList_none, List.cons_append, List.nil_append]
          · refine ⟨some (.inl tn), fun Q => ?_⟩
            rw [b170_126, kk_79 H, rr_79_0 H]
            simp (disch := omega) only [wr_id, wr_b2i, wr_wr, b2i_eq0, b2i_eq1, b2i_01, sm_rem_eq, sm_div_eq, wl_m2, wl_m1, wl_0, wl_1, wl_2, wl_3, wl_4, wl_5, wl_6, wl_7, wl_8, wl_9, wl_10, wl_12, wl_13, wl_14, wl_16, wl_20, wl_21, wl_22, wl_23, wl_32, wl_36, wl_40, wl_41, wl_42, wl_43, wl_44, wl_45, wl_46, wl_47, wl_48, wl_57, wl_59, wl_60, wl_61, wl_62, wl_65, wl_90, wl_97, wl_99, wl_100, wl_121, wl_122, wl_140, wl_142, wl_143, wl_145, wl_147, wl_160, wl_161, wl_162, wl_242, wl_380, wl_400, wl_420, wl_820, wl_1340, wl_5480, wl_9999, true_and, and_true, true_or, or_true, if_true, if_false, and_self, or_self, false_and, and_false, false_or, or_false, not_true_eq_false, not_false_eq_true, Int.reduceEq, Int.reduceLT, Int.reduceLE, Int.reduceToNat, Int.reduceAdd, Int.reduceMul, Int.reduceSub, Int.reduceMod, Int.reduceDiv, Int.reduceNeg, Nat.reduceEqDiff, sm_rd_ok, sm_rd_ok2, sm_wt_ok, sm_cp_ok, Option.isSome_some, Option.getD_some, w_cont, Option.toList_some, Option.toList_none, List.cons_append, List.nil_append, kk_80 H, nm, hM3, m1]
            rw [b170_146]
            simp (disch := omega) only [wr_id, wr_b2i, wr_wr, b2i_eq0, b2i_eq1, b2i_01, sm_rem_eq, sm_div_eq, wl_m2, wl_m1, wl_0, wl_1, wl_2, wl_3, wl_4, wl_5, wl_6, wl_7, wl_8, wl_9, wl_10, wl_12, wl_13, wl_14, wl_16, wl_20, wl_21, wl_22, wl_23, wl_32, wl_36, wl_40, wl_41, wl_42, wl_43, wl_44, wl_45, wl_46, wl_47, wl_48, wl_57, wl_59, wl_60, wl_61, wl_62, wl_65, wl_90, wl_97, wl_99, wl_100, wl_121, wl_122, wl_140, wl_142, wl_143, wl_145, wl_147, wl_160, wl_161, wl_162, wl_242, wl_380, wl_400, wl_420, wl_820, wl_1340, wl_5480, wl_9999, true_and, and_true, true_or, or_true, if_true, if_false, and_self, or_self, false_and, and_false, false_or, or_false, not_true_eq_false, not_false_eq_true, Int.reduceEq, Int.reduceLT, Int.reduceLE, Int.reduceToNat, Int.reduceAdd, Int.reduceMul, Int.reduceSub, Int.reduceMod, Int.reduceDiv, Int.reduceNeg, Nat.reduceEqDiff, sm_rd_ok, sm_rd_ok2, sm_wt_ok, sm_cp_ok, Option.isSome_some, Option.getD_some, w_cont, Option.toList_some, Option.toList_none, List.cons_append, List.nil_append, m2]
            rw [b170_160]
            simp (disch := omega) only [wr_id, wr_b2i, wr_wr, b2i_eq0, b2i_eq1, b2i_01, sm_rem_eq, sm_div_eq, wl_m2, wl_m1, wl_0, wl_1, wl_2, wl_3, wl_4, wl_5, wl_6, wl_7, wl_8, wl_9, wl_10, wl_12, wl_13, wl_14, wl_16, wl_20, wl_21, wl_22, wl_23, wl_32, wl_36, wl_40, wl_41, wl_42, wl_43, wl_44, wl_45, wl_46, wl_47, wl_48, wl_57, wl_59, wl_60, wl_61, wl_62, wl_65, wl_90, wl_97, wl_99, wl_100, wl_121, wl_122, wl_140, wl_142, wl_143, wl_145, wl_147, wl_160, wl_161, wl_162, wl_242, wl_380, wl_400, wl_420, wl_820, wl_1340, wl_5480, wl_9999, true_and, and_true, true_or, or_true, if_true, if_false, and_self, or_self, false_and, and_false, false_or, or_false, not_true_eq_false, not_false_eq_true, Int.reduceEq, Int.reduceLT, Int.reduceLE, Int.reduceToNat, Int.reduceAdd, Int.reduceMul, Int.reduceSub, Int.reduceMod, Int.reduceDiv, Int.reduceNeg, Nat.reduceEqDiff, sm_rd_ok, sm_rd_ok2, sm_wt_ok, sm_cp_ok, Option.isSome_some, Option.getD_some, w_cont, Option.toList_some, Option.toList_none, List.cons_append, List.nil_append]
        · refine ⟨some (.inl tn), fun Q => ?_⟩
          rw [b170_126, kk_79 H, rr_79_0 H]
          simp (disch := omega) only [wr_id, wr_b2i, wr_wr, b2i_eq0, b2i_eq1, b2i_01, sm_rem_eq, sm_div_eq, wl_m2, wl_m1, wl_0, wl_1, wl_2, wl_3, wl_4, wl_5, wl_6, wl_7, wl_8, wl_9, wl_10, wl_12, wl_13, wl_14, wl_16, wl_20, wl_21, wl_22, wl_23, wl_32, wl_36, wl_40, wl_41, wl_42, wl_43, wl_44, wl_45, wl_46, wl_47, wl_48, wl_57, wl_59, wl_60, wl_61, wl_62, wl_65, wl_90, wl_97, wl_99, wl_100, wl_121, wl_122, wl_140, wl_142, wl_143, wl_145, wl_147, wl_160, wl_161, wl_162, wl_242, wl_380, wl_400, wl_420, wl_820, wl_1340, wl_5480, wl_9999, true_and, and_true, true_or, or_true, if_true, if_false, and_self, or_self, false_and, and_false, false_or, or_false, not_true_eq_false, not_false_eq_true, Int.reduceEq, Int.reduceLT, Int.reduceLE, Int.reduceToNat, Int.reduceAdd, Int.reduceMul, Int.reduceSub, Int.reduceMod, Int.reduceDiv, Int.reduceNeg, Nat.reduceEqDiff, sm_rd_ok, sm_rd_ok2, sm_wt_ok, sm_cp_ok, Option.isSome_some, Option.getD_some, w_cont, Option.toList_some, Option.toList_none, List.cons_append, List.nil_append, kk_80 H, nm, hM3, m1]
          rw [b170_160]
          simp (disch := omega) only [wr_id, wr_b2i, wr_wr, b2i_eq0, b2i_eq1, b2i_01, sm_rem_eq, sm_div_eq, wl_m2, wl_m1, wl_0, wl_1, wl_2, wl_3, wl_4, wl_5, wl_6, wl_7, wl_8, wl_9, wl_10, wl_12, wl_13, wl_14, wl_16, wl_20, wl_21, wl_22, wl_23, wl_32, wl_36, wl_40, wl_41, wl_42, wl_43, wl_44, wl_45, wl_46, wl_47, wl_48, wl_57, wl_59, wl_60, wl_61, wl_62, wl_65, wl_90, wl_97, wl_99, wl_100, wl_121, wl_122, wl_140, wl_142, wl_143, wl_145, wl_147, wl_160, wl_161, wl_162, wl_242, wl_380, wl_400, wl_420, wl_820, wl_1340, wl_5480, wl_9999, true_and, and_true, true_or, or_true, if_true, if_false, and_self, or_self, false_and, and_false, false_or, or_false, not_true_eq_false, not_false_eq_true, Int.reduceEq, Int.reduceLT, Int.reduceLE, Int.reduceToNat, Int.reduceAdd, Int.reduceMul, Int.reduceSub, Int.reduceMod, Int.reduceDiv, Int.reduceNeg, Nat.reduceEqDiff, sm_rd_ok, sm_rd_ok2, sm_wt_ok, sm_cp_ok, Option.isSome_some, Option.getD_some, w_cont, Option.toList_some, Option.toList_none, List.cons_append, List.nil_append]
      obtain ⟨l8', hd⟩ := hd
      have hhb := hdM_bd (M := M) (x := x) (y := y) (h := h) (t := tn)
      generalize hg : hdM M x y h tn = h' at hd hhb
      have bx : -1 ≤ dX h' ∧ dX h' ≤ 1 := by unfold dX; repeat' split
                                             all_goals omega
      have b_y : -1 ≤ dY h' ∧ dY h' ≤ 1 := by unfold dY; repeat' split
                                              all_goals omega
      have hne := yF_ne (w := M 0) (h := M 1) (x := x) (y := y) (k := h') hhb hp
      have hd2 : ∀ Q, sm_wp (d + 5) 170 126 [some (.inr (some 79)), some (.inl (s : Int)), some (.inl (1855 + 5 * (s : Int))), some (.inl x), some (.inl y), some (.inl h), some (.inl (st : Int)), some (.inl 1), some (.inl tn), l9, l10] [] (Z3, Rf, K, n, z) Q = if yF (M 0) (M 1) x y h' = -1 then sm_wp (d + 5) 170 191 [some (.inr (some 79)), some (.inl (s : Int)), some (.inl (1855 + 5 * (s : Int))), some (.inl x), some (.inl y), some (.inl h'), some (.inl (st : Int)), some (.inl 1), l8', l9, l10] [] (Z3, Rf, K, n, z) Q else sm_wp (d + 5) 170 194 [some (.inr (some 79)), some (.inl (s : Int)), some (.inl (1855 + 5 * (s : Int))), some (.inl x), some (.inl y), some (.inl h'), some (.inl (st : Int)), some (.inl 1), l8', l9, l10] [] (Z3, Rf, K, n, z) Q := by
        intro Q
        rw [hd Q, m_aheadX ⟨by omega, by omega⟩, w_cont]
        simp only [wr_id, wr_b2i, wr_wr, b2i_eq0, b2i_eq1, b2i_01, sm_rem_eq, sm_div_eq, wl_m2, wl_m1, wl_0, wl_1, wl_2, wl_3, wl_4, wl_5, wl_6, wl_7, wl_8, wl_9, wl_10, wl_12, wl_13, wl_14, wl_16, wl_20, wl_21, wl_22, wl_23, wl_32, wl_36, wl_40, wl_41, wl_42, wl_43, wl_44, wl_45, wl_46, wl_47, wl_48, wl_57, wl_59, wl_60, wl_61, wl_62, wl_65, wl_90, wl_97, wl_99, wl_100, wl_121, wl_122, wl_140, wl_142, wl_143, wl_145, wl_147, wl_160, wl_161, wl_162, wl_242, wl_380, wl_400, wl_420, wl_820, wl_1340, wl_5480, wl_9999, true_and, and_true, true_or, or_true, if_true, if_false, and_self, or_self, false_and, and_false, false_or, or_false, not_true_eq_false, not_false_eq_true, Int.reduceEq, Int.reduceLT, Int.reduceLE, Int.reduceToNat, Int.reduceAdd, Int.reduceMul, Int.reduceSub, Int.reduceMod, Int.reduceDiv, Int.reduceNeg, Nat.reduceEqDiff, sm_rd_ok, sm_rd_ok2, sm_wt_ok, sm_cp_ok, Option.isSome_some, Option.getD_some, w_cont, Option.toList_some, Option.toList_none, List.cons_append, List.nil_append]
        rw [b170_176, m_aheadY ⟨by omega, by omega⟩, w_cont]
        simp only [wr_id, wr_b2i, wr_wr, b2i_eq0, b2i_eq1, b2i_01, sm_rem_eq, sm_div_eq, wl_m2, wl_m1, wl_0, wl_1, wl_2, wl_3, wl_4, wl_5, wl_6, wl_7, wl_8, wl_9, wl_10, wl_12, wl_13, wl_14, wl_16, wl_20, wl_21, wl_22, wl_23, wl_32, wl_36, wl_40, wl_41, wl_42, wl_43, wl_44, wl_45, wl_46, wl_47, wl_48, wl_57, wl_59, wl_60, wl_61, wl_62, wl_65, wl_90, wl_97, wl_99, wl_100, wl_121, wl_122, wl_140, wl_142, wl_143, wl_145, wl_147, wl_160, wl_161, wl_162, wl_242, wl_380, wl_400, wl_420, wl_820, wl_1340, wl_5480, wl_9999, true_and, and_true, true_or, or_true, if_true, if_false, and_self, or_self, false_and, and_false, false_or, or_false, not_true_eq_false, not_false_eq_true, Int.reduceEq, Int.reduceLT, Int.reduceLE, Int.reduceToNat, Int.reduceAdd, Int.reduceMul, Int.reduceSub, Int.reduceMod, Int.reduceDiv, Int.reduceNeg, Nat.reduceEqDiff, sm_rd_ok, sm_rd_ok2, sm_wt_ok, sm_cp_ok, Option.isSome_some, Option.getD_some, w_cont, Option.toList_some, Option.toList_none, List.cons_append, List.nil_append]
        have hszM3 : szM Z3 := by unfold szM; rw [hM3]; exact hsz
        rw [b170_184, kk_79 H, m_isPoint H hszM3 ⟨by omega, by omega⟩ ⟨by omega, by omega⟩, w_cont, hM3]
        simp only [wr_id, wr_b2i, wr_wr, b2i_eq0, b2i_eq1, b2i_01, sm_rem_eq, sm_div_eq, wl_m2, wl_m1, wl_0, wl_1, wl_2, wl_3, wl_4, wl_5, wl_6, wl_7, wl_8, wl_9, wl_10, wl_12, wl_13, wl_14, wl_16, wl_20, wl_21, wl_22, wl_23, wl_32, wl_36, wl_40, wl_41, wl_42, wl_43, wl_44, wl_45, wl_46, wl_47, wl_48, wl_57, wl_59, wl_60, wl_61, wl_62, wl_65, wl_90, wl_97, wl_99, wl_100, wl_121, wl_122, wl_140, wl_142, wl_143, wl_145, wl_147, wl_160, wl_161, wl_162, wl_242, wl_380, wl_400, wl_420, wl_820, wl_1340, wl_5480, wl_9999, true_and, and_true, true_or, or_true, if_true, if_false, and_self, or_self, false_and, and_false, false_or, or_false, not_true_eq_false, not_false_eq_true, Int.reduceEq, Int.reduceLT, Int.reduceLE, Int.reduceToNat, Int.reduceAdd, Int.reduceMul, Int.reduceSub, Int.reduceMod, Int.reduceDiv, Int.reduceNeg, Nat.reduceEqDiff, sm_rd_ok, sm_rd_ok2, sm_wt_ok, sm_cp_ok, Option.isSome_some, Option.getD_some, w_cont, Option.toList_some, Option.toList_none, List.cons_append, List.nil_append]
        rw [b170_188]
        simp only [wr_id, wr_b2i, wr_wr, b2i_eq0, b2i_eq1, b2i_01, sm_rem_eq, sm_div_eq, wl_m2, wl_m1, wl_0, wl_1, wl_2, wl_3, wl_4, wl_5, wl_6, wl_7, wl_8, wl_9, wl_10, wl_12, wl_13, wl_14, wl_16, wl_20, wl_21, wl_22, wl_23, wl_32, wl_36, wl_40, wl_41, wl_42, wl_43, wl_44, wl_45, wl_46, wl_47, wl_48, wl_57, wl_59, wl_60, wl_61, wl_62, wl_65, wl_90, wl_97, wl_99, wl_100, wl_121, wl_122, wl_140, wl_142, wl_143, wl_145, wl_147, wl_160, wl_161, wl_162, wl_242, wl_380, wl_400, wl_420, wl_820, wl_1340, wl_5480, wl_9999, true_and, and_true, true_or, or_true, if_true, if_false, and_self, or_self, false_and, and_false, false_or, or_false, not_true_eq_false, not_false_eq_true, Int.reduceEq, Int.reduceLT, Int.reduceLE, Int.reduceToNat, Int.reduceAdd, Int.reduceMul, Int.reduceSub, Int.reduceMod, Int.reduceDiv, Int.reduceNeg, Nat.reduceEqDiff, sm_rd_ok, sm_rd_ok2, sm_wt_ok, sm_cp_ok, Option.isSome_some, Option.getD_some, w_cont, Option.toList_some, Option.toList_none, List.cons_append, List.nil_append]
        by_cases h1 : yF (M 0) (M 1) x y h' = -1
        · rw [if_pos h1, if_pos (Bool.eq_false_iff.2 (hne.1 h1))]
        · rw [if_neg h1, if_neg (by intro h; exact h1 (hne.2 (by rw [h]; decide)))]
      by_cases hy1 : yF (M 0) (M 1) x y h' = -1
      · rw [if_pos hy1]
        refine ⟨sm_u (sm_u (sm_u (sm_u Z3 89 s x) 90 s y) 91 s (st : Int)) 92 s h', ?_, fun Q => ?_⟩
        · refine ⟨?_, ?_, ?_, ?_, ?_, ?_⟩
          · rw [sm_u_row (by decide), sm_u_row (by decide), sm_u_row (by decide), sm_u_row (by decide), hM3]
          · rw [sm_u_row (by decide), sm_u_row (by decide), sm_u_row (by decide), sm_u_mU, r3 89 (by decide) (by decide)]
          · rw [sm_u_row (by decide), sm_u_row (by decide), sm_u_mU, sm_u_row (by decide), r3 90 (by decide) (by decide)]
          · rw [sm_u_mU, sm_u_row (by decide), sm_u_row (by decide), sm_u_row (by decide), r3 92 (by decide) (by decide)]
          · rw [sm_u_row (by decide), sm_u_mU, sm_u_row (by decide), sm_u_row (by decide), r3 91 (by decide) (by decide)]
          · intro a h1 h2 h3 h4 h5 h6 h7
            rw [sm_u_row h7, sm_u_row h6, sm_u_row h5, sm_u_row h4, r3 a h2 h3]
        · rw [head, if_neg h4, hd2 Q, if_pos hy1, b170_191, b170_313, kk_79 H, rr_79_24 H, rr_79_25 H, rr_79_26 H, rr_79_27 H]
          simp (disch := omega) only [wr_id, wr_b2i, wr_wr, b2i_eq0, b2i_eq1, b2i_01, sm_rem_eq, sm_div_eq, wl_m2, wl_m1, wl_0, wl_1, wl_2, wl_3, wl_4, wl_5, wl_6, wl_7, wl_8, wl_9, wl_10, wl_12, wl_13, wl_14, wl_16, wl_20, wl_21, wl_22, wl_23, wl_32, wl_36, wl_40, wl_41, wl_42, wl_43, wl_44, wl_45, wl_46, wl_47, wl_48, wl_57, wl_59, wl_60, wl_61, wl_62, wl_65, wl_90, wl_97, wl_99, wl_100, wl_121, wl_122, wl_140, wl_142, wl_143, wl_145, wl_147, wl_160, wl_161, wl_162, wl_242, wl_380, wl_400, wl_420, wl_820, wl_1340, wl_5480, wl_9999, true_and, and_true, true_or, or_true, if_true, if_false, and_self, or_self, false_and, and_false, false_or, or_false, not_true_eq_false, not_false_eq_true, Int.reduceEq, Int.reduceLT, Int.reduceLE, Int.reduceToNat, Int.reduceAdd, Int.reduceMul, Int.reduceSub, Int.reduceMod, Int.reduceDiv, Int.reduceNeg, Nat.reduceEqDiff, sm_rd_ok, sm_rd_ok2, sm_wt_ok, sm_cp_ok, Option.isSome_some, Option.getD_some, w_cont, Option.toList_some, Option.toList_none, List.cons_append, List.nil_append, kk_89 H, kk_90 H, kk_91 H, kk_92 H, Int.toNat_natCast]
      · rw [if_neg hy1]
        obtain ⟨n1, n2⟩ := yF_nat x y h' hsz.1.2 hsz.2.2 hy1
        have hyd := yF_yd hy1
        obtain ⟨_, _, hp2⟩ := yF_nn hy1
        have hp2' := hp2
        simp only [isP, decide_eq_true_eq] at hp2'
        have hbt := hi.2.1 _ n1
        have hi4 := invF_thS (s := (s : Int)) (st := (st : Int)) hi n1 (by omega) (by omega)
        have ag4 : agT M (thS M (yF (M 0) (M 1) x y h').toNat (s : Int) (st : Int)) := agT_thS n1
        obtain ⟨hi5, ag5⟩ := invF_stS (th := th) (s := (s : Int)) (st := (st : Int)) hi hy1 (by omega) (by omega)
        let Z4 := sm_r Z3 80 (thS M (yF (M 0) (M 1) x y h').toNat (s : Int) (st : Int))
        let Z5 := sm_r Z3 80 (stS M th (s : Int) x y h' (st : Int))
        have hM4 : Z4 80 = thS M (yF (M 0) (M 1) x y h').toNat (s : Int) (st : Int) := sm_r_same
        have hM5 : Z5 80 = stS M th (s : Int) x y h' (st : Int) := sm_r_same
        have r5 : ∀ a, a ≠ 80 → a ≠ 87 → a ≠ 88 → Z5 a = Z a := fun a h1 h2 h3 => by
          show sm_r Z3 80 _ a = _
          rw [sm_r_row h1, r3 a h2 h3]
        have z0 := ag4 0 (by omega) (by omega) (by omega)
        have z1 := ag4 1 (by omega) (by omega) (by omega)
        have y0 := ag5 0 (by omega) (by omega) (by omega)
        have y1 := ag5 1 (by omega) (by omega) (by omega)
        have hcs : catS (fun c => stS M th (s : Int) x y h' (st : Int) (320 + c)) (M 0) (M 1) (x + dX h') (y + dY h') = catS (fun c => M (320 + c)) (M 0) (M 1) (x + dX h') (y + dY h') := by
          exact catS_congr hsz.1.2 hsz.2.2 (fun c hc => ag5 _ (by omega) (by omega) (by omega)) _ _
        have mid : ∃ l9' l10', ∀ Q, sm_wp (d + 5) 170 194 [some (.inr (some 79)), some (.inl (s : Int)), some (.inl (1855 + 5 * (s : Int))), some (.inl x), some (.inl y), some (.inl h'), some (.inl (st : Int)), some (.inl 1), l8', l9, l10] [] (Z3, Rf, K, n, z) Q = if catS (fun c => M (320 + c)) (M 0) (M 1) (x + dX h') (y + dY h') = false then sm_wp (d + 5) 170 41 [some (.inr (some 79)), some (.inl (s : Int)), some (.inl (1855 + 5 * (s : Int))), some (.inl (x + dX h')), some (.inl (y + dY h')), some (.inl h'), some (.inl ((st : Int) + 1)), some (.inl 1), l8', l9', l10'] [] (Z5, Rf, K, n, z) Q else sm_wp (d + 5) 170 41 [some (.inr (some 79)), some (.inl (s : Int)), some (.inl (1855 + 5 * (s : Int))), some (.inl (x + dX h')), some (.inl (y + dY h')), some (.inl h'), some (.inl ((st : Int) + 1)), some (.inl 0), l8', l9', l10'] [] (Z5, Rf, K, n, z) Q := by
          refine ⟨some (.inl (yF (M 0) (M 1) x y h')), some (.inl (otS (fun k => thS M (yF (M 0) (M 1) x y h').toNat (s : Int) (st : Int) (850 + k)) (M 0) (M 1) (x + dX h') (y + dY h') (s : Int))), fun Q => ?_⟩
          have thr : sm_wp (d + 5) 170 194 [some (.inr (some 79)), some (.inl (s : Int)), some (.inl (1855 + 5 * (s : Int))), some (.inl x), some (.inl y), some (.inl h'), some (.inl (st : Int)), some (.inl 1), l8', l9, l10] [] (Z3, Rf, K, n, z) Q = sm_wp (d + 5) 170 244 [some (.inr (some 79)), some (.inl (s : Int)), some (.inl (1855 + 5 * (s : Int))), some (.inl x), some (.inl y), some (.inl h'), some (.inl (st : Int)), some (.inl 1), l8', some (.inl (yF (M 0) (M 1) x y h')), l10] [] (Z4, Rf, K, n, z) Q := by
            have m1 : (850 + yF (M 0) (M 1) x y h').toNat = 850 + (yF (M 0) (M 1) x y h').toNat := by omega
            have m2 : (1092 + yF (M 0) (M 1) x y h').toNat = 1092 + (yF (M 0) (M 1) x y h').toNat := by omega
            rw [b170_194, m_yardBy hhb, w_cont, ← hyd]
            simp only [wr_id, wr_b2i, wr_wr, b2i_eq0, b2i_eq1, b2i_01, sm_rem_eq, sm_div_eq, wl_m2, wl_m1, wl_0, wl_1, wl_2, wl_3, wl_4, wl_5, wl_6, wl_7, wl_8, wl_9, wl_10, wl_12, wl_13, wl_14, wl_16, wl_20, wl_21, wl_22, wl_23, wl_32, wl_36, wl_40, wl_41, wl_42, wl_43, wl_44, wl_45, wl_46, wl_47, wl_48, wl_57, wl_59, wl_60, wl_61, wl_62, wl_65, wl_90, wl_97, wl_99, wl_100, wl_121, wl_122, wl_140, wl_142, wl_143, wl_145, wl_147, wl_160, wl_161, wl_162, wl_242, wl_380, wl_400, wl_420, wl_820, wl_1340, wl_5480, wl_9999, true_and, and_true, true_or, or_true, if_true, if_false, and_self, or_self, false_and, and_false, false_or, or_false, not_true_eq_false, not_false_eq_true, Int.reduceEq, Int.reduceLT, Int.reduceLE, Int.reduceToNat, Int.reduceAdd, Int.reduceMul, Int.reduceSub, Int.reduceMod, Int.reduceDiv, Int.reduceNeg, Nat.reduceEqDiff, sm_rd_ok, sm_rd_ok2, sm_wt_ok, sm_cp_ok, Option.isSome_some, Option.getD_some, w_cont, Option.toList_some, Option.toList_none, List.cons_append, List.nil_append]
            rw [b170_202, kk_79 H, rr_79_0 H]
            simp (disch := omega) only [wr_id, wr_b2i, wr_wr, b2i_eq0, b2i_eq1, b2i_01, sm_rem_eq, sm_div_eq, wl_m2, wl_m1, wl_0, wl_1, wl_2, wl_3, wl_4, wl_5, wl_6, wl_7, wl_8, wl_9, wl_10, wl_12, wl_13, wl_14, wl_16, wl_20, wl_21, wl_22, wl_23, wl_32, wl_36, wl_40, wl_41, wl_42, wl_43, wl_44, wl_45, wl_46, wl_47, wl_48, wl_57, wl_59, wl_60, wl_61, wl_62, wl_65, wl_90, wl_97, wl_99, wl_100, wl_121, wl_122, wl_140, wl_142, wl_143, wl_145, wl_147, wl_160, wl_161, wl_162, wl_242, wl_380, wl_400, wl_420, wl_820, wl_1340, wl_5480, wl_9999, true_and, and_true, true_or, or_true, if_true, if_false, and_self, or_self, false_and, and_false, false_or, or_false, not_true_eq_false, not_false_eq_true, Int.reduceEq, Int.reduceLT, Int.reduceLE, Int.reduceToNat, Int.reduceAdd, Int.reduceMul, Int.reduceSub, Int.reduceMod, Int.reduceDiv, Int.reduceNeg, Nat.reduceEqDiff, sm_rd_ok, sm_rd_ok2, sm_wt_ok, sm_cp_ok, Option.isSome_some, Option.getD_some, w_cont, Option.toList_some, Option.toList_none, List.cons_append, List.nil_append, kk_80 H, m1, hM3]
            by_cases hc : M (850 + (yF (M 0) (M 1) x y h').toNat) = -1
            · rw [if_pos hc, b170_219, kk_79 H, rr_79_0 H]
              simp (disch := omega) only [wr_id, wr_b2i, wr_wr, b2i_eq0, b2i_eq1, b2i_01, sm_rem_eq, sm_div_eq, wl_m2, wl_m1, wl_0, wl_1, wl_2, wl_3, wl_4, wl_5, wl_6, wl_7, wl_8, wl_9, wl_10, wl_12, wl_13, wl_14, wl_16, wl_20, wl_21, wl_22, wl_23, wl_32, wl_36, wl_40, wl_41, wl_42, wl_43, wl_44, wl_45, wl_46, wl_47, wl_48, wl_57, wl_59, wl_60, wl_61, wl_62, wl_65, wl_90, wl_97, wl_99, wl_100, wl_121, wl_122, wl_140, wl_142, wl_143, wl_145, wl_147, wl_160, wl_161, wl_162, wl_242, wl_380, wl_400, wl_420, wl_820, wl_1340, wl_5480, wl_9999, true_and, and_true, true_or, or_true, if_true, if_false, and_self, or_self, false_and, and_false, false_or, or_false, not_true_eq_false, not_false_eq_true, Int.reduceEq, Int.reduceLT, Int.reduceLE, Int.reduceToNat, Int.reduceAdd, Int.reduceMul, Int.reduceSub, Int.reduceMod, Int.reduceDiv, Int.reduceNeg, Nat.reduceEqDiff, sm_rd_ok, sm_rd_ok2, sm_wt_ok, sm_cp_ok, Option.isSome_some, Option.getD_some, w_cont, Option.toList_some, Option.toList_none, List.cons_append, List.nil_append, kk_80 H, m1, m2]
              have : sm_u (sm_u Z3 80 (850 + (yF (M 0) (M 1) x y h').toNat) (s : Int)) 80 (1092 + (yF (M 0) (M 1) x y h').toNat) (st : Int) = Z4 := by
                funext a j
                show _ = sm_r Z3 80 _ a j
                unfold thS sm_r sm_u mU
                rw [if_pos hc]
                by_cases ha : a = 80
                · subst ha; simp [hM3]
                · simp [ha]
              rw [this]
            · rw [if_neg hc]
              have : Z3 = Z4 := by
                funext a j
                show _ = sm_r Z3 80 _ a j
                unfold thS sm_r
                rw [if_neg hc]
                by_cases ha : a = 80
                · subst ha; simp [hM3]
                · simp [ha]
              rw [← this]
          rw [thr, b170_244, m_aheadX ⟨by omega, by omega⟩, w_cont]
          simp only [wr_id, wr_b2i, wr_wr, b2i_eq0, b2i_eq1, b2i_01, sm_rem_eq, sm_div_eq, wl_m2, wl_m1, wl_0, wl_1, wl_2, wl_3, wl_4, wl_5, wl_6, wl_7, wl_8, wl_9, wl_10, wl_12, wl_13, wl_14, wl_16, wl_20, wl_21, wl_22, wl_23, wl_32, wl_36, wl_40, wl_41, wl_42, wl_43, wl_44, wl_45, wl_46, wl_47, wl_48, wl_57, wl_59, wl_60, wl_61, wl_62, wl_65, wl_90, wl_97, wl_99, wl_100, wl_121, wl_122, wl_140, wl_142, wl_143, wl_145, wl_147, wl_160, wl_161, wl_162, wl_242, wl_380, wl_400, wl_420, wl_820, wl_1340, wl_5480, wl_9999, true_and, and_true, true_or, or_true, if_true, if_false, and_self, or_self, false_and, and_false, false_or, or_false, not_true_eq_false, not_false_eq_true, Int.reduceEq, Int.reduceLT, Int.reduceLE, Int.reduceToNat, Int.reduceAdd, Int.reduceMul, Int.reduceSub, Int.reduceMod, Int.reduceDiv, Int.reduceNeg, Nat.reduceEqDiff, sm_rd_ok, sm_rd_ok2, sm_wt_ok, sm_cp_ok, Option.isSome_some, Option.getD_some, w_cont, Option.toList_some, Option.toList_none, List.cons_append, List.nil_append]
          rw [b170_250, m_aheadY ⟨by omega, by omega⟩, w_cont]
          simp only [wr_id, wr_b2i, wr_wr, b2i_eq0, b2i_eq1, b2i_01, sm_rem_eq, sm_div_eq, wl_m2, wl_m1, wl_0, wl_1, wl_2, wl_3, wl_4, wl_5, wl_6, wl_7, wl_8, wl_9, wl_10, wl_12, wl_13, wl_14, wl_16, wl_20, wl_21, wl_22, wl_23, wl_32, wl_36, wl_40, wl_41, wl_42, wl_43, wl_44, wl_45, wl_46, wl_47, wl_48, wl_57, wl_59, wl_60, wl_61, wl_62, wl_65, wl_90, wl_97, wl_99, wl_100, wl_121, wl_122, wl_140, wl_142, wl_143, wl_145, wl_147, wl_160, wl_161, wl_162, wl_242, wl_380, wl_400, wl_420, wl_820, wl_1340, wl_5480, wl_9999, true_and, and_true, true_or, or_true, if_true, if_false, and_self, or_self, false_and, and_false, false_or, or_false, not_true_eq_false, not_false_eq_true, Int.reduceEq, Int.reduceLT, Int.reduceLE, Int.reduceToNat, Int.reduceAdd, Int.reduceMul, Int.reduceSub, Int.reduceMod, Int.reduceDiv, Int.reduceNeg, Nat.reduceEqDiff, sm_rd_ok, sm_rd_ok2, sm_wt_ok, sm_cp_ok, Option.isSome_some, Option.getD_some, w_cont, Option.toList_some, Option.toList_none, List.cons_append, List.nil_append]
          rw [b170_259, kk_79 H, m_other H hM4 hi4 (by rw [z0, z1]; exact hp2) (by omega), w_cont, z0, z1]
          simp only [wr_id, wr_b2i, wr_wr, b2i_eq0, b2i_eq1, b2i_01, sm_rem_eq, sm_div_eq, wl_m2, wl_m1, wl_0, wl_1, wl_2, wl_3, wl_4, wl_5, wl_6, wl_7, wl_8, wl_9, wl_10, wl_12, wl_13, wl_14, wl_16, wl_20, wl_21, wl_22, wl_23, wl_32, wl_36, wl_40, wl_41, wl_42, wl_43, wl_44, wl_45, wl_46, wl_47, wl_48, wl_57, wl_59, wl_60, wl_61, wl_62, wl_65, wl_90, wl_97, wl_99, wl_100, wl_121, wl_122, wl_140, wl_142, wl_143, wl_145, wl_147, wl_160, wl_161, wl_162, wl_242, wl_380, wl_400, wl_420, wl_820, wl_1340, wl_5480, wl_9999, true_and, and_true, true_or, or_true, if_true, if_false, and_self, or_self, false_and, and_false, false_or, or_false, not_true_eq_false, not_false_eq_true, Int.reduceEq, Int.reduceLT, Int.reduceLE, Int.reduceToNat, Int.reduceAdd, Int.reduceMul, Int.reduceSub, Int.reduceMod, Int.reduceDiv, Int.reduceNeg, Nat.reduceEqDiff, sm_rd_ok, sm_rd_ok2, sm_wt_ok, sm_cp_ok, Option.isSome_some, Option.getD_some, w_cont, Option.toList_some, Option.toList_none, List.cons_append, List.nil_append]
          have hob : -1 ≤ otS (fun k => thS M (yF (M 0) (M 1) x y h').toNat (s : Int) (st : Int) (850 + k)) (M 0) (M 1) (x + dX h') (y + dY h') (s : Int) ∧ otS (fun k => thS M (yF (M 0) (M 1) x y h').toNat (s : Int) (st : Int) (850 + k)) (M 0) (M 1) (x + dX h') (y + dY h') (s : Int) ≤ 7 := by
            have hb := fun (k best : Int) (h : -1 ≤ best ∧ best ≤ 7) => otN_bd (T := fun k => thS M (yF (M 0) (M 1) x y h').toNat (s : Int) (st : Int) (850 + k)) (w := M 0) (h := M 1) (x := x + dX h') (y := y + dY h') (s := (s : Int)) (k := k) hi4.2.1 hsz.1.2 hsz.2.2 h
            exact hb 3 _ (hb 2 _ (hb 1 _ (hb 0 _ (by omega))))
          have sue : sm_wp (d + 5) 170 270 [some (.inr (some 79)), some (.inl (s : Int)), some (.inl (1855 + 5 * (s : Int))), some (.inl (x + dX h')), some (.inl (y + dY h')), some (.inl h'), some (.inl (st : Int)), some (.inl 1), l8', some (.inl (yF (M 0) (M 1) x y h')), l10] [.inl (otS (fun k => thS M (yF (M 0) (M 1) x y h').toNat (s : Int) (st : Int) (850 + k)) (M 0) (M 1) (x + dX h') (y + dY h') (s : Int))] (Z4, Rf, K, n, z) Q = sm_wp (d + 5) 170 290 [some (.inr (some 79)), some (.inl (s : Int)), some (.inl (1855 + 5 * (s : Int))), some (.inl (x + dX h')), some (.inl (y + dY h')), some (.inl h'), some (.inl (st : Int)), some (.inl 1), l8', some (.inl (yF (M 0) (M 1) x y h')), some (.inl (otS (fun k => thS M (yF (M 0) (M 1) x y h').toNat (s : Int) (st : Int) (850 + k)) (M 0) (M 1) (x + dX h') (y + dY h') (s : Int)))] [] (Z5, Rf, K, n, z) Q := by
            rw [b170_270, wr_id (by omega) (by omega)]
            by_cases ho : otS (fun k => thS M (yF (M 0) (M 1) x y h').toNat (s : Int) (st : Int) (850 + k)) (M 0) (M 1) (x + dX h') (y + dY h') (s : Int) = -1
            · rw [if_pos ho]
              have : Z4 = Z5 := by
                show sm_r Z3 80 _ = sm_r Z3 80 _
                unfold stS
                rw [if_pos ho]
              rw [this]
            · rw [if_neg ho, b170_278, kk_79 H, m_sues H hM4 hi4.2.2.2.1 th (by show sm_r Z3 80 _ 79 6 = _; rw [sm_r_row (by decide), r3 79 (by decide) (by decide)]; exact hth), w_cont]
              simp only [wr_id, wr_b2i, wr_wr, b2i_eq0, b2i_eq1, b2i_01, sm_rem_eq, sm_div_eq, wl_m2, wl_m1, wl_0, wl_1, wl_2, wl_3, wl_4, wl_5, wl_6, wl_7, wl_8, wl_9, wl_10, wl_12, wl_13, wl_14, wl_16, wl_20, wl_21, wl_22, wl_23, wl_32, wl_36, wl_40, wl_41, wl_42, wl_43, wl_44, wl_45, wl_46, wl_47, wl_48, wl_57, wl_59, wl_60, wl_61, wl_62, wl_65, wl_90, wl_97, wl_99, wl_100, wl_121, wl_122, wl_140, wl_142, wl_143, wl_145, wl_147, wl_160, wl_161, wl_162, wl_242, wl_380, wl_400, wl_420, wl_820, wl_1340, wl_5480, wl_9999, true_and, and_true, true_or, or_true, if_true, if_false, and_self, or_self, false_and, and_false, false_or, or_false, not_true_eq_false, not_false_eq_true, Int.reduceEq, Int.reduceLT, Int.reduceLE, Int.reduceToNat, Int.reduceAdd, Int.reduceMul, Int.reduceSub, Int.reduceMod, Int.reduceDiv, Int.reduceNeg, Nat.reduceEqDiff, sm_rd_ok, sm_rd_ok2, sm_wt_ok, sm_cp_ok, Option.isSome_some, Option.getD_some, w_cont, Option.toList_some, Option.toList_none, List.cons_append, List.nil_append]
              have : sm_r Z4 80 (suS (thS M (yF (M 0) (M 1) x y h').toNat (s : Int) (st : Int)) th (s : Int) (otS (fun k => thS M (yF (M 0) (M 1) x y h').toNat (s : Int) (st : Int) (850 + k)) (M 0) (M 1) (x + dX h') (y + dY h') (s : Int)) (x + dX h') (y + dY h') (st : Int)) = Z5 := by
                show sm_r (sm_r Z3 80 _) 80 _ = sm_r Z3 80 _
                unfold stS
                rw [if_neg ho]
                funext a j
                unfold sm_r
                by_cases ha : a = 80
                · simp [ha]
                · simp [ha]
              rw [this]
          rw [sue, b170_290, kk_79 H, m_hasCat H (by unfold szM; rw [hM5, y0, y1]; exact hsz) (by omega) (by omega) (fun c hc => by rw [hM5]; exact hi5.2.2.2.2.1 c hc), w_cont, hM5, y0, y1, hcs]
          simp only [wr_id, wr_b2i, wr_wr, b2i_eq0, b2i_eq1, b2i_01, sm_rem_eq, sm_div_eq, wl_m2, wl_m1, wl_0, wl_1, wl_2, wl_3, wl_4, wl_5, wl_6, wl_7, wl_8, wl_9, wl_10, wl_12, wl_13, wl_14, wl_16, wl_20, wl_21, wl_22, wl_23, wl_32, wl_36, wl_40, wl_41, wl_42, wl_43, wl_44, wl_45, wl_46, wl_47, wl_48, wl_57, wl_59, wl_60, wl_61, wl_62, wl_65, wl_90, wl_97, wl_99, wl_100, wl_121, wl_122, wl_140, wl_142, wl_143, wl_145, wl_147, wl_160, wl_161, wl_162, wl_242, wl_380, wl_400, wl_420, wl_820, wl_1340, wl_5480, wl_9999, true_and, and_true, true_or, or_true, if_true, if_false, and_self, or_self, false_and, and_false, false_or, or_false, not_true_eq_false, not_false_eq_true, Int.reduceEq, Int.reduceLT, Int.reduceLE, Int.reduceToNat, Int.reduceAdd, Int.reduceMul, Int.reduceSub, Int.reduceMod, Int.reduceDiv, Int.reduceNeg, Nat.reduceEqDiff, sm_rd_ok, sm_rd_ok2, sm_wt_ok, sm_cp_ok, Option.isSome_some, Option.getD_some, w_cont, Option.toList_some, Option.toList_none, List.cons_append, List.nil_append]
          rw [b170_300]
          simp only [wr_id, wr_b2i, wr_wr, b2i_eq0, b2i_eq1, b2i_01, sm_rem_eq, sm_div_eq, wl_m2, wl_m1, wl_0, wl_1, wl_2, wl_3, wl_4, wl_5, wl_6, wl_7, wl_8, wl_9, wl_10, wl_12, wl_13, wl_14, wl_16, wl_20, wl_21, wl_22, wl_23, wl_32, wl_36, wl_40, wl_41, wl_42, wl_43, wl_44, wl_45, wl_46, wl_47, wl_48, wl_57, wl_59, wl_60, wl_61, wl_62, wl_65, wl_90, wl_97, wl_99, wl_100, wl_121, wl_122, wl_140, wl_142, wl_143, wl_145, wl_147, wl_160, wl_161, wl_162, wl_242, wl_380, wl_400, wl_420, wl_820, wl_1340, wl_5480, wl_9999, true_and, and_true, true_or, or_true, if_true, if_false, and_self, or_self, false_and, and_false, false_or, or_false, not_true_eq_false, not_false_eq_true, Int.reduceEq, Int.reduceLT, Int.reduceLE, Int.reduceToNat, Int.reduceAdd, Int.reduceMul, Int.reduceSub, Int.reduceMod, Int.reduceDiv, Int.reduceNeg, Nat.reduceEqDiff, sm_rd_ok, sm_rd_ok2, sm_wt_ok, sm_cp_ok, Option.isSome_some, Option.getD_some, w_cont, Option.toList_some, Option.toList_none, List.cons_append, List.nil_append]
          by_cases hct : catS (fun c => M (320 + c)) (M 0) (M 1) (x + dX h') (y + dY h') = false
          · rw [if_pos hct, if_pos hct, b170_303, b170_308]
          · rw [if_neg hct, if_neg hct, b170_307, b170_308]
        obtain ⟨l9', l10', mid⟩ := mid
        by_cases hct : catS (fun c => M (320 + c)) (M 0) (M 1) (x + dX h') (y + dY h') = true
        · rw [if_pos hct]
          refine ⟨sm_u (sm_u (sm_u (sm_u Z5 89 s (x + dX h')) 90 s (y + dY h')) 91 s ((st : Int) + 1)) 92 s h', ?_, fun Q => ?_⟩
          · refine ⟨?_, ?_, ?_, ?_, ?_, ?_⟩
            · rw [sm_u_row (by decide), sm_u_row (by decide), sm_u_row (by decide), sm_u_row (by decide), hM5]
            · rw [sm_u_row (by decide), sm_u_row (by decide), sm_u_row (by decide), sm_u_mU, r5 89 (by decide) (by decide) (by decide)]
            · rw [sm_u_row (by decide), sm_u_row (by decide), sm_u_mU, sm_u_row (by decide), r5 90 (by decide) (by decide) (by decide)]
            · rw [sm_u_mU, sm_u_row (by decide), sm_u_row (by decide), sm_u_row (by decide), r5 92 (by decide) (by decide) (by decide)]
            · rw [sm_u_row (by decide), sm_u_mU, sm_u_row (by decide), sm_u_row (by decide), r5 91 (by decide) (by decide) (by decide)]
            · intro a h1 h2 h3 h4 h5 h6 h7
              rw [sm_u_row h7, sm_u_row h6, sm_u_row h5, sm_u_row h4, r5 a h1 h2 h3]
          · rw [head, if_neg h4, hd2 Q, if_neg hy1, mid Q, if_neg (by rw [hct]; decide), b170_41, wl_0, if_pos rfl, b170_313, kk_79 H, rr_79_24 H, rr_79_25 H, rr_79_26 H, rr_79_27 H]
            simp (disch := omega) only [wr_id, wr_b2i, wr_wr, b2i_eq0, b2i_eq1, b2i_01, sm_rem_eq, sm_div_eq, wl_m2, wl_m1, wl_0, wl_1, wl_2, wl_3, wl_4, wl_5, wl_6, wl_7, wl_8, wl_9, wl_10, wl_12, wl_13, wl_14, wl_16, wl_20, wl_21, wl_22, wl_23, wl_32, wl_36, wl_40, wl_41, wl_42, wl_43, wl_44, wl_45, wl_46, wl_47, wl_48, wl_57, wl_59, wl_60, wl_61, wl_62, wl_65, wl_90, wl_97, wl_99, wl_100, wl_121, wl_122, wl_140, wl_142, wl_143, wl_145, wl_147, wl_160, wl_161, wl_162, wl_242, wl_380, wl_400, wl_420, wl_820, wl_1340, wl_5480, wl_9999, true_and, and_true, true_or, or_true, if_true, if_false, and_self, or_self, false_and, and_false, false_or, or_false, not_true_eq_false, not_false_eq_true, Int.reduceEq, Int.reduceLT, Int.reduceLE, Int.reduceToNat, Int.reduceAdd, Int.reduceMul, Int.reduceSub, Int.reduceMod, Int.reduceDiv, Int.reduceNeg, Nat.reduceEqDiff, sm_rd_ok, sm_rd_ok2, sm_wt_ok, sm_cp_ok, Option.isSome_some, Option.getD_some, w_cont, Option.toList_some, Option.toList_none, List.cons_append, List.nil_append, kk_89 H, kk_90 H, kk_91 H, kk_92 H, Int.toNat_natCast]
        · rw [if_neg hct]
          have hct' : catS (fun c => M (320 + c)) (M 0) (M 1) (x + dX h') (y + dY h') = false := Bool.eq_false_iff.2 hct
          obtain ⟨Z', ⟨g1, g2, g3, g4, g5, g6⟩, g7⟩ := ih (st + 1) _ Z5 (x + dX h') (y + dY h') h' l8' l9' l10' (by omega) hM5 hi5 (by rw [r5 79 (by decide) (by decide) (by decide)]; exact hth) (by rw [ag5 _ (by omega) (by omega) (by omega)]; exact hlen) (by rw [ag5 _ (by omega) (by omega) (by omega)]; exact hkk) (by rw [y0, y1]; exact hp2) hhb
          rw [r5 89 (by decide) (by decide) (by decide)] at g2
          rw [r5 90 (by decide) (by decide) (by decide)] at g3
          rw [r5 92 (by decide) (by decide) (by decide)] at g4
          rw [r5 91 (by decide) (by decide) (by decide)] at g5
          refine ⟨Z', ⟨g1, g2, g3, g4, g5, fun a h1 h2 h3 h4 h5 h6 h7 => by rw [g6 a h1 h2 h3 h4 h5 h6 h7, r5 a h1 h2 h3]⟩, fun Q => ?_⟩
          rw [head, if_neg h4, hd2 Q, if_neg hy1, mid Q, if_pos hct', show (st : Int) + 1 = ((st + 1 : Nat) : Int) by omega, g7]
end FLIES
