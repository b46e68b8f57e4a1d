/-- what the model's row always is -/
def invD (M : Nat → Int) : Prop := invF M ∧ swS M ∧ (0 ≤ M 3 ∧ M 3 ≤ 9999) ∧ (∀ c, c < 100 → M (120 + c) = 0 ∨ M (120 + c) = 1) ∧ (∀ c, c < 100 → M (220 + c) = 0 ∨ M (220 + c) = 1) ∧ (∀ c, c < 100 → 0 ≤ M (420 + c) ∧ M (420 + c) ≤ 99) ∧ (∀ c, c < 100 → -1 ≤ M (520 + c) ∧ M (520 + c) < 100) ∧ ((0 ≤ M 5 ∧ M 5 ≤ 6) ∧ ∀ i : Nat, (i : Int) < M 5 → (0 ≤ M (1840 + 2 * i) ∧ M (1840 + 2 * i) ≤ 10) ∧ 0 ≤ M (1841 + 2 * i) ∧ M (1841 + 2 * i) ≤ 10) ∧ ((0 ≤ M 7 ∧ M 7 ≤ 6) ∧ ∀ i : Nat, (i : Int) < M 7 → isC (M 0) (M 1) (M (1900 + 3 * i)) = true ∧ (0 ≤ M (1901 + 3 * i) ∧ M (1901 + 3 * i) ≤ 99) ∧ 0 ≤ M (1902 + 3 * i) ∧ M (1902 + 3 * i) ≤ 10) ∧ ((0 ≤ M 8 ∧ M 8 ≤ 20) ∧ ∀ i : Nat, (i : Int) < M 8 → isC (M 0) (M 1) (M (1920 + 3 * i)) = true ∧ isC (M 0) (M 1) (M (1921 + 3 * i)) = true ∧ (M (1922 + 3 * i) = 0 ∨ M (1922 + 3 * i) = 1)) ∧ ∀ i : Nat, (i : Int) < M 6 → (0 ≤ M (1342 + 5 * i) ∧ M (1342 + 5 * i) ≤ 10) ∧ 0 ≤ M (1343 + 5 * i) ∧ M (1343 + 5 * i) ≤ 10
/-- the class's duchy (object b) as the model's row -/
def rD (Z : Nat → Nat → Int) (Rf : Nat → Nat → Option Nat) (K : Nat → Nat × Nat) (M : Nat → Int) (b : Nat) : Prop := (Z b 0 = M 0 ∧ Z b 1 = M 1 ∧ Z b 2 = M 2 ∧ Z b 3 = M 3) ∧ (∀ c, c < 100 → Z (b + 1) c = M (20 + c) ∧ Z (b + 2) c = M (420 + c) ∧ Z (b + 3) c = M (320 + c) ∧ Z (b + 4) c = M (120 + c) ∧ Z (b + 5) c = M (220 + c) ∧ (Z (b + 6) c = if M (220 + c) = 0 then 0 else M (620 + c)) ∧ (Z (b + 7) c = if M (220 + c) = 0 then -1 else M (520 + c))) ∧ (∀ k, k < 121 → Z (b + 8) k = M (720 + k)) ∧ (Z (b + 9) 2 = M 5 ∧ ∀ i : Nat, (i : Int) < M 5 → Z (b + 10) (5 * i) = M (1840 + 2 * i) ∧ Z (b + 10) (5 * i + 1) = M (1841 + 2 * i)) ∧ (Z (b + 11) 2 = M 4 ∧ ∀ s : Nat, (s : Int) < M 4 → ∀ c, c < 5 → Z (b + 12) (5 * s + c) = M (1855 + 5 * s + c)) ∧ (Z (b + 13) 2 = M 7 ∧ ∀ i : Nat, (i : Int) < M 7 → ∀ c, c < 3 → Z (b + 14) (5 * i + c) = M (1900 + 3 * i + c)) ∧ (Z (b + 15) 2 = M 8 ∧ ∀ i : Nat, (i : Int) < M 8 → ∀ c, c < 3 → Z (b + 16) (5 * i + c) = M (1920 + 3 * i + c)) ∧ rHb Z Rf K M (b + 17) ∧ rTh Z M (b + 20) false
/-- rows made once and never changed -/
def stI (Z : Nat → Nat → Int) : Prop := Z 10 0 = 6 ∧ Z 12 0 = 8 ∧ Z 14 0 = 6 ∧ Z 16 0 = 20 ∧ Z 24 0 = 99 ∧ Z 49 0 = 99 ∧ Z 59 0 = 8 ∧ Z 67 0 = 0
theorem rFx_of {Z : Nat → Nat → Int} {Rf : Nat → Nat → Option Nat} {K : Nat → Nat × Nat} {M : Nat → Int} (h : rD Z Rf K M 1) (h59 : Z 59 0 = 8) : rFx Z Rf K M := by
  obtain ⟨h1, h2, h3, h4, h5, h6, h7, h8, h9⟩ := h
  exact ⟨⟨h1.1, h1.2.1⟩, fun c hc => (h2 c hc).2.2.1, h3, h5.1, h5.2, h8, h59⟩
/-- suits lie in the land -/
def suI (M : Nat → Int) : Prop := ∀ i : Nat, (i : Int) < M 6 → (0 ≤ M (1342 + 5 * i) ∧ M (1342 + 5 * i) ≤ 10) ∧ 0 ≤ M (1343 + 5 * i) ∧ M (1343 + 5 * i) ≤ 10
theorem suI_thS {M : Nat → Int} {y : Nat} {s st : Int} (hy : y < 242) (h : suI M) : suI (thS M y s st) := by
  intro i hi
  rw [thS_hi hy (by omega)] at hi
  rw [thS_hi hy (by omega), thS_hi hy (by omega)]
  exact h i hi
theorem suI_suS {M : Nat → Int} {s o x y st : Int} (h6 : 0 ≤ M 6 ∧ M 6 ≤ 99) (hx : 0 ≤ x ∧ x ≤ 10) (hy : 0 ≤ y ∧ y ≤ 10) (h : suI M) : suI (suS M false s o x y st) := by
  intro i hi
  rw [suS_6] at hi
  unfold suS
  by_cases hf : M 6 = 99
  · rw [if_pos hf] at hi ⊢
    exact h i (by omega)
  · rw [if_neg hf] at hi ⊢
    simp only [mU, Bool.false_eq_true, if_false]
    by_cases hie : (i : Int) = M 6
    · rw [if_neg (by omega), if_neg (by omega), if_neg (by omega), if_pos (by omega), if_neg (by omega), if_neg (by omega), if_pos (by omega)]
      exact ⟨hx, hy⟩
    · rw [if_neg (by omega), if_neg (by omega), if_neg (by omega), if_neg (by omega), if_neg (by omega), if_neg (by omega), if_neg (by omega), if_neg (by omega), if_neg (by omega), if_neg (by omega), if_neg (by omega), if_neg (by omega)]
      exact h i (by omega)
theorem suI_stS {M : Nat → Int} {s x y h st : Int} (hi : invF M) (hy : ¬ yF (M 0) (M 1) x y h = -1) (hs : 0 ≤ s ∧ s ≤ 7) (hst : 0 ≤ st ∧ st ≤ 60) (hu : suI M) : suI (stS M false s x y h st) := by
  have hsz := hi.1
  unfold szN at hsz
  have hn := yF_nat x y h hsz.1.2 hsz.2.2 hy
  have h1 := invF_thS hi hn.1 hs hst
  obtain ⟨_, _, hp⟩ := yF_nn hy
  simp only [isP, decide_eq_true_eq] at hp
  have h2 := suI_thS (s := s) (st := st) hn.1 hu
  unfold stS
  split
  · exact h2
  · exact suI_suS h1.2.2.2.1 (by omega) (by omega) h2
theorem suI_flR {k : Nat} (hk : k < 4) {s len : Int} (hs : 0 ≤ s ∧ s ≤ 7) (hl : len ≤ 60) : ∀ (f : Nat) (M : Nat → Int) (x y h st : Int), invF M → isP (M 0) (M 1) x y = true → (0 ≤ h ∧ h ≤ 3) → 0 ≤ st → st + f ≤ len → suI M → suI (flR false k s len f M x y h st).1 := by
  intro f
  induction f with
  | zero => intro M x y h st hi _ _ _ _ hu; exact hu
  | succ f ih =>
    intro M x y h st hi hp hh hst hsl hu
    simp only [flR]
    split
    · exact hu
    · split
      · exact hu
      · rename_i h1 h2
        obtain ⟨hi5, ag5⟩ := invF_stS (th := false) (s := s) (st := st) hi h2 hs (by omega)
        have hu5 := suI_stS (s := s) (st := st) hi h2 hs (by omega) hu
        split
        · exact hu5
        · obtain ⟨_, _, hp2⟩ := yF_nn h2
          have y0 := ag5 0 (by omega) (by omega) (by omega)
          have y1 := ag5 1 (by omega) (by omega) (by omega)
          exact ih _ _ _ _ (st + 1) hi5 (by rw [y0, y1]; exact hp2) hdM_bd (by omega) (by omega) hu5
theorem suI_alR : ∀ (c s : Nat) (M : Nat → Int), invF M → swS M → ((s + c : Nat) : Int) ≤ M 4 → suI M → suI (alR false c s M) := by
  intro c
  induction c with
  | zero => intro s M _ _ _ hu; exact hu
  | succ c ih =>
    intro s M hi hw hs hu
    obtain ⟨a, b⟩ := flO_inv (th := false) (s := s) hi hw (by omega)
    obtain ⟨h1, h2, h3, h4⟩ := hw.2 s (by omega)
    have h8 := hw.1
    simp only [alR]
    have h4' := b 4 (by omega) (by omega) (by omega)
    refine ih (s + 1) _ a (swS_ag b hw) (by rw [h4']; omega) ?_
    unfold flO
    exact suI_flR (by omega) (by omega) (by omega) _ M _ _ _ 0 hi h1 h2 (by omega) (by omega) hu
theorem suI_allS {M : Nat → Int} (hi : invF M) (hw : swS M) : suI (allS false M) := by
  have h4 : clrS M 4 = M 4 := agT_clr M 4 (by omega) (by omega) (by omega)
  refine suI_alR (M 4).toNat 0 (clrS M) (invF_clr hi) (swS_ag (agT_clr M) hw) (by rw [h4]; have := hw.1; omega) ?_
  intro i hi
  have c6 : clrS M 6 = 0 := by unfold clrS; rw [if_pos rfl]
  rw [c6] at hi
  omega
/-- the same but for flies, moves, names, threads, suits, year, state -/
theorem invD_ag {M M' : Nat → Int} (hM : agT M M') (hi : invD M) (hf : invF M') (hu : suI M') : invD M' := by
  obtain ⟨i1, i2, i3, i4, i5, i6, i7, i8, i9, i10, i11⟩ := hi
  have e : ∀ j, j ≠ 6 → j < 850 → M' j = M j := fun j hj hj2 => hM j (by omega) hj (by omega)
  have e2 : ∀ j, 1840 ≤ j → M' j = M j := fun j hj => hM j (by omega) (by omega) (by omega)
  refine ⟨hf, swS_ag hM i2, ?_, fun c hc => ?_, fun c hc => ?_, fun c hc => ?_, fun c hc => ?_, ?_, ?_, ?_, hu⟩
  · rw [e 3 (by decide) (by decide)]; exact i3
  · rw [e _ (by omega) (by omega)]; exact i4 c hc
  · rw [e _ (by omega) (by omega)]; exact i5 c hc
  · rw [e _ (by omega) (by omega)]; exact i6 c hc
  · rw [e _ (by omega) (by omega)]; exact i7 c hc
  · rw [e 5 (by decide) (by decide)]
    refine ⟨i8.1, fun i hi => ?_⟩
    rw [e2 _ (by omega), e2 _ (by omega)]
    exact i8.2 i hi
  · rw [e 7 (by decide) (by decide), e 0 (by decide) (by decide), e 1 (by decide) (by decide)]
    refine ⟨i9.1, fun i hi => ?_⟩
    rw [e2 _ (by omega), e2 _ (by omega), e2 _ (by omega)]
    exact i9.2 i hi
  · rw [e 8 (by decide) (by decide), e 0 (by decide) (by decide), e 1 (by decide) (by decide)]
    refine ⟨i10.1, fun i hi => ?_⟩
    rw [e2 _ (by omega), e2 _ (by omega), e2 _ (by omega)]
    exact i10.2 i hi
