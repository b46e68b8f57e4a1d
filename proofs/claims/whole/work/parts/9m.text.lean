/-! A text told to both. -/
theorem wfL_nx {M M' : Nat → Int} {k k' L0 N0 : Nat} (hk : k < 4) (hk' : k' < 4) (hne : ¬ k' = k) (hL0 : L0 ≤ 16) (hN0 : N0 ≤ 800) (hM : ∀ j, ¬ j = 1985 + k → nxt k L0 N0 j → M' j = M j) {L : Nat} {P : Nat → Nat} (h : wfL M k' L P) : wfL M' k' L P ∧ ∀ C, cdH C M k' L P → cdH C M' k' L P := by
  obtain ⟨h1, h2, h3, h4⟩ := h
  have e0 : M' (1985 + k') = M (1985 + k') := hM _ (by omega) ⟨by omega, by omega, by omega, by omega⟩
  have e1 : ∀ i, i < 16 → M' (1990 + 16 * k' + i) = M (1990 + 16 * k' + i) := fun i hi => hM _ (by omega) ⟨by omega, by omega, by omega, by omega⟩
  have e2 : ∀ i, i < 16 → M' (2060 + 16 * k' + i) = M (2060 + 16 * k' + i) := fun i hi => hM _ (by omega) ⟨by omega, by omega, by omega, by omega⟩
  have e3 : ∀ i, i < 16 → M' (2130 + 16 * k' + i) = M (2130 + 16 * k' + i) := fun i hi => hM _ (by omega) ⟨by omega, by omega, by omega, by omega⟩
  have eA : ∀ s, s < 400 → hbA M' k' s = hbA M k' s := fun s hs => hM (2200 + 820 * k' + 2 * s) (by omega) ⟨by omega, by omega, by omega, by omega⟩
  have eB : ∀ s, s < 400 → hbB M' k' s = hbB M k' s := fun s hs => hM (2201 + 820 * k' + 2 * s) (by omega) ⟨by omega, by omega, by omega, by omega⟩
  refine ⟨⟨by rw [e0]; exact h1, h2, h3, fun i hi => ?_⟩, fun C hC i hi => ?_⟩
  · obtain ⟨g1, g2, g3, g4, g5, g6⟩ := h4 i hi
    rw [e1 i (by omega), e2 i (by omega), e3 i (by omega)]
    exact ⟨g1, g2, g3, g4, g5, fun q => tyR_congr (fun j q1 q2 => ⟨eA j (by omega), eB j (by omega)⟩) (g6 q)⟩
  · obtain ⟨g1, g2, g3, g4, g5, g6⟩ := h4 i hi
    obtain ⟨c1, c2⟩ := hC i hi
    rw [e1 i (by omega)]
    exact ⟨fun s q1 q2 => by rw [eA s (by omega), eB s (by omega)]; exact c1 s q1 q2, c2⟩
/-- nothing changed below the habits -/
theorem invD_hab {M M' : Nat → Int} (h : ∀ j, j < 1985 → M' j = M j) (hw : ∀ k, k < 4 → ∃ L P, wfL M' k L P) (hi : invD M) : invD M' := by
  obtain ⟨⟨f1, f2, f3, f4, f5, f6, f7⟩, i2, i3, i4, i5, i6, i7, i8, i9, i10, i11⟩ := hi
  refine ⟨⟨?_, fun k hk => ?_, fun k hk => ?_, ?_, fun c hc => ?_, fun k hk => ?_, hw⟩, ?_, ?_, fun c hc => ?_, fun c hc => ?_, fun c hc => ?_, fun c hc => ?_, ?_, ?_, ?_, ?_⟩
  · unfold szN at f1 ⊢
    rw [h 0 (by omega), h 1 (by omega)]
    exact f1
  · rw [h _ (by omega)]; exact f2 k hk
  · rw [h _ (by omega)]; exact f3 k hk
  · rw [h 6 (by omega)]; exact f4
  · rw [h _ (by omega)]; exact f5 c hc
  · rw [h _ (by omega)]; exact f6 k hk
  · obtain ⟨s1, s2⟩ := i2
    refine ⟨by rw [h 4 (by omega)]; exact s1, fun s hs => ?_⟩
    rw [h 4 (by omega)] at hs
    rw [h 0 (by omega), h 1 (by omega), h _ (by omega), h _ (by omega), h _ (by omega), h _ (by omega), h _ (by omega)]
    exact s2 s hs
  · rw [h 3 (by omega)]; exact i3
  · rw [h _ (by omega)]; exact i4 c hc
  · rw [h _ (by omega)]; exact i5 c hc
  · rw [h _ (by omega)]; exact i6 c hc
  · rw [h _ (by omega)]; exact i7 c hc
  · rw [h 5 (by omega)]
    refine ⟨i8.1, fun i hi => ?_⟩
    rw [h _ (by omega), h _ (by omega)]
    exact i8.2 i hi
  · rw [h 7 (by omega), h 0 (by omega), h 1 (by omega)]
    refine ⟨i9.1, fun i hi => ?_⟩
    rw [h _ (by omega), h _ (by omega), h _ (by omega)]
    exact i9.2 i hi
  · rw [h 8 (by omega), h 0 (by omega), h 1 (by omega)]
    refine ⟨i10.1, fun i hi => ?_⟩
    rw [h _ (by omega), h _ (by omega), h _ (by omega)]
    exact i10.2 i hi
  · rw [h 6 (by omega)]
    intro i hi
    rw [h _ (by omega), h _ (by omega)]
    exact i11 i hi
/-- the same duchy but for its habits -/
theorem rD_hab {Z Z' : Nat → Nat → Int} {Rf Rf' : Nat → Nat → Option Nat} {K K' : Nat → Nat × Nat} {M M' : Nat → Int} {b : Nat} (hi : invD M) (hz : ∀ a, b ≤ a → a < b + 25 → Z' a = Z a) (hM : ∀ k, k < 1985 → M' k = M k) (hh : rHb Z' Rf' K' M' (b + 17)) (hr : rD Z Rf K M b) : rD Z' Rf' K' M' b := by
  obtain ⟨h1, h2, h3, h4, h5, h6, h7, _, h9⟩ := hr
  have b4 := hi.2.1.1
  have b6 := hi.1.2.2.2.1
  obtain ⟨_, _, _, _, _, _, _, i8, i9, i10, _⟩ := hi
  refine ⟨?_, fun c hc => ?_, fun k hk => ?_, ?_, ?_, ?_, ?_, hh, ?_⟩
  · rw [hz b (by omega) (by omega), hM 0 (by omega), hM 1 (by omega), hM 2 (by omega), hM 3 (by omega)]
    exact h1
  · rw [hz _ (by omega) (by omega), hz _ (by omega) (by omega), hz _ (by omega) (by omega), hz _ (by omega) (by omega), hz _ (by omega) (by omega), hz _ (by omega) (by omega), hz _ (by omega) (by omega), hM _ (by omega), hM _ (by omega), hM _ (by omega), hM _ (by omega), hM _ (by omega), hM _ (by omega), hM _ (by omega)]
    exact h2 c hc
  · rw [hz _ (by omega) (by omega), hM _ (by omega)]
    exact h3 k hk
  · rw [hz _ (by omega) (by omega), hz _ (by omega) (by omega), hM _ (by omega)]
    refine ⟨h4.1, fun i hi => ?_⟩
    rw [hM _ (by omega), hM _ (by omega)]
    exact h4.2 i hi
  · rw [hz _ (by omega) (by omega), hz _ (by omega) (by omega), hM _ (by omega)]
    refine ⟨h5.1, fun i hi c hc => ?_⟩
    rw [hM _ (by omega)]
    exact h5.2 i hi c hc
  · rw [hz _ (by omega) (by omega), hz _ (by omega) (by omega), hM _ (by omega)]
    refine ⟨h6.1, fun i hi c hc => ?_⟩
    rw [hM _ (by omega)]
    exact h6.2 i hi c hc
  · rw [hz _ (by omega) (by omega), hz _ (by omega) (by omega), hM _ (by omega)]
    refine ⟨h7.1, fun i hi c hc => ?_⟩
    rw [hM _ (by omega)]
    exact h7.2 i hi c hc
  · obtain ⟨b1, b2, b3⟩ := h9
    refine ⟨fun k hk => by rw [hz _ (by omega) (by omega), hM _ (by omega)]; exact b1 k hk, fun k hk => by rw [hz _ (by omega) (by omega), hM _ (by omega)]; exact b2 k hk, ?_⟩
    rcases b3 with b3 | b3
    · exact Or.inl ⟨b3.1, by rw [hz _ (by omega) (by omega)]; exact b3.2.1, by rw [hz _ (by omega) (by omega)]; exact b3.2.2⟩
    · refine Or.inr ⟨b3.1, by rw [hz _ (by omega) (by omega)]; exact b3.2.1, by rw [hz _ (by omega) (by omega), hM _ (by omega)]; exact b3.2.2.1, fun i hi c hc => ?_⟩
      rw [hM _ (by omega)] at hi
      rw [hM _ (by omega), hz _ (by omega) (by omega)]
      exact b3.2.2.2 i hi c hc
