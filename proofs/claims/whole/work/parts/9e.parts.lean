/-! One part of the duchy changed. -/
theorem rD_but {Z Z' : Nat → Nat → Int} {Rf : Nat → Nat → Option Nat} {K : Nat → Nat × Nat} {M M' : Nat → Int} (r0 r1 kc u0 u1 : Nat) (hi : invD M) (hz : ∀ a, (1 ≤ a ∧ a ≤ 25) ∨ (97 ≤ a ∧ a < 1000000) → ¬ (r0 ≤ a ∧ a ≤ r1) → Z' a = Z a) (hM : ∀ k, ¬ k = kc → ¬ (u0 ≤ k ∧ k < u1) → M' k = M k) (n1 : 4 ≤ kc ∧ kc < 20 ∧ 2 ≤ r0 ∧ r1 ≤ 25 ∧ (r1 < 18 ∨ 20 < r0) ∧ 20 ≤ u0 ∧ u1 ≤ 1985) (n2 : (8 < r0 ∧ 720 ≤ u0)) (n3 : (∀ k, k < 121 → Z' 9 k = M' (720 + k)) ∨ ((9 < r0 ∨ r1 < 9) ∧ (u1 ≤ 720 ∨ 841 ≤ u0))) (n4 : (Z' 10 2 = M' 5 ∧ ∀ i : Nat, (i : Int) < M' 5 → Z' 11 (5 * i) = M' (1840 + 2 * i) ∧ Z' 11 (5 * i + 1) = M' (1841 + 2 * i)) ∨ ((11 < r0 ∨ r1 < 10) ∧ ¬ kc = 5 ∧ (u1 ≤ 1840 ∨ 1855 ≤ u0))) (n5 : (Z' 12 2 = M' 4 ∧ ∀ s : Nat, (s : Int) < M' 4 → ∀ c, c < 5 → Z' 13 (5 * s + c) = M' (1855 + 5 * s + c)) ∨ ((13 < r0 ∨ r1 < 12) ∧ ¬ kc = 4 ∧ (u1 ≤ 1855 ∨ 1900 ≤ u0))) (n6 : (Z' 14 2 = M' 7 ∧ ∀ i : Nat, (i : Int) < M' 7 → ∀ c, c < 3 → Z' 15 (5 * i + c) = M' (1900 + 3 * i + c)) ∨ ((15 < r0 ∨ r1 < 14) ∧ ¬ kc = 7 ∧ (u1 ≤ 1900 ∨ 1920 ≤ u0))) (n7 : (Z' 16 2 = M' 8 ∧ ∀ i : Nat, (i : Int) < M' 8 → ∀ c, c < 3 → Z' 17 (5 * i + c) = M' (1920 + 3 * i + c)) ∨ ((17 < r0 ∨ r1 < 16) ∧ ¬ kc = 8 ∧ (u1 ≤ 1920 ∨ 1985 ≤ u0))) (n9 : rTh Z' M' 21 false ∨ ((25 < r0 ∨ r1 < 21) ∧ ¬ kc = 6 ∧ (u1 ≤ 850 ∨ 1840 ≤ u0))) (hr : rD Z Rf K M 1) : rD Z' Rf K M' 1 := by
  obtain ⟨h1, h2, h3, h4, h5, h6, h7, h8, h9⟩ := hr
  have b4 := hi.2.1.1
  have b6 := hi.1.2.2.2.1
  obtain ⟨_, _, _, _, _, _, _, i8, i9, i10, _⟩ := hi
  refine ⟨?_, fun c hc => ?_, ?_, ?_, ?_, ?_, ?_, ?_, ?_⟩
  · rw [hz 1 (by omega) (by omega), hM 0 (by omega) (by omega), hM 1 (by omega) (by omega), hM 2 (by omega) (by omega), hM 3 (by omega) (by omega)]
    exact h1
  · rw [hz _ (by omega) (by omega), hz _ (by omega) (by omega), hz _ (by omega) (by omega), hz _ (by omega) (by omega), hz _ (by omega) (by omega), hz _ (by omega) (by omega), hz _ (by omega) (by omega), hM _ (by omega) (by omega), hM _ (by omega) (by omega), hM _ (by omega) (by omega), hM _ (by omega) (by omega), hM _ (by omega) (by omega), hM _ (by omega) (by omega), hM _ (by omega) (by omega)]
    exact h2 c hc
  · rcases n3 with n | n
    · exact n
    · intro k hk
      rw [hz _ (by omega) (by omega), hM _ (by omega) (by omega)]
      exact h3 k hk
  · rcases n4 with n | n
    · exact n
    · rw [hz _ (by omega) (by omega), hz _ (by omega) (by omega), hM 5 (by omega) (by omega)]
      refine ⟨h4.1, fun i hi => ?_⟩
      rw [hM _ (by omega) (by omega), hM _ (by omega) (by omega)]
      exact h4.2 i hi
  · rcases n5 with n | n
    · exact n
    · rw [hz _ (by omega) (by omega), hz _ (by omega) (by omega), hM 4 (by omega) (by omega)]
      refine ⟨h5.1, fun i hi c hc => ?_⟩
      rw [hM _ (by omega) (by omega)]
      exact h5.2 i hi c hc
  · rcases n6 with n | n
    · exact n
    · rw [hz _ (by omega) (by omega), hz _ (by omega) (by omega), hM 7 (by omega) (by omega)]
      refine ⟨h6.1, fun i hi c hc => ?_⟩
      rw [hM _ (by omega) (by omega)]
      exact h6.2 i hi c hc
  · rcases n7 with n | n
    · exact n
    · rw [hz _ (by omega) (by omega), hz _ (by omega) (by omega), hM 8 (by omega) (by omega)]
      refine ⟨h7.1, fun i hi c hc => ?_⟩
      rw [hM _ (by omega) (by omega)]
      exact h7.2 i hi c hc
  · exact rHb_cg (fun k hk => hM k (by omega) (by omega)) (fun a ha => hz a (by omega) (by omega)) h8
  · rcases n9 with n | n
    · exact n
    · obtain ⟨b1, b2, b3⟩ := h9
      refine ⟨fun k hk => by rw [hz _ (by omega) (by omega), hM _ (by omega) (by omega)]; exact b1 k hk, fun k hk => by rw [hz _ (by omega) (by omega), hM _ (by omega) (by omega)]; exact b2 k hk, ?_⟩
      rcases b3 with b3 | b3
      · exact Or.inl ⟨b3.1, by rw [hz _ (by omega) (by omega)]; exact b3.2.1, by rw [hz _ (by omega) (by omega)]; exact b3.2.2⟩
      · refine Or.inr ⟨b3.1, by rw [hz _ (by omega) (by omega)]; exact b3.2.1, by rw [hz _ (by omega) (by omega), hM 6 (by omega) (by omega)]; exact b3.2.2.1, fun i hi c hc => ?_⟩
        rw [hM 6 (by omega) (by omega)] at hi
        rw [hM _ (by omega) (by omega), hz _ (by omega) (by omega)]
        exact b3.2.2.2 i hi c hc
theorem invD_but {M M' : Nat → Int} (kc u0 u1 : Nat) (hM : ∀ k, ¬ k = kc → ¬ (u0 ≤ k ∧ k < u1) → M' k = M k) (n1 : 4 ≤ kc ∧ kc < 20 ∧ 720 ≤ u0 ∧ u1 ≤ 1985) (n3 : (∀ k, k < 121 → M' (720 + k) = 0 ∨ M' (720 + k) = 1) ∨ (u1 ≤ 720 ∨ 841 ≤ u0)) (n4 : ((0 ≤ M' 5 ∧ M' 5 ≤ 6) ∧ ∀ i : Nat, (i : Int) < M' 5 → (0 ≤ M' (1840 + 2 * i) ∧ M' (1840 + 2 * i) ≤ 10) ∧ 0 ≤ M' (1841 + 2 * i) ∧ M' (1841 + 2 * i) ≤ 10) ∨ (¬ kc = 5 ∧ (u1 ≤ 1840 ∨ 1855 ≤ u0))) (n5 : swS M' ∨ (¬ kc = 4 ∧ (u1 ≤ 1855 ∨ 1900 ≤ u0))) (n6 : ((0 ≤ M' 7 ∧ M' 7 ≤ 6) ∧ ∀ i : Nat, (i : Int) < M' 7 → isC (M 0) (M 1) (M' (1900 + 3 * i)) = true ∧ (0 ≤ M' (1901 + 3 * i) ∧ M' (1901 + 3 * i) ≤ 99) ∧ 0 ≤ M' (1902 + 3 * i) ∧ M' (1902 + 3 * i) ≤ 10) ∨ (¬ kc = 7 ∧ (u1 ≤ 1900 ∨ 1920 ≤ u0))) (n7 : ((0 ≤ M' 8 ∧ M' 8 ≤ 20) ∧ ∀ i : Nat, (i : Int) < M' 8 → isC (M 0) (M 1) (M' (1920 + 3 * i)) = true ∧ isC (M 0) (M 1) (M' (1921 + 3 * i)) = true ∧ (M' (1922 + 3 * i) = 0 ∨ M' (1922 + 3 * i) = 1)) ∨ (¬ kc = 8 ∧ (u1 ≤ 1920 ∨ 1985 ≤ u0))) (n9 : ((∀ k, k < 242 → -1 ≤ M' (850 + k) ∧ M' (850 + k) ≤ 7) ∧ (∀ k, k < 242 → -1 ≤ M' (1092 + k) ∧ M' (1092 + k) ≤ 60) ∧ (0 ≤ M' 6 ∧ M' 6 ≤ 99) ∧ ∀ i : Nat, (i : Int) < M' 6 → (0 ≤ M' (1342 + 5 * i) ∧ M' (1342 + 5 * i) ≤ 10) ∧ 0 ≤ M' (1343 + 5 * i) ∧ M' (1343 + 5 * i) ≤ 10) ∨ (¬ kc = 6 ∧ (u1 ≤ 850 ∨ 1840 ≤ u0))) (hi : invD M) : invD M' := by
  obtain ⟨⟨f1, f2, f3, f4, f5, f6, f7⟩, i2, i3, i4, i5, i6, i7, i8, i9, i10, i11⟩ := hi
  have e0 := hM 0 (by omega) (by omega)
  have e1 := hM 1 (by omega) (by omega)
  refine ⟨⟨?_, ?_, ?_, ?_, fun c hc => ?_, ?_, fun k hk => ?_⟩, ?_, ?_, fun c hc => ?_, fun c hc => ?_, fun c hc => ?_, fun c hc => ?_, ?_, ?_, ?_, ?_⟩
  · unfold szN at f1 ⊢
    rw [e0, e1]
    exact f1
  · rcases n9 with n | n
    · exact n.1
    · intro k hk; rw [hM _ (by omega) (by omega)]; exact f2 k hk
  · rcases n9 with n | n
    · exact n.2.1
    · intro k hk; rw [hM _ (by omega) (by omega)]; exact f3 k hk
  · rcases n9 with n | n
    · exact n.2.2.1
    · rw [hM _ (by omega) (by omega)]; exact f4
  · rw [hM _ (by omega) (by omega)]; exact f5 c hc
  · rcases n3 with n | n
    · exact n
    · intro k hk; rw [hM _ (by omega) (by omega)]; exact f6 k hk
  · obtain ⟨L, P, hw⟩ := f7 k hk
    exact ⟨L, P, wfL_cg (fun k hk => hM k (by omega) (by omega)) hw⟩
  · rcases n5 with n | n
    · exact n
    · obtain ⟨s1, s2⟩ := i2
      refine ⟨by rw [hM 4 (by omega) (by omega)]; exact s1, fun s hs => ?_⟩
      rw [hM 4 (by omega) (by omega)] at hs
      rw [e0, e1, hM _ (by omega) (by omega), hM _ (by omega) (by omega), hM _ (by omega) (by omega), hM _ (by omega) (by omega), hM _ (by omega) (by omega)]
      exact s2 s hs
  · rw [hM 3 (by omega) (by omega)]; exact i3
  · rw [hM _ (by omega) (by omega)]; exact i4 c hc
  · rw [hM _ (by omega) (by omega)]; exact i5 c hc
  · rw [hM _ (by omega) (by omega)]; exact i6 c hc
  · rw [hM _ (by omega) (by omega)]; exact i7 c hc
  · rcases n4 with n | n
    · exact n
    · rw [hM 5 (by omega) (by omega)]
      refine ⟨i8.1, fun i hi => ?_⟩
      rw [hM _ (by omega) (by omega), hM _ (by omega) (by omega)]
      exact i8.2 i hi
  · rw [e0, e1]
    rcases n6 with n | n
    · exact n
    · rw [hM 7 (by omega) (by omega)]
      refine ⟨i9.1, fun i hi => ?_⟩
      rw [hM _ (by omega) (by omega), hM _ (by omega) (by omega), hM _ (by omega) (by omega)]
      exact i9.2 i hi
  · rw [e0, e1]
    rcases n7 with n | n
    · exact n
    · rw [hM 8 (by omega) (by omega)]
      refine ⟨i10.1, fun i hi => ?_⟩
      rw [hM _ (by omega) (by omega), hM _ (by omega) (by omega), hM _ (by omega) (by omega)]
      exact i10.2 i hi
  · rcases n9 with n | n
    · exact n.2.2.2
    · rw [hM 6 (by omega) (by omega)]
      intro i hi
      rw [hM _ (by omega) (by omega), hM _ (by omega) (by omega)]
      exact i11 i hi
