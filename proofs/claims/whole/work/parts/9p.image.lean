/-! A duchy kept and brought back. -/
theorem wfL_lo {M M' : Nat → Int} (h : ∀ j, j < 5480 → M' j = M j) {k L : Nat} (hk : k < 4) {P : Nat → Nat} (hw : wfL M k L P) : wfL M' k L P ∧ ∀ C, cdH C M k L P → cdH C M' k L P := by
  obtain ⟨h1, h2, h3, h4⟩ := hw
  have eA : ∀ s, s < 400 → hbA M' k s = hbA M k s := fun s hs => h (2200 + 820 * k + 2 * s) (by omega)
  have eB : ∀ s, s < 400 → hbB M' k s = hbB M k s := fun s hs => h (2201 + 820 * k + 2 * s) (by omega)
  refine ⟨⟨by rw [h _ (by omega)]; exact h1, h2, h3, fun i hi => ?_⟩, fun C hC i hi => ?_⟩
  · obtain ⟨g1, g2, g3, g4, g5, g6⟩ := h4 i hi
    rw [h (1990 + 16 * k + i) (by omega), h (2060 + 16 * k + i) (by omega), h (2130 + 16 * k + i) (by omega)]
    exact ⟨g1, g2, g3, g4, g5, fun q => tyR_congr (fun j q1 q2 => ⟨eA j (by omega), eB j (by omega)⟩) (g6 q)⟩
  · obtain ⟨g1, g2, g3, g4, g5, g6⟩ := h4 i hi
    obtain ⟨c1, c2⟩ := hC i hi
    rw [h (1990 + 16 * k + i) (by omega)]
    exact ⟨fun s q1 q2 => by rw [eA s (by omega), eB s (by omega)]; exact c1 s q1 q2, c2⟩
theorem invD_lo {M M' : Nat → Int} (h : ∀ j, j < 5480 → M' j = M j) (hi : invD M) : invD M' := by
  refine invD_hab (fun j hj => h j (by omega)) (fun k hk => ?_) hi
  obtain ⟨L, P, hw⟩ := hi.1.2.2.2.2.2.2 k hk
  exact ⟨L, P, (wfL_lo h hk hw).1⟩
theorem rD_copy {Z Z' : Nat → Nat → Int} {Rf Rf' : Nat → Nat → Option Nat} {K : Nat → Nat × Nat} {M M' : Nat → Int} {b b' : Nat} (hi : invD M) (hM : ∀ k, k < 5480 → M' k = M k) (hb : Z' b' 0 = Z b 0 ∧ Z' b' 1 = Z b 1 ∧ Z' b' 2 = Z b 2 ∧ Z' b' 3 = Z b 3) (hg : ∀ r, 1 ≤ r → r ≤ 7 → ∀ j, j < 100 → Z' (b' + r) j = Z (b + r) j) (h8 : ∀ j, j < 121 → Z' (b' + 8) j = Z (b + 8) j) (hc : ∀ r, r = 9 ∨ r = 11 ∨ r = 13 ∨ r = 15 ∨ r = 23 → Z' (b' + r) 2 = Z (b + r) 2) (h10 : ∀ j, j < 30 → Z' (b' + 10) j = Z (b + 10) j) (h12 : ∀ j, j < 40 → Z' (b' + 12) j = Z (b + 12) j) (h14 : ∀ j, j < 30 → Z' (b' + 14) j = Z (b + 14) j) (h16 : ∀ j, j < 100 → Z' (b' + 16) j = Z (b + 16) j) (h21 : ∀ j, j < 242 → Z' (b' + 21) j = Z (b + 21) j) (h22 : ∀ j, j < 242 → Z' (b' + 22) j = Z (b + 22) j) (h24 : ∀ j, j < 495 → Z' (b' + 24) j = Z (b + 24) j) (h99 : Z' (b' + 23) 0 = 99) (hh : rHb Z' Rf' K M' (b' + 17)) (hr : rD Z Rf K M b) : rD Z' Rf' K M' b' := by
  obtain ⟨g1, g2, g3, g4, g5, g6, g7, _, g9⟩ := hr
  have b4 := hi.2.1.1
  have b6 := hi.1.2.2.2.1
  obtain ⟨_, _, _, _, _, _, _, i8, i9, i10, _⟩ := hi
  refine ⟨?_, fun c hcc => ?_, fun k hk => ?_, ?_, ?_, ?_, ?_, hh, ?_⟩
  · rw [hb.1, hb.2.1, hb.2.2.1, hb.2.2.2, hM 0 (by omega), hM 1 (by omega), hM 2 (by omega), hM 3 (by omega)]
    exact g1
  · rw [hg 1 (by omega) (by omega) c hcc, hg 2 (by omega) (by omega) c hcc, hg 3 (by omega) (by omega) c hcc, hg 4 (by omega) (by omega) c hcc, hg 5 (by omega) (by omega) c hcc, hg 6 (by omega) (by omega) c hcc, hg 7 (by omega) (by omega) c hcc, hM _ (by omega), hM _ (by omega), hM _ (by omega), hM _ (by omega), hM _ (by omega), hM _ (by omega), hM _ (by omega)]
    exact g2 c hcc
  · rw [h8 k hk, hM _ (by omega)]
    exact g3 k hk
  · rw [hc 9 (by omega), hM 5 (by omega)]
    refine ⟨g4.1, fun i hii => ?_⟩
    rw [h10 _ (by omega), h10 _ (by omega), hM _ (by omega), hM _ (by omega)]
    exact g4.2 i hii
  · rw [hc 11 (by omega), hM 4 (by omega)]
    refine ⟨g5.1, fun i hii c hcc => ?_⟩
    rw [h12 _ (by omega), hM _ (by omega)]
    exact g5.2 i hii c hcc
  · rw [hc 13 (by omega), hM 7 (by omega)]
    refine ⟨g6.1, fun i hii c hcc => ?_⟩
    rw [h14 _ (by omega), hM _ (by omega)]
    exact g6.2 i hii c hcc
  · rw [hc 15 (by omega), hM 8 (by omega)]
    refine ⟨g7.1, fun i hii c hcc => ?_⟩
    rw [h16 _ (by omega), hM _ (by omega)]
    exact g7.2 i hii c hcc
  · obtain ⟨b1, b2, b3⟩ := g9
    rcases b3 with b3 | b3
    · exact absurd b3.1 (by decide)
    · refine ⟨fun k hk => ?_, fun k hk => ?_, Or.inr ⟨rfl, h99, ?_, fun i hii c hcc => ?_⟩⟩
      · rw [hM _ (by omega)]
        exact (h21 k hk).trans (b1 k hk)
      · rw [hM _ (by omega)]
        exact (h22 k hk).trans (b2 k hk)
      · rw [hM 6 (by omega)]
        exact (hc 23 (by omega)).trans b3.2.2.1
      · rw [hM 6 (by omega)] at hii
        rw [hM _ (by omega)]
        exact (h24 _ (by omega)).trans (b3.2.2.2 i hii c hcc)
