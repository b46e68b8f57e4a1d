/-! The law's loop, and the law whole. -/
section LOOP
variable {d : Nat} {Q : Option sm_V → sm_S → Prop}
theorem law_loop {len : Nat} (hl : len ≤ 3072) (hQ : ∀ Z Rf K n z, n ≤ 5000 → z ≤ 1000000 → Q (some (.inl 1)) (Z, Rf, K, n, z)) : ∀ (m x : Nat) (Z : Nat → Nat → Int) (Rf : Nat → Nat → Option Nat) (K : Nat → Nat × Nat) (n z : Nat), len ≤ x + 6 * m → x ≤ 3078 → rAll Z Rf K n → K 4000000 = (102, len) → (∀ j, aI (Z 4000000 j)) → n + 2 * m ≤ 5000 → z + 500 * m ≤ 1000000 → sm_wp (d + 41) 198 18 [some (.inr (some 4000000)), some (.inr (some 0)), some (.inr (some 79)), some (.inl (x : Int))] [] (Z, Rf, K, n, z) Q := by
  intro m
  induction m with
  | zero =>
    intro x Z Rf K n z h1 h2 hA hK hZ hn hz
    rw [b198_18, hK]
    refine ⟨Or.inr (Or.inr (Or.inl rfl)), ?_⟩
    dsimp only
    rw [wr_id (by omega) (by omega), wr_id (by omega) (by omega), if_pos (by omega), b198_1155]
    exact ⟨Or.inr rfl, hQ _ _ _ _ _ (by omega) (by omega)⟩
  | succ m ih =>
    intro x Z Rf K n z h1 h2 hA hK hZ hn hz
    rw [b198_18, hK]
    refine ⟨Or.inr (Or.inr (Or.inl rfl)), ?_⟩
    dsimp only
    rw [wr_id (by omega) (by omega), wr_id (by omega) (by omega)]
    by_cases hx : (len : Int) - 6 < (x : Int)
    · rw [if_pos hx, b198_1155]
      exact ⟨Or.inr rfl, hQ _ _ _ _ _ (by omega) (by omega)⟩
    · rw [if_neg hx, b198_27]
      have hx6 : x + 6 ≤ len := by
        have : ¬ (len : Int) - 6 < (x : Int) := hx
        omega
      have hr : ∀ t : Int, 0 ≤ t → t < 6 → sm_rd (K 4000000) (wr ((x : Int) + t)) := fun t p1 p2 => by
        rw [hK, wr_id (by omega) (by omega)]
        exact ⟨Or.inr rfl, by omega, show (x : Int) + t < (len : Int) by omega⟩
      refine ⟨by have := hr 0 (by decide) (by decide); rw [Int.add_zero] at this; exact this, ?_⟩
      refine a_all ⟨hA, by rw [hK]; exact Nat.le_refl _, hr, hZ, by omega, fun Z2 Rf1 K1 n1 z1 r2 e5 e2 e4 => ?_⟩ _
      rw [b198_1149, show (x : Int) + 6 = ((x + 6 : Nat) : Int) by omega]
      exact ih (x + 6) Z2 Rf1 K1 n1 z1 (by omega) (by omega) r2 (by rw [e2, hK]) (fun j => by rw [e5]; exact hZ j) (by omega) (by omega)
/-- the law's run, whole -/
theorem law_run {Z0 : Nat → Nat → Int} {Rf0 : Nat → Nat → Option Nat} {K0 : Nat → Nat × Nat} {len : Nat} (hc : cst Z0 Rf0 K0) (hl : len ≤ 3072) (hK : K0 4000000 = (102, len)) (hZ : ∀ j, aI (Z0 4000000 j)) : ∃ f r, sm_run f (d + 41) 198 0 (sm_entry 198 [.inr (some 4000000)]) [] (Z0, Rf0, K0, 0, 0) = some r ∧ r.1 = some (.inl 1) ∧ r.2.2.2.2.1 ≤ 5000 ∧ r.2.2.2.2.2 ≤ 1000000 := by
  obtain ⟨Z1, Rf1, K1, z1, hA, eZ, eK, hz, hw⟩ := g_start (d := d + 36) hc
  have h : sm_call (d + 41) 198 [.inr (some 4000000)] (Z0, Rf0, K0, 0, 0) (fun r S => r = some (.inl 1) ∧ S.2.2.2.1 ≤ 5000 ∧ S.2.2.2.2 ≤ 1000000) := by
    refine hw _ ?_
    exact law_loop (d := d) hl (fun _ _ _ _ _ p1 p2 => ⟨rfl, p1, p2⟩) 512 0 Z1 Rf1 K1 97 z1 (by omega) (by omega) hA (by rw [eK, hK]) (fun j => by rw [eZ]; exact hZ j) (by omega) (by omega)
  obtain ⟨f, r, h1, h2⟩ := h
  exact ⟨f, r, h1, h2⟩
end LOOP
