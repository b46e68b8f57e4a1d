/-! The copies' rows. -/
theorem sm_crw {Z : Nat → Nat → Int} {p q i l a : Nat} (h : a ≠ q) : sm_cr Z p q i l a = Z a := by
  funext j
  exact sm_cr_ne h
theorem cpKeep_o {Z : Nat → Nat → Int} {a : Nat} (h : a < 26 ∨ 50 < a) : c_cpKeep Z a = Z a := by
  unfold c_cpKeep c_cpKeep1
  repeat first | rw [sm_u_row (by omega)] | rw [sm_crw (by omega)]
theorem cpBack_o {Z : Nat → Nat → Int} {a : Nat} (h : a < 1 ∨ 25 < a) : c_cpBack Z a = Z a := by
  unfold c_cpBack c_cpBack1
  repeat first | rw [sm_u_row (by omega)] | rw [sm_crw (by omega)]
theorem cpKeep_19 {Z : Nat → Nat → Int} {a j : Nat} (h : (a = 35 ∨ a = 37 ∨ a = 39 ∨ a = 41 ∨ a = 49) ∧ j = 0) : c_cpKeep Z a j = Z a j := by
  obtain ⟨h1, h2⟩ := h
  rcases h1 with g | g | g | g | g <;> (rw [g, h2]; simp [c_cpKeep, c_cpKeep1, sm_u, sm_cr])
theorem cpBack_19 {Z : Nat → Nat → Int} {a j : Nat} (h : ((a = 10 ∨ a = 12 ∨ a = 14 ∨ a = 16 ∨ a = 24) ∧ j = 0) ∨ a = 18 ∨ a = 19 ∨ a = 20 ∨ a = 21) : c_cpBack Z a j = Z a j := by
  rcases h with ⟨h1, h2⟩ | g | g | g | g
  · rcases h1 with g | g | g | g | g <;> (rw [g, h2]; simp [c_cpBack, c_cpBack1, sm_u, sm_cr])
  · rw [g]; simp [c_cpBack, c_cpBack1, sm_u, sm_cr]
  · rw [g]; simp [c_cpBack, c_cpBack1, sm_u, sm_cr]
  · rw [g]; simp [c_cpBack, c_cpBack1, sm_u, sm_cr]
  · rw [g]; simp [c_cpBack, c_cpBack1, sm_u, sm_cr]
/-- what is copied -/
def cpd (Z' Z : Nat → Nat → Int) (b' b : Nat) : Prop := (Z' b' 0 = Z b 0 ∧ Z' b' 1 = Z b 1 ∧ Z' b' 2 = Z b 2 ∧ Z' b' 3 = Z b 3) ∧ (∀ r, 1 ≤ r → r ≤ 7 → ∀ j, j < 100 → Z' (b' + r) j = Z (b + r) j) ∧ (∀ j, j < 121 → Z' (b' + 8) j = Z (b + 8) j) ∧ (∀ r, r = 9 ∨ r = 11 ∨ r = 13 ∨ r = 15 ∨ r = 23 → Z' (b' + r) 2 = Z (b + r) 2) ∧ (∀ j, j < 30 → Z' (b' + 10) j = Z (b + 10) j) ∧ (∀ j, j < 40 → Z' (b' + 12) j = Z (b + 12) j) ∧ (∀ j, j < 30 → Z' (b' + 14) j = Z (b + 14) j) ∧ (∀ j, j < 100 → Z' (b' + 16) j = Z (b + 16) j) ∧ (∀ j, j < 242 → Z' (b' + 21) j = Z (b + 21) j) ∧ (∀ j, j < 242 → Z' (b' + 22) j = Z (b + 22) j) ∧ ∀ j, j < 495 → Z' (b' + 24) j = Z (b + 24) j
theorem cpKeep_c (Z : Nat → Nat → Int) : cpd (c_cpKeep Z) Z 26 1 := by
  refine ⟨⟨?_, ?_, ?_, ?_⟩, fun r h1 h2 j hj => ?_, fun j hj => ?_, fun r hr => ?_, fun j hj => ?_, fun j hj => ?_, fun j hj => ?_, fun j hj => ?_, fun j hj => ?_, fun j hj => ?_, fun j hj => ?_⟩
  · simp [c_cpKeep, c_cpKeep1, sm_u, sm_cr]
  · simp [c_cpKeep, c_cpKeep1, sm_u, sm_cr]
  · simp [c_cpKeep, c_cpKeep1, sm_u, sm_cr]
  · simp [c_cpKeep, c_cpKeep1, sm_u, sm_cr]
  · have : r = 1 ∨ r = 2 ∨ r = 3 ∨ r = 4 ∨ r = 5 ∨ r = 6 ∨ r = 7 := by omega
    rcases this with g | g | g | g | g | g | g <;> (rw [g]; simp [c_cpKeep, c_cpKeep1, sm_u, sm_cr, hj])
  · simp [c_cpKeep, c_cpKeep1, sm_u, sm_cr, hj]
  · rcases hr with g | g | g | g | g <;> (rw [g]; simp [c_cpKeep, c_cpKeep1, sm_u, sm_cr])
  · simp [c_cpKeep, c_cpKeep1, sm_u, sm_cr, hj]
  · simp [c_cpKeep, c_cpKeep1, sm_u, sm_cr, hj]
  · simp [c_cpKeep, c_cpKeep1, sm_u, sm_cr, hj]
  · simp [c_cpKeep, c_cpKeep1, sm_u, sm_cr, hj]
  · simp [c_cpKeep, c_cpKeep1, sm_u, sm_cr, hj]
  · simp [c_cpKeep, c_cpKeep1, sm_u, sm_cr, hj]
  · simp [c_cpKeep, c_cpKeep1, sm_u, sm_cr, hj]
theorem cpBack_c (Z : Nat → Nat → Int) : cpd (c_cpBack Z) Z 1 26 := by
  refine ⟨⟨?_, ?_, ?_, ?_⟩, fun r h1 h2 j hj => ?_, fun j hj => ?_, fun r hr => ?_, fun j hj => ?_, fun j hj => ?_, fun j hj => ?_, fun j hj => ?_, fun j hj => ?_, fun j hj => ?_, fun j hj => ?_⟩
  · simp [c_cpBack, c_cpBack1, sm_u, sm_cr]
  · simp [c_cpBack, c_cpBack1, sm_u, sm_cr]
  · simp [c_cpBack, c_cpBack1, sm_u, sm_cr]
  · simp [c_cpBack, c_cpBack1, sm_u, sm_cr]
  · have : r = 1 ∨ r = 2 ∨ r = 3 ∨ r = 4 ∨ r = 5 ∨ r = 6 ∨ r = 7 := by omega
    rcases this with g | g | g | g | g | g | g <;> (rw [g]; simp [c_cpBack, c_cpBack1, sm_u, sm_cr, hj])
  · simp [c_cpBack, c_cpBack1, sm_u, sm_cr, hj]
  · rcases hr with g | g | g | g | g <;> (rw [g]; simp [c_cpBack, c_cpBack1, sm_u, sm_cr])
  · simp [c_cpBack, c_cpBack1, sm_u, sm_cr, hj]
  · simp [c_cpBack, c_cpBack1, sm_u, sm_cr, hj]
  · simp [c_cpBack, c_cpBack1, sm_u, sm_cr, hj]
  · simp [c_cpBack, c_cpBack1, sm_u, sm_cr, hj]
  · simp [c_cpBack, c_cpBack1, sm_u, sm_cr, hj]
  · simp [c_cpBack, c_cpBack1, sm_u, sm_cr, hj]
  · simp [c_cpBack, c_cpBack1, sm_u, sm_cr, hj]
