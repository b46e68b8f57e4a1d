/-! The call land. -/
theorem hbE_18 {Rf : Nat → Nat → Option Nat} {k : Nat} (hk : k < 4) : hbE Rf 18 k = some 19 := by
  unfold hbE
  rw [sm_u_eq, sm_u_eq, sm_u_eq, sm_u_eq]
  have hk4 : k = 0 ∨ k = 1 ∨ k = 2 ∨ k = 3 := by omega
  rcases hk4 with g | g | g | g <;> rw [g] <;> rfl
theorem hbE_o {Rf : Nat → Nat → Option Nat} {a : Nat} (h : a ≠ 18) : hbE Rf a = Rf a := by
  unfold hbE
  rw [sm_u_row h, sm_u_row h, sm_u_row h, sm_u_row h]
theorem cnew_c (Z : Nat → Nat → Int) (w h : Int) : (∀ c, c < 100 → c_new Z w h 2 c = 0 ∧ c_new Z w h 3 c = 1 ∧ c_new Z w h 4 c = 0 ∧ c_new Z w h 5 c = 0 ∧ c_new Z w h 6 c = 0 ∧ c_new Z w h 7 c = 0 ∧ c_new Z w h 8 c = -1) ∧ (∀ k, k < 121 → c_new Z w h 9 k = 0) ∧ (c_new Z w h 10 2 = 0 ∧ c_new Z w h 12 2 = 0 ∧ c_new Z w h 14 2 = 0 ∧ c_new Z w h 16 2 = 0 ∧ c_new Z w h 24 2 = 0) ∧ (c_new Z w h 10 0 = Z 10 0 ∧ c_new Z w h 12 0 = Z 12 0 ∧ c_new Z w h 14 0 = Z 14 0 ∧ c_new Z w h 16 0 = Z 16 0 ∧ c_new Z w h 24 0 = Z 24 0) ∧ (∀ k, k < 242 → c_new Z w h 22 k = -1 ∧ c_new Z w h 23 k = -1) ∧ (c_new Z w h 1 0 = w ∧ c_new Z w h 1 1 = h ∧ c_new Z w h 1 2 = Z 1 2 ∧ c_new Z w h 1 3 = 0) := by
  refine ⟨fun c hc => ?_, fun k hk => ?_, ?_, ?_, fun k hk => ?_, ?_⟩
  · simp [c_new, c_new1, sm_u, sm_fr, hc]
  · simp [c_new, c_new1, sm_u, sm_fr, hk]
  · simp [c_new, c_new1, sm_u, sm_fr]
  · simp [c_new, c_new1, sm_u, sm_fr]
  · simp [c_new, c_new1, sm_u, sm_fr, hk]
  · simp [c_new, c_new1, sm_u, sm_fr]
