/-! A new land. -/
theorem sm_fr_e {Z : Nat → Nat → Int} {r i l j : Nat} {v : Int} : sm_fr Z r i l v r j = if i ≤ j ∧ j < l then v else Z r j := by
  show (if r = r ∧ i ≤ j ∧ j < l then v else Z r j) = _
  by_cases h : i ≤ j ∧ j < l
  · rw [if_pos h, if_pos ⟨rfl, h⟩]
  · rw [if_neg h, if_neg (fun g => h g.2)]
theorem sm_frw {Z : Nat → Nat → Int} {r i l a : Nat} {v : Int} (h : a ≠ r) : sm_fr Z r i l v a = Z a := by
  funext j
  exact sm_fr_ne h
theorem mnew_80 {Z : Nat → Nat → Int} {w h : Int} (k : Nat) : m_new Z w h 80 k = if k = 6 then 0 else if 1092 ≤ k ∧ k < 1334 then -1 else if 850 ≤ k ∧ k < 1092 then -1 else if 420 ≤ k ∧ k < 520 then 1 else if k = 1 then h else if k = 0 then w else if k = 2 then Z 80 2 else if 0 ≤ k ∧ k < 5480 then 0 else Z 80 k := by
  unfold m_new m_clr
  rw [sm_u_row (by decide), sm_u_eq, sm_fr_e, sm_fr_e, sm_fr_e, sm_u_eq, sm_u_eq, sm_u_eq, sm_fr_e]
theorem mnew_o {Z : Nat → Nat → Int} {w h : Int} {a : Nat} (h1 : a ≠ 79) (h2 : a ≠ 80) : m_new Z w h a = Z a := by
  unfold m_new m_clr
  rw [sm_u_row h1, sm_u_row h2, sm_frw h2, sm_frw h2, sm_frw h2, sm_u_row h2, sm_u_row h2, sm_u_row h2, sm_frw h2]
theorem mnew_79 {Z : Nat → Nat → Int} {w h : Int} (j : Nat) : m_new Z w h 79 j = if j = 4 then 0 else Z 79 j := by
  unfold m_new m_clr
  rw [sm_u_eq, sm_u_row (by decide), sm_frw (by decide), sm_frw (by decide), sm_frw (by decide), sm_u_row (by decide), sm_u_row (by decide), sm_u_row (by decide), sm_frw (by decide)]
theorem cnew_o {Z : Nat → Nat → Int} {w h : Int} {a : Nat} (ha : a < 1 ∨ (17 ≤ a ∧ a < 22) ∨ 24 < a ∨ a = 11 ∨ a = 13 ∨ a = 15) : c_new Z w h a = Z a := by
  unfold c_new c_new1
  repeat first | rw [sm_u_row (by omega)] | rw [sm_frw (by omega)]
