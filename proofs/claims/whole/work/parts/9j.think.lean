/-! Calls that only think. -/
section THINKS
variable {d n z : Nat} {Rf : Nat → Nat → Option Nat} {K : Nat → Nat × Nat} {Z : Nat → Nat → Int}
theorem k_think {j m : Nat} {as : List sm_V} (h : rAll Z Rf K n) (v : Int) (hc : ∃ Z', frT Z Z' ∧ ∀ Q, sm_call d j (.inr (some 0) :: as) (Z, Rf, K, n, z) Q = Q (some (.inl v)) (Z', Rf, K, n, z)) (hm : ∀ Z1, frT Z Z1 → rAll Z1 Rf K n → ∃ Z', frU Z1 Z' ∧ ∀ Q, sm_call d m (.inr (some 79) :: as) (Z1, Rf, K, n, z) Q = Q (some (.inl v)) (Z', Rf, K, n, z)) : okC d j m as Z Rf K n z := by
  obtain ⟨Z1, a1, a2⟩ := hc
  have h1 := rAll_T a1 h
  obtain ⟨Z2, b1, b2⟩ := hm Z1 a1 h1
  exact okC_of v Z1 Z2 (fun Q hQ => by rw [a2]; exact hQ) (fun Q hQ => by rw [b2]; exact hQ) (rAll_U b1 h1) (by rw [b1.1 4000000 (by omega), a1.1 4000000 (by omega)])
theorem k_of (h : rAll Z Rf K n) {c w : Int} (hc : aI c) (hw : aI w) : okC (d + 8) 99 177 [.inl c, .inl w] Z Rf K n z := by
  have h0 := h
  obtain ⟨a1, a2, a3, a4, a5, _⟩ := h0
  exact k_think h (ofS (Z 80) c w) (c_of (d := d + 4) a1 a2 a4 a5 hc hw) (fun Z1 f1 _ => m_of (d := d + 3) a1 (f1.1 80 (by omega)) a4 hc hw)
theorem k_ends (h : rAll Z Rf K n) {c w : Int} (hc : aI c) (hw : aI w) : okC (d + 8) 103 184 [.inl c, .inl w] Z Rf K n z := by
  have h0 := h
  obtain ⟨a1, a2, a3, a4, a5, _⟩ := h0
  exact k_think h _ (c_ends (d := d + 2) a1 a2 a3 a4 a5 hc hw) (fun Z1 f1 r1 => m_ends (d := d + 1) a1 (f1.1 80 (by omega)) a4 r1.2.2.2.2.2.2.2.2.2.1 hc hw)
theorem k_plan (h : rAll Z Rf K n) {a b w : Int} (ha : aI a) (hb : aI b) (hw : aI w) : okC (d + 8) 104 187 [.inl a, .inl b, .inl w] Z Rf K n z := by
  have h0 := h
  obtain ⟨a1, a2, a3, a4, a5, _⟩ := h0
  exact k_think h _ (c_plan (d := d + 1) a1 a2 a3 a4 a5 ha hb hw) (fun Z1 f1 r1 => m_plan a1 (f1.1 80 (by omega)) a4 r1.2.2.2.2.2.2.2.2.2.1 ha hb hw)
theorem k_odds (h : rAll Z Rf K n) {a b : Int} (ha : aI a) (hb : aI b) : okC (d + 8) 106 190 [.inl a, .inl b] Z Rf K n z := by
  have h0 := h
  obtain ⟨a1, a2, a3, a4, a5, _⟩ := h0
  exact k_think h _ (c_odds (d := d + 1) a1 a2 a3 a4 a5 ha hb) (fun Z1 f1 r1 => m_odds a1 (f1.1 80 (by omega)) a4 r1.2.2.2.2.2.2.2.2.2.1 ha hb)
theorem k_back (h : rAll Z Rf K n) {w : Int} (hw : aI w) : okC (d + 8) 108 192 [.inl w] Z Rf K n z := by
  have h0 := h
  obtain ⟨a1, a2, a3, a4, a5, _⟩ := h0
  exact k_think h _ (c_back (d := d + 1) a1 a2 a3 a4 a5 hw) (fun Z1 f1 r1 => m_backW a1 (f1.1 80 (by omega)) a4 r1.2.2.2.2.2.2.2.2.2.1 hw)
theorem k_part (h : rAll Z Rf K n) {a b : Int} (ha : aI a) (hb : aI b) : okC (d + 8) 109 194 [.inl a, .inl b] Z Rf K n z := by
  have h0 := h
  obtain ⟨a1, a2, a3, a4, a5, _⟩ := h0
  exact k_think h _ (c_part (d := d + 3) a1 a2 a4 a5 ha hb) (fun Z1 f1 _ => m_part (d := d + 3) a1 (f1.1 80 (by omega)) a4 ha hb)
theorem k_look (h : rAll Z Rf K n) {w : Int} (hw : aI w) : okC (d + 8) 111 196 [.inl w] Z Rf K n z := by
  have h0 := h
  obtain ⟨a1, a2, a3, a4, a5, a6, a7, _⟩ := h0
  refine k_think h (lkS (Z 80) (Z 79 4) w) ?_ (fun Z1 f1 _ => ?_)
  · have := c_look (d := d + 4) (n := n) (z := z) a1 a2 a4 a5 hw
    rw [a7.1] at this
    exact this
  · have := m_look (d := d + 3) (n := n) (z := z) (Z := Z1) a1 (f1.1 80 (by omega)) a4 hw
    rw [f1.1 79 (by omega)] at this
    exact this
theorem nearR_cg {P Q : Nat → Int} : ∀ (k i : Nat) (b : Int) (c : Int), (∀ j, i ≤ j → j < i + k → P j = Q j) → nearR P k i b c = nearR Q k i b c := by
  intro k
  induction k with
  | zero => intro i b c _; rfl
  | succ k ih =>
    intro i b c h
    simp only [nearR]
    rw [h i (by omega) (by omega), ih _ _ _ (fun j q1 q2 => h j (by omega) (by omega)), ih _ _ _ (fun j q1 q2 => h j (by omega) (by omega))]
end THINKS
