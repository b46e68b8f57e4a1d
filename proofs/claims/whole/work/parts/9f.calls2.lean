/-! Calls that change one part of the duchy. -/
theorem rAd_o {Z : Nat → Nat → Int} {r q : Nat} {a b c e f : Int} {x : Nat} (h1 : x ≠ r) (h2 : x ≠ q) : rAdd Z r q a b c e f x = Z x := by
  unfold rAdd
  rw [sm_u_row h1, sm_u_row h2, sm_u_row h2, sm_u_row h2, sm_u_row h2, sm_u_row h2]
theorem rAd_r {Z : Nat → Nat → Int} {r q N : Nat} {a b c e f : Int} (hrq : r ≠ q) (hN : Z r 2 = (N : Int)) (j : Nat) : rAdd Z r q a b c e f r j = if j = 2 then (N : Int) + 1 else Z r j := by
  unfold rAdd
  rw [sm_u_eq, sm_u_row hrq, sm_u_row hrq, sm_u_row hrq, sm_u_row hrq, sm_u_row hrq, hN]
theorem rAd_q {Z : Nat → Nat → Int} {r q N : Nat} {a b c e f : Int} (hrq : q ≠ r) (hN : Z r 2 = (N : Int)) (j : Nat) : rAdd Z r q a b c e f q j = if j = 5 * N + 4 then f else if j = 5 * N + 3 then e else if j = 5 * N + 2 then c else if j = 5 * N + 1 then b else if j = 5 * N then a else Z q j := by
  unfold rAdd
  rw [sm_u_row hrq, sm_u_eq, sm_u_eq, sm_u_eq, sm_u_eq, sm_u_eq, hN, show ((N : Int) * 5 + 4).toNat = 5 * N + 4 by omega, show ((N : Int) * 5 + 3).toNat = 5 * N + 3 by omega, show ((N : Int) * 5 + 2).toNat = 5 * N + 2 by omega, show ((N : Int) * 5 + 1).toNat = 5 * N + 1 by omega, show ((N : Int) * 5).toNat = 5 * N by omega]
section CALLS2
variable {d n z : Nat} {Rf : Nat → Nat → Option Nat} {K : Nat → Nat × Nat} {Z : Nat → Nat → Int}
theorem k_nest (h : rAll Z Rf K n) {x y : Int} (hx : aI x) (hy : aI y) : okC (d + 2) 91 134 [.inl x, .inl y] Z Rf K n z := by
  have h0 := h
  obtain ⟨a1, a2, a3, a4, a5, _⟩ := h0
  have sC := szC_of a4 a5
  have sM := szM_of (Z := Z) a4 rfl
  have ew : Z 1 0 = Z 80 0 ∧ Z 1 1 = Z 80 1 := ⟨a5.1.1, a5.1.2.1⟩
  have h4 := a5.2.2.2.1
  have i8 := a4.2.2.2.2.2.2.2.1
  have e5 : Z 10 2 = Z 80 5 := h4.1
  obtain ⟨N, hN⟩ : ∃ N : Nat, Z 80 5 = (N : Int) := ⟨(Z 80 5).toNat, by omega⟩
  by_cases ht : isP (Z 80 0) (Z 80 1) x y = true ∧ Z 80 5 < 6
  · have hp : 0 ≤ x ∧ x ≤ Z 80 0 ∧ 0 ≤ y ∧ y ≤ Z 80 1 := by
      have := ht.1
      unfold isP at this
      rwa [decide_eq_true_eq] at this
    obtain ⟨Z1, hZ1⟩ : ∃ Z1, Z1 = rAdd Z 10 11 x y 0 0 0 := ⟨_, rfl⟩
    have o1 : ∀ a, a ≠ 10 → a ≠ 11 → Z1 a = Z a := fun a q1 q2 => by rw [hZ1, rAd_o q1 q2]
    obtain ⟨Z2, hZ2⟩ : ∃ Z2, Z2 = sm_u (sm_u (sm_u Z1 80 (1840 + 2 * N) x) 80 (1841 + 2 * N) y) 80 5 ((N : Int) + 1) := ⟨_, rfl⟩
    have o2 : ∀ a, a ≠ 80 → Z2 a = Z1 a := fun a q1 => by rw [hZ2, sm_u_row q1, sm_u_row q1, sm_u_row q1]
    have e80 : ∀ k, Z2 80 k = if k = 5 then (N : Int) + 1 else if k = 1841 + 2 * N then y else if k = 1840 + 2 * N then x else Z 80 k := fun k => by rw [hZ2, sm_u_eq, sm_u_eq, sm_u_eq, o1 80 (by decide) (by decide)]
    have z10 : ∀ j, Z2 10 j = if j = 2 then (N : Int) + 1 else Z 10 j := fun j => by rw [o2 10 (by decide), hZ1, rAd_r (by decide) (by rw [e5, hN])]
    have z11 : ∀ j, Z2 11 j = if j = 5 * N + 4 then 0 else if j = 5 * N + 3 then 0 else if j = 5 * N + 2 then 0 else if j = 5 * N + 1 then y else if j = 5 * N then x else Z 11 j := fun j => by rw [o2 11 (by decide), hZ1, rAd_q (by decide) (by rw [e5, hN])]
    have hM : ∀ k, ¬ k = 5 → ¬ (1840 ≤ k ∧ k < 1855) → Z2 80 k = Z 80 k := fun k q1 q2 => by rw [e80, if_neg q1, if_neg (by omega), if_neg (by omega)]
    refine okC_of (Z 80 5) Z1 Z2 (fun Q hQ => ?_) (fun Q hQ => ?_) ?_ (by rw [o2 _ (by decide), o1 _ (by decide) (by decide)])
    · rw [c_nest a1 sC a3.1 (by rw [e5]; exact i8.1) hx hy, ew.1, ew.2, e5, if_pos ht, ← hZ1]
      exact hQ
    · rw [m_nest a1 (szM_of (Z := Z1) a4 (o1 80 (by decide) (by decide))) (by rw [o1 80 (by decide) (by decide)]; exact i8.1) hx hy, o1 80 (by decide) (by decide), if_pos ht, hN, show (1840 + 2 * (N : Int)).toNat = 1840 + 2 * N by omega, show (1841 + 2 * (N : Int)).toNat = 1841 + 2 * N by omega, ← hZ2]
      rw [hN] at hQ
      exact hQ
    · have b0 := a4.1.1
      unfold szN at b0
      refine rAll_duchy (fun a q1 q2 => by rw [o2 a q2, o1 a (by omega) (by omega)]) (fun a ha => ?_) ⟨by rw [o2 19 (by decide), o1 19 (by decide) (by decide)], by rw [o2 20 (by decide), o1 20 (by decide) (by decide)]⟩ (invD_but 5 1840 1855 hM (by omega) (Or.inr (by omega)) (Or.inl ⟨?_, fun i hi => ?_⟩) (Or.inr (by omega)) (Or.inr (by omega)) (Or.inr (by omega)) (Or.inr (by omega)) a4) (rD_but 10 11 5 1840 1855 a4 (fun a q1 q2 => by rw [o2 a (by omega), o1 a (by omega) (by omega)]) hM (by omega) (by omega) (Or.inr (by omega)) (Or.inl ⟨?_, fun i hi => ?_⟩) (Or.inr (by omega)) (Or.inr (by omega)) (Or.inr (by omega)) (Or.inr (by omega)) a5) h ⟨hM 0 (by omega) (by omega), hM 1 (by omega) (by omega)⟩
      · by_cases g : a = 10
        · rw [g, z10, if_neg (by decide)]
        · rw [o2 a (by omega), o1 a g (by omega)]
      · rw [e80, if_pos rfl]
        omega
      · rw [e80, if_pos rfl] at hi
        rw [e80, e80]
        by_cases g : i = N
        · rw [g, if_neg (by omega), if_neg (by omega), if_pos rfl, if_neg (by omega), if_pos rfl]
          omega
        · have := i8.2 i (by omega)
          rw [if_neg (by omega), if_neg (by omega), if_neg (by omega), if_neg (by omega), if_neg (by omega), if_neg (by omega)]
          exact this
      · rw [z10, e80, if_pos rfl, if_pos rfl]
      · rw [e80, if_pos rfl] at hi
        rw [e80, e80, z11, z11]
        by_cases g : i = N
        · rw [g, if_neg (by omega), if_neg (by omega), if_neg (by omega), if_neg (by omega), if_pos rfl, if_neg (by omega), if_neg (by omega), if_pos rfl, if_neg (by omega), if_neg (by omega), if_neg (by omega), if_pos rfl, if_neg (by omega), if_pos rfl]
          exact ⟨rfl, rfl⟩
        · have := h4.2 i (by omega)
          rw [if_neg (by omega), if_neg (by omega), if_neg (by omega), if_neg (by omega), if_neg (by omega), if_neg (by omega), if_neg (by omega), if_neg (by omega), if_neg (by omega), if_neg (by omega), if_neg (by omega), if_neg (by omega), if_neg (by omega), if_neg (by omega), if_neg (by omega), if_neg (by omega)]
          exact this
  · refine okC_of (-1) Z Z (fun Q hQ => ?_) (fun Q hQ => ?_) h rfl
    · rw [c_nest a1 sC a3.1 (by rw [e5]; exact i8.1) hx hy, ew.1, ew.2, e5, if_neg ht]
      exact hQ
    · rw [m_nest a1 sM i8.1 hx hy, if_neg ht]
      exact hQ
theorem k_mirror (h : rAll Z Rf K n) {x y b : Int} (hx : aI x) (hy : aI y) (hb : b = 0 ∨ b = 1) : okC (d + 2) 90 133 [.inl x, .inl y, .inl b] Z Rf K n z := by
  have h0 := h
  obtain ⟨a1, a2, a3, a4, a5, _⟩ := h0
  have sC := szC_of a4 a5
  have sM := szM_of (Z := Z) a4 rfl
  have ew : Z 1 0 = Z 80 0 ∧ Z 1 1 = Z 80 1 := ⟨a5.1.1, a5.1.2.1⟩
  have h3 := a5.2.2.1
  have f6 := a4.1.2.2.2.2.2.1
  by_cases ht : isP (Z 80 0) (Z 80 1) x y = true
  · have hp : 0 ≤ x ∧ x ≤ Z 80 0 ∧ 0 ≤ y ∧ y ≤ Z 80 1 := by
      have := ht
      unfold isP at this
      rwa [decide_eq_true_eq] at this
    have b0 := a4.1.1
    unfold szN at b0
    obtain ⟨p, hpp⟩ : ∃ p : Nat, p = (y * 11 + x).toNat := ⟨_, rfl⟩
    have hp121 : p < 121 := by omega
    obtain ⟨Z1, hZ1⟩ : ∃ Z1, Z1 = sm_u Z 9 p b := ⟨_, rfl⟩
    have o1 : ∀ a, a ≠ 9 → Z1 a = Z a := fun a q1 => by rw [hZ1, sm_u_row q1]
    obtain ⟨Z2, hZ2⟩ : ∃ Z2, Z2 = sm_u Z1 80 (720 + p) b := ⟨_, rfl⟩
    have o2 : ∀ a, a ≠ 80 → Z2 a = Z1 a := fun a q1 => by rw [hZ2, sm_u_row q1]
    have e80 : ∀ k, Z2 80 k = if k = 720 + p then b else Z 80 k := fun k => by rw [hZ2, sm_u_eq, o1 80 (by decide)]
    have z9 : ∀ j, Z2 9 j = if j = p then b else Z 9 j := fun j => by rw [o2 9 (by decide), hZ1, sm_u_eq]
    have hM : ∀ k, ¬ k = 19 → ¬ (720 ≤ k ∧ k < 841) → Z2 80 k = Z 80 k := fun k q1 q2 => by rw [e80, if_neg (by omega)]
    refine okC_of 1 Z1 Z2 (fun Q hQ => ?_) (fun Q hQ => ?_) ?_ (by rw [o2 _ (by decide), o1 _ (by decide)])
    · rw [c_mirror (d := d + 1) a1 sC hx hy hb, ew.1, ew.2, if_pos ht, ← hpp, ← hZ1]
      exact hQ
    · rw [m_mirror a1 (szM_of (Z := Z1) a4 (o1 80 (by decide))) hx hy hb, o1 80 (by decide), if_pos ht, show (720 + 11 * y + x).toNat = 720 + p by omega, ← hZ2]
      exact hQ
    · refine rAll_duchy (fun a q1 q2 => by rw [o2 a q2, o1 a (by omega)]) (fun a ha => by rw [o2 a (by omega), o1 a (by omega)]) ⟨by rw [o2 19 (by decide), o1 19 (by decide)], by rw [o2 20 (by decide), o1 20 (by decide)]⟩ (invD_but 19 720 841 hM (by omega) (Or.inl fun k hk => ?_) (Or.inr (by omega)) (Or.inr (by omega)) (Or.inr (by omega)) (Or.inr (by omega)) (Or.inr (by omega)) a4) (rD_but 9 9 19 720 841 a4 (fun a q1 q2 => by rw [o2 a (by omega), o1 a (by omega)]) hM (by omega) (by omega) (Or.inl fun k hk => ?_) (Or.inr (by omega)) (Or.inr (by omega)) (Or.inr (by omega)) (Or.inr (by omega)) (Or.inr (by omega)) a5) h ⟨hM 0 (by omega) (by omega), hM 1 (by omega) (by omega)⟩
      · rw [e80]
        by_cases g : k = p
        · rw [g, if_pos rfl]; exact hb
        · rw [if_neg (by omega)]; exact f6 k hk
      · rw [e80, z9]
        by_cases g : k = p
        · rw [if_pos g, if_pos (by omega)]
        · rw [if_neg g, if_neg (by omega)]; exact h3 k hk
  · refine okC_of 0 Z Z (fun Q hQ => ?_) (fun Q hQ => ?_) h rfl
    · rw [c_mirror (d := d + 1) a1 sC hx hy hb, ew.1, ew.2, if_neg ht]
      exact hQ
    · rw [m_mirror a1 sM hx hy hb, if_neg ht]
      exact hQ
end CALLS2
