/-! More calls that add to a list. -/
section CALLS3
variable {d n z : Nat} {Rf : Nat → Nat → Option Nat} {K : Nat → Nat × Nat} {Z : Nat → Nat → Int}
theorem k_swallow (h : rAll Z Rf K n) {x y e l i : Int} (hx : aI x) (hy : aI y) (he : aI e) (hl : aI l) (hi : aI i) : okC (d + 2) 92 135 [.inl x, .inl y, .inl e, .inl l, .inl i] Z Rf K n z := by
  have h0 := h
  obtain ⟨a1, a2, a3, a4, a5, _⟩ := h0
  have sC := szC_of a4 a5
  have sM := szM_of (Z := Z) a4 rfl
  have ew : Z 1 0 = Z 80 0 ∧ Z 1 1 = Z 80 1 := ⟨a5.1.1, a5.1.2.1⟩
  have h5 := a5.2.2.2.2.1
  have i2 := a4.2.1
  have e4 : Z 12 2 = Z 80 4 := h5.1
  obtain ⟨N, hN⟩ : ∃ N : Nat, Z 80 4 = (N : Int) := ⟨(Z 80 4).toNat, by have := i2.1; omega⟩
  by_cases ht : swOK (Z 80 0) (Z 80 1) x y e l i ∧ Z 80 4 < 8
  · obtain ⟨⟨t1, t2, t3, t4⟩, t5⟩ := ht
    obtain ⟨Z1, hZ1⟩ : ∃ Z1, Z1 = rAdd Z 12 13 x y e l i := ⟨_, rfl⟩
    have o1 : ∀ a, a ≠ 12 → a ≠ 13 → Z1 a = Z a := fun a q1 q2 => by rw [hZ1, rAd_o q1 q2]
    obtain ⟨Z2, hZ2⟩ : ∃ Z2, Z2 = sm_u (sm_u (sm_u (sm_u (sm_u (sm_u Z1 80 (1855 + 5 * N) x) 80 (1855 + 5 * N + 1) y) 80 (1855 + 5 * N + 2) e) 80 (1855 + 5 * N + 3) l) 80 (1855 + 5 * N + 4) i) 80 4 ((N : Int) + 1) := ⟨_, rfl⟩
    have o2 : ∀ a, a ≠ 80 → Z2 a = Z1 a := fun a q1 => by rw [hZ2, sm_u_row q1, sm_u_row q1, sm_u_row q1, sm_u_row q1, sm_u_row q1, sm_u_row q1]
    have e80 : ∀ k, Z2 80 k = if k = 4 then (N : Int) + 1 else if k = 1855 + 5 * N + 4 then i else if k = 1855 + 5 * N + 3 then l else if k = 1855 + 5 * N + 2 then e else if k = 1855 + 5 * N + 1 then y else if k = 1855 + 5 * N then x else Z 80 k := fun k => by rw [hZ2, sm_u_eq, sm_u_eq, sm_u_eq, sm_u_eq, sm_u_eq, sm_u_eq, o1 80 (by decide) (by decide)]
    have z12 : ∀ j, Z2 12 j = if j = 2 then (N : Int) + 1 else Z 12 j := fun j => by rw [o2 12 (by decide), hZ1, rAd_r (by decide) (by rw [e4, hN])]
    have z13 : ∀ j, Z2 13 j = if j = 5 * N + 4 then i else if j = 5 * N + 3 then l else if j = 5 * N + 2 then e else if j = 5 * N + 1 then y else if j = 5 * N then x else Z 13 j := fun j => by rw [o2 13 (by decide), hZ1, rAd_q (by decide) (by rw [e4, hN])]
    have hM : ∀ k, ¬ k = 4 → ¬ (1855 ≤ k ∧ k < 1900) → Z2 80 k = Z 80 k := fun k q1 q2 => by rw [e80, if_neg q1, if_neg (by omega), if_neg (by omega), if_neg (by omega), if_neg (by omega), if_neg (by omega)]
    refine okC_of (Z 80 4) Z1 Z2 (fun Q hQ => ?_) (fun Q hQ => ?_) ?_ (by rw [o2 _ (by decide), o1 _ (by decide) (by decide)])
    · refine c_swallow a1 sC a3.2.1 (by rw [e4]; exact i2.1) hx hy he hl hi (fun _ _ _ _ _ => ?_) (fun g => absurd ⟨⟨by rw [ew.1, ew.2]; exact t1, t2, t3, t4⟩, by rw [e4]; exact t5⟩ g)
      rw [e4, ← hZ1]
      exact hQ
    · have e1 : Z1 80 = Z 80 := o1 80 (by decide) (by decide)
      refine m_swallow a1 (szM_of (Z := Z1) a4 e1) (by rw [e1]; exact i2.1) hx hy he hl hi (fun _ _ _ _ _ => ?_) (fun g => absurd ⟨⟨by rw [e1]; exact t1, t2, t3, t4⟩, by rw [e1]; exact t5⟩ g)
      rw [hN] at hQ
      rw [e1, hN, show (1855 + 5 * (N : Int)).toNat = 1855 + 5 * N by omega, show (1855 + 5 * (N : Int) + 1).toNat = 1855 + 5 * N + 1 by omega, show (1855 + 5 * (N : Int) + 2).toNat = 1855 + 5 * N + 2 by omega, show (1855 + 5 * (N : Int) + 3).toNat = 1855 + 5 * N + 3 by omega, show (1855 + 5 * (N : Int) + 4).toNat = 1855 + 5 * N + 4 by omega, ← hZ2]
      exact hQ
    · have b0 := a4.1.1
      unfold szN at b0
      refine rAll_duchy (fun a q1 q2 => by rw [o2 a q2, o1 a (by omega) (by omega)]) (fun a ha => ?_) ⟨by rw [o2 19 (by decide), o1 19 (by decide) (by decide)], by rw [o2 20 (by decide), o1 20 (by decide) (by decide)]⟩ (invD_but 4 1855 1900 hM (by omega) (Or.inr (by omega)) (Or.inr (by omega)) (Or.inl ⟨?_, fun s hs => ?_⟩) (Or.inr (by omega)) (Or.inr (by omega)) (Or.inr (by omega)) a4) (rD_but 12 13 4 1855 1900 a4 (fun a q1 q2 => by rw [o2 a (by omega), o1 a (by omega) (by omega)]) hM (by omega) (by omega) (Or.inr (by omega)) (Or.inr (by omega)) (Or.inl ⟨?_, fun s hs c hc => ?_⟩) (Or.inr (by omega)) (Or.inr (by omega)) (Or.inr (by omega)) a5) h ⟨hM 0 (by omega) (by omega), hM 1 (by omega) (by omega)⟩
      · by_cases g : a = 12
        · rw [g, z12, if_neg (by decide)]
        · rw [o2 a (by omega), o1 a g (by omega)]
      · rw [e80, if_pos rfl]
        omega
      · rw [e80, if_pos rfl] at hs
        rw [hM 0 (by omega) (by omega), hM 1 (by omega) (by omega), e80, e80, e80, e80, e80]
        by_cases g : s = N
        · rw [g]
          rw [if_neg (show ¬ 1855 + 5 * N = 4 by omega), if_neg (show ¬ 1855 + 5 * N = 1855 + 5 * N + 4 by omega), if_neg (show ¬ 1855 + 5 * N = 1855 + 5 * N + 3 by omega), if_neg (show ¬ 1855 + 5 * N = 1855 + 5 * N + 2 by omega), if_neg (show ¬ 1855 + 5 * N = 1855 + 5 * N + 1 by omega), if_pos (show 1855 + 5 * N = 1855 + 5 * N from rfl), if_neg (show ¬ 1856 + 5 * N = 4 by omega), if_neg (show ¬ 1856 + 5 * N = 1855 + 5 * N + 4 by omega), if_neg (show ¬ 1856 + 5 * N = 1855 + 5 * N + 3 by omega), if_neg (show ¬ 1856 + 5 * N = 1855 + 5 * N + 2 by omega), if_pos (show 1856 + 5 * N = 1855 + 5 * N + 1 by omega), if_neg (show ¬ 1857 + 5 * N = 4 by omega), if_neg (show ¬ 1857 + 5 * N = 1855 + 5 * N + 4 by omega), if_neg (show ¬ 1857 + 5 * N = 1855 + 5 * N + 3 by omega), if_pos (show 1857 + 5 * N = 1855 + 5 * N + 2 by omega), if_neg (show ¬ 1858 + 5 * N = 4 by omega), if_neg (show ¬ 1858 + 5 * N = 1855 + 5 * N + 4 by omega), if_pos (show 1858 + 5 * N = 1855 + 5 * N + 3 by omega), if_neg (show ¬ 1859 + 5 * N = 4 by omega), if_pos (show 1859 + 5 * N = 1855 + 5 * N + 4 by omega)]
          exact ⟨t1, t2, t3, t4⟩
        · have := i2.2 s (by omega)
          repeat rw [if_neg (by omega)]
          exact this
      · rw [z12, e80, if_pos rfl, if_pos rfl]
      · rw [e80, if_pos rfl] at hs
        rw [e80, z13]
        by_cases g : s = N
        · rw [g, if_neg (show ¬ 1855 + 5 * N + c = 4 by omega)]
          have hc5 : c = 0 ∨ c = 1 ∨ c = 2 ∨ c = 3 ∨ c = 4 := by omega
          rcases hc5 with q | q | q | q | q
          · rw [q, Nat.add_zero, Nat.add_zero, if_neg (by omega), if_neg (by omega), if_neg (by omega), if_neg (by omega), if_pos rfl, if_neg (by omega), if_neg (by omega), if_neg (by omega), if_neg (by omega), if_pos (by omega)]
          · rw [q, if_neg (by omega), if_neg (by omega), if_neg (by omega), if_pos rfl, if_neg (by omega), if_neg (by omega), if_neg (by omega), if_pos rfl]
          · rw [q, if_neg (by omega), if_neg (by omega), if_pos rfl, if_neg (by omega), if_neg (by omega), if_pos rfl]
          · rw [q, if_neg (by omega), if_pos rfl, if_neg (by omega), if_pos rfl]
          · rw [q, if_pos rfl, if_pos rfl]
        · have := h5.2 s (by omega) c hc
          repeat rw [if_neg (by omega)]
          exact this
  · refine okC_of (-1) Z Z (fun Q hQ => ?_) (fun Q hQ => ?_) h rfl
    · exact c_swallow a1 sC a3.2.1 (by rw [e4]; exact i2.1) hx hy he hl hi (fun g1 g2 g3 g4 g5 => absurd ⟨⟨by rw [← ew.1, ← ew.2]; exact g1, g2, g3, g4⟩, by rw [← e4]; exact g5⟩ ht) (fun _ => hQ)
    · exact m_swallow a1 sM i2.1 hx hy he hl hi (fun g1 g2 g3 g4 g5 => absurd ⟨⟨g1, g2, g3, g4⟩, g5⟩ ht) (fun _ => hQ)
/-- three numbers added to a list -/
theorem k_three (h : rAll Z Rf K n) {r q cnt base cap : Nat} (hrq : (r = 14 ∧ q = 15 ∧ cnt = 7 ∧ base = 1900 ∧ cap = 6) ∨ (r = 16 ∧ q = 17 ∧ cnt = 8 ∧ base = 1920 ∧ cap = 20)) {N : Nat} (hN : Z 80 cnt = (N : Int)) (hNc : N < cap) {a b e : Int} (h7 : r = 14 → isC (Z 80 0) (Z 80 1) a = true ∧ (0 ≤ b ∧ b ≤ 99) ∧ 0 ≤ e ∧ e ≤ 10) (h8 : r = 16 → isC (Z 80 0) (Z 80 1) a = true ∧ isC (Z 80 0) (Z 80 1) b = true ∧ (e = 0 ∨ e = 1)) : rAll (sm_u (sm_u (sm_u (sm_u (rAdd Z r q a b e 0 0) 80 (base + 3 * N) a) 80 (base + 3 * N + 1) b) 80 (base + 3 * N + 2) e) 80 cnt ((N : Int) + 1)) Rf K n := by
  have h0 := h
  obtain ⟨a1, a2, a3, a4, a5, _⟩ := h0
  have h6' := a5.2.2.2.2.2.1
  have h7' := a5.2.2.2.2.2.2.1
  have i9 := a4.2.2.2.2.2.2.2.2.1
  have i10 := a4.2.2.2.2.2.2.2.2.2.1
  have hrN : Z r 2 = (N : Int) := by
    rcases hrq with g | g
    · rw [g.1, ← hN, g.2.2.1]; exact h6'.1
    · rw [g.1, ← hN, g.2.2.1]; exact h7'.1
  obtain ⟨Z1, hZ1⟩ : ∃ Z1, Z1 = rAdd Z r q a b e 0 0 := ⟨_, rfl⟩
  have o1 : ∀ x, x ≠ r → x ≠ q → Z1 x = Z x := fun x q1 q2 => by rw [hZ1, rAd_o q1 q2]
  rw [← hZ1]
  obtain ⟨Z2, hZ2⟩ : ∃ Z2, Z2 = sm_u (sm_u (sm_u (sm_u Z1 80 (base + 3 * N) a) 80 (base + 3 * N + 1) b) 80 (base + 3 * N + 2) e) 80 cnt ((N : Int) + 1) := ⟨_, rfl⟩
  rw [← hZ2]
  have o2 : ∀ x, x ≠ 80 → Z2 x = Z1 x := fun x q1 => by rw [hZ2, sm_u_row q1, sm_u_row q1, sm_u_row q1, sm_u_row q1]
  have e80 : ∀ k, Z2 80 k = if k = cnt then (N : Int) + 1 else if k = base + 3 * N + 2 then e else if k = base + 3 * N + 1 then b else if k = base + 3 * N then a else Z 80 k := fun k => by rw [hZ2, sm_u_eq, sm_u_eq, sm_u_eq, sm_u_eq, o1 80 (by omega) (by omega)]
  have zr : ∀ j, Z2 r j = if j = 2 then (N : Int) + 1 else Z r j := fun j => by rw [o2 r (by omega), hZ1, rAd_r (by omega) hrN]
  have zq : ∀ j, Z2 q j = if j = 5 * N + 4 then 0 else if j = 5 * N + 3 then 0 else if j = 5 * N + 2 then e else if j = 5 * N + 1 then b else if j = 5 * N then a else Z q j := fun j => by rw [o2 q (by omega), hZ1, rAd_q (by omega) hrN]
  have val : ∀ i : Nat, i < N + 1 → ∀ c, c < 3 → Z2 80 (base + 3 * i + c) = if i = N then (if c = 0 then a else if c = 1 then b else e) else Z 80 (base + 3 * i + c) := by
    intro i hi c hc
    rw [e80]
    by_cases g : i = N
    · rw [if_pos g, g]
      have hc3 : c = 0 ∨ c = 1 ∨ c = 2 := by omega
      rcases hc3 with w | w | w
      · rw [w, Nat.add_zero, if_neg (by omega), if_neg (by omega), if_neg (by omega), if_pos rfl, if_pos rfl]
      · rw [w, if_neg (by omega), if_neg (by omega), if_pos rfl, if_neg (by omega), if_pos rfl]
      · rw [w, if_neg (by omega), if_pos rfl, if_neg (by omega), if_neg (by omega)]
    · rw [if_neg g, if_neg (by omega), if_neg (by omega), if_neg (by omega), if_neg (by omega)]
  have valq : ∀ i : Nat, i < N + 1 → ∀ c, c < 3 → Z2 q (5 * i + c) = if i = N then (if c = 0 then a else if c = 1 then b else e) else Z q (5 * i + c) := by
    intro i hi c hc
    rw [zq]
    by_cases g : i = N
    · rw [if_pos g, g]
      have hc3 : c = 0 ∨ c = 1 ∨ c = 2 := by omega
      rcases hc3 with w | w | w
      · rw [w, Nat.add_zero, if_neg (by omega), if_neg (by omega), if_neg (by omega), if_neg (by omega), if_pos rfl, if_pos rfl]
      · rw [w, if_neg (by omega), if_neg (by omega), if_neg (by omega), if_pos rfl, if_neg (by omega), if_pos rfl]
      · rw [w, if_neg (by omega), if_neg (by omega), if_pos rfl, if_neg (by omega), if_neg (by omega)]
    · rw [if_neg g, if_neg (by omega), if_neg (by omega), if_neg (by omega), if_neg (by omega), if_neg (by omega)]
  have hfr : ∀ x, (x < 1 ∨ 25 < x) → ¬ x = 80 → Z2 x = Z x := fun x q1 q2 => by rw [o2 x q2, o1 x (by omega) (by omega)]
  have hs0 : ∀ x, x = 10 ∨ x = 12 ∨ x = 14 ∨ x = 16 ∨ x = 24 → Z2 x 0 = Z x 0 := by
    intro x hx
    by_cases g : x = r
    · rw [g, zr, if_neg (by decide)]
    · rw [o2 x (by omega), o1 x g (by omega)]
  have hy : Z2 19 = Z 19 ∧ Z2 20 = Z 20 := ⟨by rw [o2 19 (by decide), o1 19 (by omega) (by omega)], by rw [o2 20 (by decide), o1 20 (by omega) (by omega)]⟩
  rcases hrq with ⟨g1, g2, g3, g4, g5⟩ | ⟨g1, g2, g3, g4, g5⟩
  · rw [g3, g4] at e80
    rw [g4] at val
    rw [g2] at valq
    rw [g1] at zr
    rw [g3] at hN
    have hM : ∀ k, ¬ k = 7 → ¬ (1900 ≤ k ∧ k < 1920) → Z2 80 k = Z 80 k := fun k q1 q2 => by rw [e80, if_neg q1, if_neg (by omega), if_neg (by omega), if_neg (by omega)]
    refine rAll_duchy hfr hs0 hy (invD_but 7 1900 1920 hM (by omega) (Or.inr (by omega)) (Or.inr (by omega)) (Or.inr (by omega)) (Or.inl ⟨?_, fun i hi => ?_⟩) (Or.inr (by omega)) (Or.inr (by omega)) a4) (rD_but 14 15 7 1900 1920 a4 (fun x q1 q2 => by rw [o2 x (by omega), o1 x (by omega) (by omega)]) hM (by omega) (by omega) (Or.inr (by omega)) (Or.inr (by omega)) (Or.inr (by omega)) (Or.inl ⟨?_, fun i hi c hc => ?_⟩) (Or.inr (by omega)) (Or.inr (by omega)) a5) h ⟨hM 0 (by omega) (by omega), hM 1 (by omega) (by omega)⟩
    · rw [e80, if_pos rfl]
      omega
    · rw [e80, if_pos rfl] at hi
      have v0 := val i (by omega) 0 (by omega)
      have v1 := val i (by omega) 1 (by omega)
      have v2 := val i (by omega) 2 (by omega)
      rw [show 1901 + 3 * i = 1900 + 3 * i + 1 by omega, show 1902 + 3 * i = 1900 + 3 * i + 2 by omega, show 1900 + 3 * i = 1900 + 3 * i + 0 by omega, v0, v1, v2]
      by_cases g : i = N
      · rw [if_pos g, if_pos g, if_pos g, if_pos rfl, if_neg (by decide), if_pos rfl, if_neg (by decide), if_neg (by decide)]
        exact h7 g1
      · rw [if_neg g, if_neg g, if_neg g]
        have := i9.2 i (by omega)
        rw [show 1901 + 3 * i = 1900 + 3 * i + 1 by omega, show 1902 + 3 * i = 1900 + 3 * i + 2 by omega] at this
        exact this
    · rw [zr, e80, if_pos rfl, if_pos rfl]
    · rw [e80, if_pos rfl] at hi
      rw [val i (by omega) c hc]
      refine (valq i (by omega) c hc).trans ?_
      by_cases g : i = N
      · rw [if_pos g, if_pos g]
      · rw [if_neg g, if_neg g]
        exact h6'.2 i (by omega) c hc
  · rw [g3, g4] at e80
    rw [g4] at val
    rw [g2] at valq
    rw [g1] at zr
    rw [g3] at hN
    have hM : ∀ k, ¬ k = 8 → ¬ (1920 ≤ k ∧ k < 1985) → Z2 80 k = Z 80 k := fun k q1 q2 => by rw [e80, if_neg q1, if_neg (by omega), if_neg (by omega), if_neg (by omega)]
    refine rAll_duchy hfr hs0 hy (invD_but 8 1920 1985 hM (by omega) (Or.inr (by omega)) (Or.inr (by omega)) (Or.inr (by omega)) (Or.inr (by omega)) (Or.inl ⟨?_, fun i hi => ?_⟩) (Or.inr (by omega)) a4) (rD_but 16 17 8 1920 1985 a4 (fun x q1 q2 => by rw [o2 x (by omega), o1 x (by omega) (by omega)]) hM (by omega) (by omega) (Or.inr (by omega)) (Or.inr (by omega)) (Or.inr (by omega)) (Or.inr (by omega)) (Or.inl ⟨?_, fun i hi c hc => ?_⟩) (Or.inr (by omega)) a5) h ⟨hM 0 (by omega) (by omega), hM 1 (by omega) (by omega)⟩
    · rw [e80, if_pos rfl]
      omega
    · rw [e80, if_pos rfl] at hi
      have v0 := val i (by omega) 0 (by omega)
      have v1 := val i (by omega) 1 (by omega)
      have v2 := val i (by omega) 2 (by omega)
      rw [show 1921 + 3 * i = 1920 + 3 * i + 1 by omega, show 1922 + 3 * i = 1920 + 3 * i + 2 by omega, show 1920 + 3 * i = 1920 + 3 * i + 0 by omega, v0, v1, v2]
      by_cases g : i = N
      · rw [if_pos g, if_pos g, if_pos g, if_pos rfl, if_neg (by decide), if_pos rfl, if_neg (by decide), if_neg (by decide)]
        exact h8 g1
      · rw [if_neg g, if_neg g, if_neg g]
        have := i10.2 i (by omega)
        rw [show 1921 + 3 * i = 1920 + 3 * i + 1 by omega, show 1922 + 3 * i = 1920 + 3 * i + 2 by omega] at this
        exact this
    · rw [zr, e80, if_pos rfl, if_pos rfl]
    · rw [e80, if_pos rfl] at hi
      rw [val i (by omega) c hc]
      refine (valq i (by omega) c hc).trans ?_
      by_cases g : i = N
      · rw [if_pos g, if_pos g]
      · rw [if_neg g, if_neg g]
        exact h7'.2 i (by omega) c hc
end CALLS3
