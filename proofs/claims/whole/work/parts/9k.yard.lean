/-! Yards, suits, thefts. -/
section YARDS
variable {d n z : Nat} {Rf : Nat → Nat → Option Nat} {K : Nat → Nat × Nat} {Z : Nat → Nat → Int}
theorem k_yard (h : rAll Z Rf K n) {x y e w : Int} (hx : aI x) (hy : aI y) (he : aI e) (hw : aI w) : okC (d + 2) 100 178 [.inl x, .inl y, .inl e, .inl w] Z Rf K n z := by
  have h0 := h
  obtain ⟨a1, a2, a3, a4, a5, _⟩ := h0
  have sC := szC_of a4 a5
  have sM := szM_of (Z := Z) a4 rfl
  have ew : Z 1 0 = Z 80 0 ∧ Z 1 1 = Z 80 1 := ⟨a5.1.1, a5.1.2.1⟩
  have hth := a5.2.2.2.2.2.2.2.2
  refine okC_of (if yF (Z 80 0) (Z 80 1) x y e = -1 ∨ ¬ (0 ≤ w ∧ w ≤ 1) then -2 else if w = 0 then Z 80 (850 + yF (Z 80 0) (Z 80 1) x y e).toNat else Z 80 (1092 + yF (Z 80 0) (Z 80 1) x y e).toNat) Z Z (fun Q hQ => ?_) (fun Q hQ => ?_) h rfl
  · rw [c_yard (d := d + 1) a1 a2 sC hx hy he hw, ew.1, ew.2]
    by_cases g : yF (Z 80 0) (Z 80 1) x y e = -1 ∨ ¬ (0 ≤ w ∧ w ≤ 1)
    · rw [if_pos g]
      rw [if_pos g] at hQ
      exact hQ
    · have hy1 : ¬ yF (Z 80 0) (Z 80 1) x y e = -1 := fun q => g (Or.inl q)
      have hb := yF_nat x y e sM.1.2 sM.2.2 hy1
      obtain ⟨p, hp⟩ : ∃ p : Nat, yF (Z 80 0) (Z 80 1) x y e = (p : Int) := ⟨(yF (Z 80 0) (Z 80 1) x y e).toNat, by omega⟩
      rw [hp] at hb hQ g ⊢
      have e1 := hth.1 p (by omega)
      have e2 := hth.2.1 p (by omega)
      rw [if_neg g]
      rw [if_neg g, show (850 + (p : Int)).toNat = 850 + p by omega, show (1092 + (p : Int)).toNat = 1092 + p by omega, ← e1, ← e2] at hQ
      exact hQ
  · rw [m_yard a1 sM hx hy he hw]
    exact hQ
theorem k_suit (h : rAll Z Rf K n) {i w : Int} (hi : aI i) (hw : aI w) : okC (d + 2) 101 180 [.inl i, .inl w] Z Rf K n z := by
  have h0 := h
  obtain ⟨a1, a2, a3, a4, a5, _⟩ := h0
  have h4 := a5.2.2.2.1
  have i8 := a4.2.2.2.2.2.2.2.1
  have i11 := a4.2.2.2.2.2.2.2.2.2.2
  have f4 := a4.1.2.2.2.1
  have hth := a5.2.2.2.2.2.2.2.2.2.2
  have hth2 : Z 24 2 = Z 80 6 ∧ ∀ j : Nat, (j : Int) < Z 80 6 → ∀ c, c < 5 → Z 25 (5 * j + c) = Z 80 (1340 + 5 * j + c) := by
    rcases hth with g | g
    · exact absurd g.1 (by decide)
    · exact g.2.2
  have e5 : Z 10 2 = Z 80 5 := h4.1
  have h11 : ∀ j : Nat, (j : Int) < Z 80 5 → Z 11 (5 * j) = Z 80 (1840 + 2 * j) ∧ Z 11 (5 * j + 1) = Z 80 (1841 + 2 * j) := h4.2
  obtain ⟨N, hN⟩ : ∃ N : Nat, Z 80 5 = (N : Int) := ⟨(Z 80 5).toNat, by omega⟩
  have hN6 : N ≤ 6 := by omega
  have cc := fun Q => c_suit (d := d) (n := n) (z := z) (Z := Z) (Q := Q) a1 N (by rw [e5, hN]) hN6 (by rw [hth2.1]; exact f4) hi hw (fun j hj => by
    have q := h11 j (by omega)
    have q2 := i8.2 j (by omega)
    omega) (fun j hj => by
    rw [hth2.1] at hj
    have q := hth2.2 j hj
    have q2 := i11 j hj
    have q3 := q 2 (by omega)
    have q4 := q 3 (by omega)
    rw [show 1340 + 5 * j + 2 = 1342 + 5 * j by omega] at q3
    rw [show 1340 + 5 * j + 3 = 1343 + 5 * j by omega] at q4
    omega)
  have mm := fun Q => m_suit (d := d + 1) (n := n) (z := z) (Z := Z) (Q := Q) a1 N hN hN6 f4 hi hw (fun j hj => by have := i8.2 j (by omega); omega) (fun j hj => by have := i11 j hj; omega)
  refine okC_of (if (0 ≤ i ∧ i < Z 80 6) ∧ 0 ≤ w ∧ w ≤ 5 then (if w < 5 then Z 80 (1340 + 5 * i + w).toNat else nearR (fun j => ab (Z 80 (1840 + 2 * j)) (Z 80 (1342 + 5 * i).toNat) + ab (Z 80 (1841 + 2 * j)) (Z 80 (1343 + 5 * i).toNat)) N 0 (-1) 0) else -1) Z Z (fun Q hQ => ?_) (fun Q hQ => by rw [mm]; exact hQ) h rfl
  rw [cc, hth2.1]
  by_cases g : (0 ≤ i ∧ i < Z 80 6) ∧ 0 ≤ w ∧ w ≤ 5
  · rw [if_pos g]
    rw [if_pos g] at hQ
    obtain ⟨I, hI⟩ : ∃ I : Nat, i = (I : Int) := ⟨i.toNat, by omega⟩
    have hq := hth2.2 I (by omega)
    by_cases g5 : w < 5
    · rw [if_pos g5]
      rw [if_pos g5] at hQ
      have := hq w.toNat (by omega)
      rw [show (5 * i + w).toNat = 5 * I + w.toNat by omega, this]
      rw [show (1340 + 5 * i + w).toNat = 1340 + 5 * I + w.toNat by omega] at hQ
      exact hQ
    · rw [if_neg g5]
      rw [if_neg g5] at hQ
      have q2 := hq 2 (by omega)
      have q3 := hq 3 (by omega)
      rw [show (5 * i + 2).toNat = 5 * I + 2 by omega, show (5 * i + 3).toNat = 5 * I + 3 by omega, q2, q3]
      rw [show (1342 + 5 * i).toNat = 1340 + 5 * I + 2 by omega, show (1343 + 5 * i).toNat = 1340 + 5 * I + 3 by omega] at hQ
      rw [nearR_congr N 0 (-1) 0 (g := fun j => ab (Z 80 (1840 + 2 * j)) (Z 80 (1340 + 5 * I + 2)) + ab (Z 80 (1841 + 2 * j)) (Z 80 (1340 + 5 * I + 3))) (fun j _ hj => by
        have q := h11 j (by omega)
        show ab (Z 11 (5 * j)) _ + ab (Z 11 (5 * j + 1)) _ = _
        rw [q.1, q.2])]
      exact hQ
  · rw [if_neg g]
    rw [if_neg g] at hQ
    exact hQ
theorem k_steal (h : rAll Z Rf K n) {w f t : Int} (hw : aI w) (hf : aI f) (ht : aI t) : okC (d + 1) 102 181 [.inl w, .inl f, .inl t] Z Rf K n z := by
  have h0 := h
  obtain ⟨a1, a2, a3, a4, a5, _⟩ := h0
  have h5 := a5.2.2.2.2.1
  have i2 := a4.2.1.1
  have f2 := a4.1.2.1
  have f3 := a4.1.2.2.1
  have f4 := a4.1.2.2.2.1
  have i11 := a4.2.2.2.2.2.2.2.2.2.2
  have hth := a5.2.2.2.2.2.2.2.2
  have e4 : Z 12 2 = Z 80 4 := h5.1
  have x22 : ∀ k, k < 242 → Z 22 k = Z 80 (850 + k) := hth.1
  have x23 : ∀ k, k < 242 → Z 23 k = Z 80 (1092 + k) := hth.2.1
  have b80 : ∀ j, j < 242 → aI (Z 80 (850 + j)) ∧ aI (Z 80 (1092 + j)) := fun j hj => by
    have q1 := f2 j hj
    have q2 := f3 j hj
    unfold aI
    omega
  have bC : ∀ j, j < 242 → aI (Z 22 j) ∧ aI (Z 23 j) := fun j hj => by rw [x22 j hj, x23 j hj]; exact b80 j hj
  have hP : ∀ j, j < 242 → stP Z 22 23 0 0 w f t j = stP Z 80 80 850 1092 w f t j := fun j hj => by
    unfold stP
    rw [Nat.zero_add, x22 j hj, x23 j hj]
  by_cases g : (0 ≤ w ∧ w < Z 80 4) ∧ 0 ≤ f ∧ f ≤ t
  · obtain ⟨P, hPd⟩ : ∃ P, P = stP Z 80 80 850 1092 w f t := ⟨_, rfl⟩
    obtain ⟨Z1, hZ1⟩ : ∃ Z1, Z1 = stZ Z 22 23 0 0 (stP Z 22 23 0 0 w f t) 0 := ⟨_, rfl⟩
    have o1 : ∀ a, a ≠ 22 → a ≠ 23 → Z1 a = Z a := fun a q1 q2 => by
      funext j
      rw [hZ1]
      show (if _ then _ else _) = _
      rw [if_neg (by omega)]
    have v22 : ∀ j, j < 242 → Z1 22 j = if P j = true then -1 else Z 22 j := fun j hj => by
      rw [hZ1]
      show (if (22 = 22 ∧ 0 + 0 ≤ j ∧ j < 0 + 242 ∧ stP Z 22 23 0 0 w f t (j - 0) = true) ∨ (22 = 23 ∧ _) then _ else _) = _
      rw [Nat.sub_zero, hP j hj, ← hPd]
      by_cases q : P j = true
      · rw [if_pos q, if_pos (Or.inl ⟨rfl, by omega, by omega, q⟩)]
      · rw [if_neg q, if_neg (fun s => s.elim (fun s => q s.2.2.2) (fun s => absurd s.1 (by decide)))]
    have v23 : ∀ j, j < 242 → Z1 23 j = if P j = true then -1 else Z 23 j := fun j hj => by
      rw [hZ1]
      show (if (23 = 22 ∧ _) ∨ (23 = 23 ∧ 0 + 0 ≤ j ∧ j < 0 + 242 ∧ stP Z 22 23 0 0 w f t (j - 0) = true) then _ else _) = _
      rw [Nat.sub_zero, hP j hj, ← hPd]
      by_cases q : P j = true
      · rw [if_pos q, if_pos (Or.inr ⟨rfl, by omega, by omega, q⟩)]
      · rw [if_neg q, if_neg (fun s => s.elim (fun s => absurd s.1 (by decide)) (fun s => q s.2.2.2))]
    have e80 : Z1 80 = Z 80 := o1 80 (by decide) (by decide)
    have hP1 : stP Z1 80 80 850 1092 w f t = P := by
      funext j
      rw [hPd]
      unfold stP
      rw [e80]
    obtain ⟨Z2, hZ2⟩ : ∃ Z2, Z2 = stZ Z1 80 80 850 1092 P 0 := ⟨_, rfl⟩
    have o2 : ∀ a, a ≠ 80 → Z2 a = Z1 a := fun a q1 => by
      funext j
      rw [hZ2]
      show (if _ then _ else _) = _
      rw [if_neg (by omega)]
    have w1 : ∀ j, j < 242 → Z2 80 (850 + j) = if P j = true then -1 else Z 80 (850 + j) := fun j hj => by
      rw [hZ2]
      show (if (80 = 80 ∧ 850 + 0 ≤ 850 + j ∧ 850 + j < 850 + 242 ∧ P (850 + j - 850) = true) ∨ (80 = 80 ∧ 1092 + 0 ≤ 850 + j ∧ 850 + j < 1092 + 242 ∧ P (850 + j - 1092) = true) then _ else _) = _
      rw [show 850 + j - 850 = j by omega, e80]
      by_cases q : P j = true
      · rw [if_pos q, if_pos (Or.inl ⟨rfl, by omega, by omega, q⟩)]
      · rw [if_neg q, if_neg (fun s => s.elim (fun s => q s.2.2.2) (fun s => absurd s.2.1 (by omega)))]
    have w2 : ∀ j, j < 242 → Z2 80 (1092 + j) = if P j = true then -1 else Z 80 (1092 + j) := fun j hj => by
      rw [hZ2]
      show (if (80 = 80 ∧ 850 + 0 ≤ 1092 + j ∧ 1092 + j < 850 + 242 ∧ P (1092 + j - 850) = true) ∨ (80 = 80 ∧ 1092 + 0 ≤ 1092 + j ∧ 1092 + j < 1092 + 242 ∧ P (1092 + j - 1092) = true) then _ else _) = _
      rw [show 1092 + j - 1092 = j by omega, e80]
      by_cases q : P j = true
      · rw [if_pos q, if_pos (Or.inr ⟨rfl, by omega, by omega, q⟩)]
      · rw [if_neg q, if_neg (fun s => s.elim (fun s => absurd s.2.2.1 (by omega)) (fun s => q s.2.2.2))]
    have hM : ∀ k, ¬ k = 19 → ¬ (850 ≤ k ∧ k < 1334) → Z2 80 k = Z 80 k := fun k q1 q2 => by
      rw [hZ2, ← e80]
      show (if _ then _ else _) = _
      rw [if_neg (by omega)]
    refine okC_of (cntR P 0 242) Z1 Z2 (fun Q hQ => ?_) (fun Q hQ => ?_) ?_ (by rw [o2 _ (by decide), o1 _ (by decide) (by decide)])
    · rw [c_steal a1 (by rw [e4]; exact i2) hw hf ht bC, e4, if_pos g, ← hZ1, cntR_congr 242 0 (P' := P) (fun j _ hj => by rw [hP j (by omega), ← hPd])]
      exact hQ
    · rw [m_steal a1 (by rw [e80]; exact i2) hw hf ht (by rw [e80]; exact b80), hP1, e80, if_pos g, ← hZ2]
      exact hQ
    · refine rAll_duchy (fun a q1 q2 => by rw [o2 a q2, o1 a (by omega) (by omega)]) (fun a ha => by rw [o2 a (by omega), o1 a (by omega) (by omega)]) ⟨by rw [o2 19 (by decide), o1 19 (by decide) (by decide)], by rw [o2 20 (by decide), o1 20 (by decide) (by decide)]⟩ (invD_but 19 850 1334 hM (by omega) (Or.inr (by omega)) (Or.inr (by omega)) (Or.inr (by omega)) (Or.inr (by omega)) (Or.inr (by omega)) (Or.inl ⟨fun k hk => ?_, fun k hk => ?_, ?_, fun i hi => ?_⟩) a4) (rD_but 22 23 19 850 1334 a4 (fun a q1 q2 => by rw [o2 a (by omega), o1 a (by omega) (by omega)]) hM (by omega) (by omega) (Or.inr (by omega)) (Or.inr (by omega)) (Or.inr (by omega)) (Or.inr (by omega)) (Or.inr (by omega)) (Or.inl ⟨fun k hk => ?_, fun k hk => ?_, ?_⟩) a5) h ⟨hM 0 (by omega) (by omega), hM 1 (by omega) (by omega)⟩
      · rw [w1 k hk]
        by_cases q : P k = true
        · rw [if_pos q]; omega
        · rw [if_neg q]; exact f2 k hk
      · rw [w2 k hk]
        by_cases q : P k = true
        · rw [if_pos q]; omega
        · rw [if_neg q]; exact f3 k hk
      · rw [hM 6 (by omega) (by omega)]; exact f4
      · rw [hM 6 (by omega) (by omega)] at hi
        rw [hM _ (by omega) (by omega), hM _ (by omega) (by omega)]
        exact i11 i hi
      · rw [w1 k hk, o2 _ (by decide)]
        refine (v22 k hk).trans ?_
        rw [x22 k hk]
      · rw [w2 k hk, o2 _ (by decide)]
        refine (v23 k hk).trans ?_
        rw [x23 k hk]
      · rcases hth.2.2 with b3 | b3
        · exact absurd b3.1 (by decide)
        · refine Or.inr ⟨rfl, by rw [o2 _ (by decide), o1 _ (by decide) (by decide)]; exact b3.2.1, by rw [o2 _ (by decide), o1 _ (by decide) (by decide), hM 6 (by omega) (by omega)]; exact b3.2.2.1, fun i hi c hc => ?_⟩
          rw [hM 6 (by omega) (by omega)] at hi
          rw [hM _ (by omega) (by omega), o2 _ (by decide), o1 _ (by decide) (by decide)]
          exact b3.2.2.2 i hi c hc
  · refine okC_of (-1) Z Z (fun Q hQ => ?_) (fun Q hQ => ?_) h rfl
    · rw [c_steal a1 (by rw [e4]; exact i2) hw hf ht bC, e4, if_neg g]
      exact hQ
    · rw [m_steal a1 i2 hw hf ht b80, if_neg g]
      exact hQ
end YARDS
