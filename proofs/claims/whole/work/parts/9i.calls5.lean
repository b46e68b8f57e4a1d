/-! Ponds changed and changed back, the tape. -/
/-- the same, where the class's answer is any of some -/
def okR (d j m : Nat) (as : List sm_V) (Z : Nat → Nat → Int) (Rf : Nat → Nat → Option Nat) (K : Nat → Nat × Nat) (n z : Nat) : Prop := ∀ Q : Option sm_V → sm_S → Prop, (∀ v Z1 Rf1 K1 n1 z1, (∀ Q2 : Option sm_V → sm_S → Prop, (∀ Z2, rAll Z2 Rf1 K1 n1 → Z2 4000000 = Z 4000000 → Q2 (some (.inl v)) (Z2, Rf1, K1, n1, z1)) → sm_call d m (.inr (some 79) :: as) (Z1, Rf1, K1, n1, z1) Q2) → (n1 ≤ n + 2 ∧ z1 ≤ z + 500) → K1 4000000 = K 4000000 → Q (some (.inl v)) (Z1, Rf1, K1, n1, z1)) → sm_call d j (.inr (some 0) :: as) (Z, Rf, K, n, z) Q
theorem okR_of {d j m : Nat} {as : List sm_V} {Z : Nat → Nat → Int} {Rf : Nat → Nat → Option Nat} {K : Nat → Nat × Nat} {n z : Nat} (h : okC d j m as Z Rf K n z) : okR d j m as Z Rf K n z := by
  obtain ⟨v, Z1, Rf1, K1, n1, z1, Z2, h1, h2, h3, h4, h5, h6⟩ := h
  exact fun Q hQ => h1 Q (hQ v Z1 Rf1 K1 n1 z1 (fun Q2 hQ2 => h2 Q2 (hQ2 Z2 h3 h5)) h4 h6)
section CALLS5
variable {d n z : Nat} {Rf : Nat → Nat → Option Nat} {K : Nat → Nat × Nat} {Z : Nat → Nat → Int}
theorem k_undo (h : rAll Z Rf K n) : okC (d + 1) 88 131 [] Z Rf K n z := by
  have h0 := h
  obtain ⟨a1, a2, a3, a4, a5, a6, a7, a8, a9, a10, _⟩ := h0
  have cb : 0 ≤ Z 0 12 ∧ Z 0 12 ≤ 10 := by rw [a7.1]; exact a7.2.1
  have sC := szC_of a4 a5
  have hC : ∀ j : Nat, (j : Int) < Z 0 12 → isC (Z 1 0) (Z 1 1) (Z 78 j) = true := fun j hj => by
    rw [a7.1] at hj
    rw [(a7.2.2 j hj).1, a5.1.1, a5.1.2.1]
    exact (a7.2.2 j hj).2
  have hMc : ∀ j : Nat, (j : Int) < Z 79 4 → 0 ≤ Z 83 j ∧ Z 83 j < 100 := fun j hj => isC_bd (a7.2.2 j hj).2
  by_cases ht : Z 79 4 = 0
  · refine okC_of 0 Z Z (fun Q hQ => ?_) (fun Q hQ => ?_) h rfl
    · rw [c_undo a1 sC cb hC, a7.1, if_pos ht]
      exact hQ
    · rw [m_undo a1 a7.2.1 hMc, if_pos ht]
      exact hQ
  · obtain ⟨N, hN⟩ : ∃ N : Nat, Z 79 4 = (N : Int) + 1 := ⟨(Z 79 4 - 1).toNat, by have := a7.2.1; omega⟩
    have hNt : (Z 79 4 - 1).toNat = N := by omega
    have h83 := a7.2.2 N (by omega)
    have b83 := hMc N (by omega)
    obtain ⟨p, hp⟩ : ∃ p : Nat, p = (Z 83 N).toNat := ⟨_, rfl⟩
    have hp100 : p < 100 := by omega
    have e5 : Z 5 p = Z 80 (120 + p) := (a5.2.1 p hp100).2.2.2.1
    have g5 := (gridB a4 p hp100).2.1
    obtain ⟨v, hv⟩ : ∃ v, v = 1 - Z 80 (120 + p) := ⟨_, rfl⟩
    obtain ⟨Z1, hZ1⟩ : ∃ Z1, Z1 = sm_u (sm_u Z 0 12 (N : Int)) 5 p v := ⟨_, rfl⟩
    have o1 : ∀ a, a ≠ 0 → a ≠ 5 → Z1 a = Z a := fun a q1 q2 => by rw [hZ1, sm_u_row q2, sm_u_row q1]
    obtain ⟨Z2, hZ2⟩ : ∃ Z2, Z2 = sm_u (sm_u Z1 79 4 (N : Int)) 80 (120 + p) v := ⟨_, rfl⟩
    have o2 : ∀ a, a ≠ 79 → a ≠ 80 → Z2 a = Z1 a := fun a q1 q2 => by rw [hZ2, sm_u_row q2, sm_u_row q1]
    have w80 : ∀ k, k < 20 → Z2 80 k = Z 80 k := fun k hk => by rw [hZ2, sm_u_eq, if_neg (by omega), sm_u_row (by decide), o1 80 (by decide) (by decide)]
    have r0 : ∀ j, Z2 0 j = if j = 12 then (N : Int) else Z 0 j := fun j => by rw [o2 0 (by decide) (by decide), hZ1, sm_u_row (by decide), sm_u_eq]
    have r79 : ∀ j, Z2 79 j = if j = 4 then (N : Int) else Z 79 j := fun j => by rw [hZ2, sm_u_row (by decide), sm_u_eq, o1 79 (by decide) (by decide)]
    refine okC_of 1 Z1 Z2 (fun Q hQ => ?_) (fun Q hQ => ?_) (rAll_side (Z := sm_u (sm_u Z 5 p v) 80 (120 + p) v) (fun a q1 q2 q3 q4 q5 q6 => ?_) ⟨?_, ?_, ?_⟩ ?_ ?_ ?_ (k_cell h (row := 5) (base := 120) (by omega) hp100 (by omega))) (by rw [o2 _ (by decide) (by decide), o1 _ (by decide) (by decide)])
    · rw [c_undo a1 sC cb hC, a7.1, if_neg ht, hNt, h83.1, ← hp, e5, ← hv, show Z 79 4 - 1 = (N : Int) by omega, ← hZ1]
      exact hQ
    · rw [m_undo a1 (by rw [o1 79 (by decide) (by decide)]; exact a7.2.1) (by rw [o1 79 (by decide) (by decide), o1 83 (by decide) (by decide)]; exact hMc), o1 79 (by decide) (by decide), o1 83 (by decide) (by decide), if_neg ht, hNt, show (120 + Z 83 N).toNat = 120 + p by omega, o1 80 (by decide) (by decide), ← hv, show Z 79 4 - 1 = (N : Int) by omega, ← hZ2]
      exact hQ
    · by_cases g80 : a = 80
      · rw [g80, hZ2]
        funext j
        rw [sm_u_eq, sm_u_eq, sm_u_row (by decide), sm_u_row (by decide), o1 80 (by decide) (by decide)]
      · rw [o2 a q4 g80, sm_u_row g80, hZ1]
        by_cases g : a = 5
        · rw [g]
          funext j
          rw [sm_u_eq, sm_u_eq, sm_u_row (by decide)]
        · rw [sm_u_row g, sm_u_row g, sm_u_row q1]
    · rw [r0, if_neg (by decide), sm_u_row (by decide), sm_u_row (by decide)]
    · rw [r79, if_neg (by decide), sm_u_row (by decide), sm_u_row (by decide)]
    · rw [r79, if_neg (by decide), sm_u_row (by decide), sm_u_row (by decide)]
    · unfold rCh at a7 ⊢
      rw [r0, r79, if_pos rfl, if_pos rfl, o2 78 (by decide) (by decide), o2 83 (by decide) (by decide), o1 78 (by decide) (by decide), o1 83 (by decide) (by decide), w80 0 (by omega), w80 1 (by omega)]
      exact ⟨rfl, by omega, fun j hj => a7.2.2 j (by omega)⟩
    · unfold rTp at a8 ⊢
      rw [r0, r79, if_neg (by decide), if_neg (by decide), o2 77 (by decide) (by decide), o2 86 (by decide) (by decide), o1 77 (by decide) (by decide), o1 86 (by decide) (by decide)]
      exact a8
    · unfold rFt at a9 ⊢
      rw [r0, r0, r79, r79, if_neg (by decide), if_neg (by decide), if_neg (by decide), if_neg (by decide)]
      exact a9
/-- a pond dug or filled in both -/
theorem k_pond (h : rAll Z Rf K n) {Z1 Z2 : Nat → Nat → Int} {p : Nat} {v : Int} (hp : p < 100) (hpc : isC (Z 80 0) (Z 80 1) (p : Int) = true) (hv : v = 0 ∨ v = 1) (h1 : cpS Z Z1 p v) (h2 : mpS Z1 Z2 p v) : rAll Z2 Rf K n ∧ Z2 4000000 = Z 4000000 := by
  obtain ⟨a1, a2, a3, a4, a5, a6, a7, a8, a9, a10, _⟩ := h
  obtain ⟨c1, c2, c3, c4⟩ := h1
  obtain ⟨m1, m2, m3, m4⟩ := h2
  have e79 : ∀ j, Z1 79 j = Z 79 j := fun j => c1 79 j (by decide) (by decide) (Or.inl (by decide))
  have e83 : ∀ j, Z1 83 j = Z 83 j := fun j => c1 83 j (by decide) (by decide) (Or.inl (by decide))
  rw [e79] at m3
  have eq : ∀ a j, a ≠ 0 → a ≠ 5 → a ≠ 78 → a ≠ 79 → a ≠ 80 → a ≠ 83 → Z2 a j = Z a j := fun a j q0 q1 q2 q3 q4 q5 => by rw [m1 a j (Or.inl q4) q5 (Or.inl q3), c1 a j q1 q2 (Or.inl q0)]
  have f0 : ∀ j, j ≠ 12 → Z2 0 j = Z 0 j := fun j hj => by rw [m1 0 j (Or.inl (by decide)) (by decide) (Or.inl (by decide)), c1 0 j (by decide) (by decide) (Or.inr hj)]
  have f79 : ∀ j, j ≠ 4 → Z2 79 j = Z 79 j := fun j hj => by rw [m1 79 j (Or.inl (by decide)) (by decide) (Or.inr hj), e79]
  have f12 : Z2 0 12 = Z1 0 12 := m1 0 12 (Or.inl (by decide)) (by decide) (Or.inl (by decide))
  have f80 : ∀ k, k < 20 → Z2 80 k = Z 80 k := fun k hk => by rw [m1 80 k (Or.inr (by omega)) (by decide) (Or.inl (by decide)), c1 80 k (by decide) (by decide) (Or.inl (by decide))]
  have f78 : ∀ j, Z2 78 j = Z1 78 j := fun j => m1 78 j (Or.inl (by decide)) (by decide) (Or.inl (by decide))
  refine ⟨rAll_side (Z := sm_u (sm_u Z 5 p v) 80 (120 + p) v) (fun a q1 q2 q3 q4 q5 q6 => ?_) ⟨?_, ?_, ?_⟩ ?_ ?_ ?_ (k_cell ⟨a1, a2, a3, a4, a5, a6, a7, a8, a9, a10, by assumption⟩ (row := 5) (base := 120) (by omega) hp (by omega)), ?_⟩
  · funext j
    by_cases g80 : a = 80
    · rw [g80, sm_u_eq, sm_u_row (by decide)]
      by_cases g : j = 120 + p
      · rw [if_pos g, g, m2]
      · rw [if_neg g, m1 80 j (Or.inr g) (by decide) (Or.inl (by decide)), c1 80 j (by decide) (by decide) (Or.inl (by decide))]
    · rw [sm_u_row g80]
      by_cases g : a = 5
      · rw [g, sm_u_eq, m1 5 j (Or.inl (by decide)) (by decide) (Or.inl (by decide)), c2]
      · rw [sm_u_row g, eq a j q1 g q3 q4 g80 q5]
  · rw [f0 2 (by decide), sm_u_row (by decide), sm_u_row (by decide)]
  · rw [f79 5 (by decide), sm_u_row (by decide), sm_u_row (by decide)]
  · rw [f79 6 (by decide), sm_u_row (by decide), sm_u_row (by decide)]
  · obtain ⟨b1, b2, b3⟩ := a7
    rw [b1] at c3 c4
    refine ⟨?_, ?_, fun j hj => ?_⟩
    · rw [f12, c3, m3]
      by_cases g : Z 79 4 = 10
      · rw [if_pos g, if_pos (by omega)]
      · rw [if_neg g, if_neg (by omega)]
    · rw [m3]
      by_cases g : Z 79 4 = 10
      · rw [if_pos g]; omega
      · rw [if_neg g]; omega
    · rw [m3] at hj
      rw [f80 0 (by omega), f80 1 (by omega)]
      by_cases g : Z 79 4 = 10
      · rw [if_pos g] at hj
        rw [f78, c4 j (by omega), m4 j (by omega), e79, if_pos (by omega), if_pos g]
        by_cases g9 : j = 9
        · rw [if_pos g9, if_pos g9]; exact ⟨rfl, hpc⟩
        · rw [if_neg g9, if_neg g9, e83]
          exact b3 (j + 1) (by omega)
      · rw [if_neg g] at hj
        rw [f78, c4 j (by omega), m4 j (by omega), e79, if_neg (by omega), if_neg g]
        by_cases gj : (j : Int) = Z 79 4
        · rw [if_pos gj, if_pos gj]; exact ⟨rfl, hpc⟩
        · rw [if_neg gj, if_neg gj, e83]
          exact b3 j (by omega)
  · unfold rTp at a8 ⊢
    rw [f0 8 (by decide), f79 14 (by decide)]
    refine ⟨a8.1, a8.2.1, fun j hj => ?_⟩
    rw [eq 77 j (by decide) (by decide) (by decide) (by decide) (by decide) (by decide), eq 86 j (by decide) (by decide) (by decide) (by decide) (by decide) (by decide)]
    exact a8.2.2 j hj
  · unfold rFt at a9 ⊢
    rw [f0 9 (by decide), f0 10 (by decide), f79 21 (by decide), f79 23 (by decide)]
    exact a9
  · funext j
    exact eq _ j (by decide) (by decide) (by decide) (by decide) (by decide) (by decide)
theorem pondB (h : rAll Z Rf K n) : (∀ k, k < 100 → Z 5 k = 0 ∨ Z 5 k = 1) ∧ (∀ k, k < 100 → Z 80 (120 + k) = 0 ∨ Z 80 (120 + k) = 1) ∧ (∀ k, k < 100 → Z 5 k = Z 80 (120 + k)) := by
  obtain ⟨a1, a2, a3, a4, a5, _⟩ := h
  have e5 : ∀ k, k < 100 → Z 5 k = Z 80 (120 + k) := fun k hk => (a5.2.1 k hk).2.2.2.1
  exact ⟨fun k hk => by rw [e5 k hk]; exact (gridB a4 k hk).2.1, fun k hk => (gridB a4 k hk).2.1, e5⟩
theorem k_feed (h : rAll Z Rf K n) {a b c e f : Int} : okC (d + 1) 93 136 [.inl a, .inl b, .inl c, .inl e, .inl f] Z Rf K n z := by
  have h0 := h
  obtain ⟨a1, a2, a3, a4, a5, a6, a7, a8, a9, a10, _⟩ := h0
  obtain ⟨t, ht⟩ : ∃ t : Nat, Z 79 14 = (t : Int) := ⟨(Z 79 14).toNat, by have := a8.2.1; omega⟩
  have h4 : t ≤ 400 := by have := a8.2.1; omega
  have h8 : Z 0 8 = (t : Int) := by rw [a8.1, ht]
  by_cases g : t ≤ 380
  · obtain ⟨Z1, hZ1⟩ : ∃ Z1, Z1 = fdS Z 77 0 8 (byF a b c e f) t 20 := ⟨_, rfl⟩
    have v1 : ∀ x j, Z1 x j = if x = 0 ∧ j = 8 then ((t + 20 : Nat) : Int) else if x = 77 ∧ t ≤ j ∧ j < t + 20 then byF a b c e f (j - t) else Z x j := fun x j => by rw [hZ1]; rfl
    obtain ⟨Z2, hZ2⟩ : ∃ Z2, Z2 = fdS Z1 86 79 14 (byF a b c e f) t 20 := ⟨_, rfl⟩
    have v2 : ∀ x j, Z2 x j = if x = 79 ∧ j = 14 then ((t + 20 : Nat) : Int) else if x = 86 ∧ t ≤ j ∧ j < t + 20 then byF a b c e f (j - t) else Z1 x j := fun x j => by rw [hZ2]; rfl
    have o : ∀ x j, ¬ (x = 0 ∧ j = 8) → ¬ x = 77 → ¬ (x = 79 ∧ j = 14) → ¬ x = 86 → Z2 x j = Z x j := fun x j q1 q2 q3 q4 => by rw [v2, if_neg q3, if_neg (fun w => q4 w.1), v1, if_neg q1, if_neg (fun w => q2 w.1)]
    refine okC_of ((t : Int) + 20) Z1 Z2 (fun Q hQ => ?_) (fun Q hQ => ?_) (rAll_side (fun x q1 q2 q3 q4 q5 q6 => ?_) ⟨?_, ?_, ?_⟩ ?_ ?_ ?_ h) ?_
    · rw [c_feed a1 t h8 h4, if_pos g, ← hZ1]
      exact hQ
    · rw [m_feed a1 t (by rw [v1, if_neg (by omega), if_neg (by omega), ht]) h4, if_pos g, ← hZ2]
      exact hQ
    · funext j
      exact o x j (fun w => q1 w.1) q2 (fun w => q4 w.1) q6
    · exact o 0 2 (by decide) (by decide) (by decide) (by decide)
    · exact o 79 5 (by decide) (by decide) (by decide) (by decide)
    · exact o 79 6 (by decide) (by decide) (by decide) (by decide)
    · unfold rCh at a7 ⊢
      rw [o 0 12 (by decide) (by decide) (by decide) (by decide), o 79 4 (by decide) (by decide) (by decide) (by decide)]
      refine ⟨a7.1, a7.2.1, fun j hj => ?_⟩
      rw [o 78 j (by omega) (by decide) (by omega) (by decide), o 83 j (by omega) (by decide) (by omega) (by decide), o 80 0 (by omega) (by decide) (by omega) (by decide), o 80 1 (by omega) (by decide) (by omega) (by decide)]
      exact a7.2.2 j hj
    · refine ⟨?_, ?_, fun j hj => ?_⟩
      · rw [v2, if_neg (by decide), if_neg (by omega), v1, if_pos ⟨rfl, rfl⟩, v2, if_pos ⟨rfl, rfl⟩]
      · rw [v2, if_pos ⟨rfl, rfl⟩]
        omega
      · by_cases w : t ≤ j ∧ j < t + 20
        · have x77 : Z2 77 j = byF a b c e f (j - t) := by rw [v2, if_neg (by omega), if_neg (by omega), v1, if_neg (by omega), if_pos ⟨rfl, w⟩]
          have x86 : Z2 86 j = byF a b c e f (j - t) := by rw [v2, if_neg (by omega), if_pos ⟨rfl, w⟩]
          rw [x77, x86]
          refine ⟨rfl, ?_⟩
          unfold byF byt
          omega
        · have x77 : Z2 77 j = Z 77 j := by rw [v2, if_neg (by omega), if_neg (by omega), v1, if_neg (by omega), if_neg (fun q => w q.2)]
          have x86 : Z2 86 j = Z 86 j := by rw [v2, if_neg (by omega), if_neg (fun q => w q.2), v1, if_neg (by omega), if_neg (by omega)]
          rw [x77, x86]
          exact a8.2.2 j hj
    · unfold rFt at a9 ⊢
      rw [o 0 9 (by decide) (by decide) (by decide) (by decide), o 0 10 (by decide) (by decide) (by decide) (by decide), o 79 21 (by decide) (by decide) (by decide) (by decide), o 79 23 (by decide) (by decide) (by decide) (by decide)]
      exact a9
    · funext j
      exact o 4000000 j (by omega) (by decide) (by omega) (by decide)
  · refine okC_of (-1) Z Z (fun Q hQ => ?_) (fun Q hQ => ?_) h rfl
    · rw [c_feed a1 t h8 h4, if_neg g]
      exact hQ
    · rw [m_feed a1 t ht h4, if_neg g]
      exact hQ
theorem k_dig (h : rAll Z Rf K n) {c : Int} (hc : aI c) : okR (d + 3) 86 129 [.inl c] Z Rf K n z := by
  have h0 := h
  obtain ⟨a1, a2, a3, a4, a5, a6, a7, _⟩ := h0
  obtain ⟨b1, b2, b3⟩ := pondB h
  have sC := szC_of a4 a5
  have ew : Z 1 0 = Z 80 0 ∧ Z 1 1 = Z 80 1 := ⟨a5.1.1, a5.1.2.1⟩
  have cb : 0 ≤ Z 0 12 ∧ Z 0 12 ≤ 10 := by rw [a7.1]; exact a7.2.1
  intro Q hQ
  refine c_dig (d := d + 1) a1 sC cb b1 hc (fun g1 g2 Z1 hz1 => ?_) (fun g => ?_)
  · have hcb := isC_bd g1
    have hp : c.toNat < 100 := by omega
    have e1 : ∀ j, Z1 80 j = Z 80 j := fun j => hz1.1 80 j (by decide) (by decide) (Or.inl (by decide))
    have e80 : Z1 80 = Z 80 := funext e1
    have e79 : Z1 79 4 = Z 79 4 := hz1.1 79 4 (by decide) (by decide) (Or.inl (by decide))
    refine hQ 1 Z1 Rf K n z (fun Q2 hQ2 => ?_) (by omega) rfl
    refine m_dig a1 (szM_of (Z := Z1) a4 e80) (by rw [e79]; exact a7.2.1) (by rw [e80]; exact b2) hc (fun _ _ Z2 hz2 => ?_) (fun g => absurd ⟨by rw [e80, ← ew.1, ← ew.2]; exact g1, by rw [e80, ← b3 _ hp]; exact g2⟩ g)
    have := k_pond h hp (by rw [show ((c.toNat : Nat) : Int) = c by omega, ← ew.1, ← ew.2]; exact g1) (by omega) hz1 hz2
    exact hQ2 Z2 this.1 this.2
  · refine hQ 0 Z Rf K n z (fun Q2 hQ2 => ?_) (by omega) rfl
    refine m_dig a1 (szM_of (Z := Z) a4 rfl) a7.2.1 b2 hc (fun g1 g2 => absurd ⟨by rw [ew.1, ew.2]; exact g1, by rw [b3 _ (by have := isC_bd g1; omega)]; exact g2⟩ g) (fun _ => hQ2 Z h rfl)
theorem k_fill (h : rAll Z Rf K n) {c : Int} (hc : aI c) : okR (d + 3) 87 130 [.inl c] Z Rf K n z := by
  have h0 := h
  obtain ⟨a1, a2, a3, a4, a5, a6, a7, _⟩ := h0
  obtain ⟨b1, b2, b3⟩ := pondB h
  have sC := szC_of a4 a5
  have ew : Z 1 0 = Z 80 0 ∧ Z 1 1 = Z 80 1 := ⟨a5.1.1, a5.1.2.1⟩
  have cb : 0 ≤ Z 0 12 ∧ Z 0 12 ≤ 10 := by rw [a7.1]; exact a7.2.1
  intro Q hQ
  refine c_fillP (d := d + 1) a1 sC cb b1 hc (fun g1 g2 Z1 hz1 => ?_) (fun g => ?_)
  · have hcb := isC_bd g1
    have hp : c.toNat < 100 := by omega
    have e1 : ∀ j, Z1 80 j = Z 80 j := fun j => hz1.1 80 j (by decide) (by decide) (Or.inl (by decide))
    have e80 : Z1 80 = Z 80 := funext e1
    have e79 : Z1 79 4 = Z 79 4 := hz1.1 79 4 (by decide) (by decide) (Or.inl (by decide))
    refine hQ 1 Z1 Rf K n z (fun Q2 hQ2 => ?_) (by omega) rfl
    refine m_fill a1 (szM_of (Z := Z1) a4 e80) (by rw [e79]; exact a7.2.1) (by rw [e80]; exact b2) hc (fun _ _ Z2 hz2 => ?_) (fun g => absurd ⟨by rw [e80, ← ew.1, ← ew.2]; exact g1, by rw [e80, ← b3 _ hp]; exact g2⟩ g)
    have := k_pond h hp (by rw [show ((c.toNat : Nat) : Int) = c by omega, ← ew.1, ← ew.2]; exact g1) (by omega) hz1 hz2
    exact hQ2 Z2 this.1 this.2
  · refine hQ 0 Z Rf K n z (fun Q2 hQ2 => ?_) (by omega) rfl
    refine m_fill a1 (szM_of (Z := Z) a4 rfl) a7.2.1 b2 hc (fun g1 g2 => absurd ⟨by rw [ew.1, ew.2]; exact g1, by rw [b3 _ (by have := isC_bd g1; omega)]; exact g2⟩ g) (fun _ => hQ2 Z h rfl)
end CALLS5
