/-! Claims, hatchings, barns, the text's end and faults. -/
theorem anyR_cg {P Q : Nat → Bool} : ∀ (k i : Nat), (∀ j, i ≤ j → j < i + k → P j = Q j) → anyR P k i = anyR Q k i := by
  intro k
  induction k with
  | zero => intro i _; rfl
  | succ k ih =>
    intro i h
    simp only [anyR]
    rw [h i (by omega) (by omega), ih (i + 1) (fun j q1 q2 => h j (by omega) (by omega))]
/-- the relation where only numbers of rows 0 and 79 and the tape changed -/
theorem rAll_side {Z Z' : Nat → Nat → Int} {Rf : Nat → Nat → Option Nat} {K : Nat → Nat × Nat} {n : Nat} (hz : ∀ a, ¬ a = 0 → ¬ a = 77 → ¬ a = 78 → ¬ a = 79 → ¬ a = 83 → ¬ a = 86 → Z' a = Z a) (hk : Z' 0 2 = Z 0 2 ∧ Z' 79 5 = Z 79 5 ∧ Z' 79 6 = Z 79 6) (h7 : rCh Z') (h8 : rTp Z') (h9 : rFt Z') (h : rAll Z Rf K n) : rAll Z' Rf K n := by
  obtain ⟨a1, a2, a3, a4, a5, a6, a7, a8, a9, a10, a11, a12⟩ := h
  refine ⟨a1, zs_fr a2 (fun a ha => hz a (by omega) (by omega) (by omega) (by omega) (by omega) (by omega)), stI_fr (fun a ha => by rw [hz a (by omega) (by omega) (by omega) (by omega) (by omega) (by omega)]) a3, ?_, ?_, ?_, h7, h8, h9, by rw [hk.2.2]; exact a10, ⟨a11.1, a11.2.1, by rw [hz 19 (by decide) (by decide) (by decide) (by decide) (by decide) (by decide)]; exact a11.2.2⟩, a12⟩
  · rw [hz 80 (by decide) (by decide) (by decide) (by decide) (by decide) (by decide)]
    exact a4
  · rw [hz 80 (by decide) (by decide) (by decide) (by decide) (by decide) (by decide)]
    exact rD_row (by rw [hz 1 (by decide) (by decide) (by decide) (by decide) (by decide) (by decide)]; exact a5.1) (fun a q1 q2 => hz a (by omega) (by omega) (by omega) (by omega) (by omega) (by omega)) (fun a ha => hz a (by omega) (by omega) (by omega) (by omega) (by omega) (by omega)) (fun _ _ => rfl) a5
  · unfold rKp at a6 ⊢
    rw [hk.1, hk.2.1, hz 81 (by decide) (by decide) (by decide) (by decide) (by decide) (by decide)]
    exact ⟨a6.1, a6.2.1, fun g => ⟨(a6.2.2 g).1, rD_row (by rw [hz 26 (by decide) (by decide) (by decide) (by decide) (by decide) (by decide)]; exact (a6.2.2 g).2.1) (fun a q1 q2 => hz a (by omega) (by omega) (by omega) (by omega) (by omega) (by omega)) (fun a ha => hz a (by omega) (by omega) (by omega) (by omega) (by omega) (by omega)) (fun _ _ => rfl) (a6.2.2 g).2⟩⟩
section CALLS4
variable {d n z : Nat} {Rf : Nat → Nat → Option Nat} {K : Nat → Nat × Nat} {Z : Nat → Nat → Int}
theorem k_claim (h : rAll Z Rf K n) {a b e : Int} (ha : aI a) (hb : aI b) (he : e = 0 ∨ e = 1) : okC (d + 3) 107 191 [.inl a, .inl b, .inl e] Z Rf K n z := by
  have h0 := h
  obtain ⟨a1, a2, a3, a4, a5, _⟩ := h0
  have sC := szC_of a4 a5
  have sM := szM_of (Z := Z) a4 rfl
  have ew : Z 1 0 = Z 80 0 ∧ Z 1 1 = Z 80 1 := ⟨a5.1.1, a5.1.2.1⟩
  have h7 := a5.2.2.2.2.2.2.1
  have i10 := a4.2.2.2.2.2.2.2.2.2.1
  have e8 : Z 16 2 = Z 80 8 := h7.1
  obtain ⟨N, hN⟩ : ∃ N : Nat, Z 80 8 = (N : Int) := ⟨(Z 80 8).toNat, by omega⟩
  by_cases ht : (isC (Z 80 0) (Z 80 1) a = true ∧ isC (Z 80 0) (Z 80 1) b = true ∧ ¬ a = b) ∧ Z 80 8 < 20
  · have e1 : rAdd Z 16 17 a b e 0 0 80 = Z 80 := rAd_o (by decide) (by decide)
    refine okC_of 1 (rAdd Z 16 17 a b e 0 0) _ (fun Q hQ => ?_) (fun Q hQ => ?_) (k_three h (Or.inr ⟨rfl, rfl, rfl, rfl, rfl⟩) hN (by omega) (fun g => absurd g (by decide)) (fun _ => ⟨ht.1.1, ht.1.2.1, he⟩)) (by rw [sm_u_row (by decide), sm_u_row (by decide), sm_u_row (by decide), sm_u_row (by decide), rAd_o (by decide) (by decide)])
    · rw [c_claim (d := d + 1) a1 sC a3.2.2.2.1 (by rw [e8]; exact i10.1) ha hb he, ew.1, ew.2, e8, if_pos ht]
      exact hQ
    · rw [m_claim a1 (szM_of (Z := rAdd Z 16 17 a b e 0 0) a4 e1) (by rw [e1]; exact i10.1) ha hb he, e1, if_pos ht, hN, show (1920 + 3 * (N : Int)).toNat = 1920 + 3 * N by omega, show (1920 + 3 * (N : Int) + 1).toNat = 1920 + 3 * N + 1 by omega, show (1920 + 3 * (N : Int) + 2).toNat = 1920 + 3 * N + 2 by omega]
      exact hQ
  · refine okC_of 0 Z Z (fun Q hQ => ?_) (fun Q hQ => ?_) h rfl
    · rw [c_claim (d := d + 1) a1 sC a3.2.2.2.1 (by rw [e8]; exact i10.1) ha hb he, ew.1, ew.2, e8, if_neg ht]
      exact hQ
    · rw [m_claim a1 sM i10.1 ha hb he, if_neg ht]
      exact hQ
theorem k_hatch (h : rAll Z Rf K n) {a b e : Int} (ha : aI a) (hb : aI b) (he : aI e) : okC (d + 3) 105 188 [.inl a, .inl b, .inl e] Z Rf K n z := by
  have h0 := h
  obtain ⟨a1, a2, a3, a4, a5, _⟩ := h0
  have sC := szC_of a4 a5
  have sM := szM_of (Z := Z) a4 rfl
  have ew : Z 1 0 = Z 80 0 ∧ Z 1 1 = Z 80 1 := ⟨a5.1.1, a5.1.2.1⟩
  have h6 := a5.2.2.2.2.2.1
  have i9 := a4.2.2.2.2.2.2.2.2.1
  have e7 : Z 14 2 = Z 80 7 := h6.1
  obtain ⟨N, hN⟩ : ∃ N : Nat, Z 80 7 = (N : Int) := ⟨(Z 80 7).toNat, by omega⟩
  have hN6 : N ≤ 6 := by omega
  have q15 : ∀ j, j < N → Z 15 (5 * j) = Z 80 (1900 + 3 * j) := fun j hj => h6.2 j (by omega) 0 (by omega)
  have b80 : ∀ j, j < N → aI (Z 80 (1900 + 3 * j)) := fun j hj => by
    have := isC_bd (i9.2 j (by omega)).1
    unfold aI
    omega
  have hany : anyR (fun j => decide (Z 15 (5 * j) = a)) N 0 = anyR (fun j => decide (Z 80 (1900 + 3 * j) = a)) N 0 := anyR_cg N 0 (fun j _ hj => by rw [q15 j (by omega)])
  have cc := fun Q => c_hatch (d := d + 1) (n := n) (z := z) (Q := Q) a1 sC N (by rw [e7, hN]) hN6 a3.2.2.1 ha hb he (fun j hj => by rw [q15 j hj]; exact b80 j hj)
  by_cases ht : ((isC (Z 80 0) (Z 80 1) a = true ∧ (0 ≤ b ∧ b ≤ 99) ∧ (0 ≤ e ∧ e ≤ 10)) ∧ anyR (fun j => decide (Z 80 (1900 + 3 * j) = a)) N 0 = false) ∧ Z 80 7 < 6
  · have e1 : rAdd Z 14 15 a b e 0 0 80 = Z 80 := rAd_o (by decide) (by decide)
    refine okC_of (Z 80 7) (rAdd Z 14 15 a b e 0 0) _ (fun Q hQ => ?_) (fun Q hQ => ?_) (k_three h (Or.inl ⟨rfl, rfl, rfl, rfl, rfl⟩) hN (by omega) (fun _ => ht.1.1) (fun g => absurd g (by decide))) (by rw [sm_u_row (by decide), sm_u_row (by decide), sm_u_row (by decide), sm_u_row (by decide), rAd_o (by decide) (by decide)])
    · rw [cc, ew.1, ew.2, e7, hany, if_pos ht]
      exact hQ
    · rw [m_hatch a1 (szM_of (Z := rAdd Z 14 15 a b e 0 0) a4 e1) N (by rw [e1, hN]) hN6 ha hb he (fun j hj => by rw [e1]; exact b80 j hj), e1, if_pos ht, hN, show (1900 + 3 * (N : Int)).toNat = 1900 + 3 * N by omega, show (1900 + 3 * (N : Int) + 1).toNat = 1900 + 3 * N + 1 by omega, show (1900 + 3 * (N : Int) + 2).toNat = 1900 + 3 * N + 2 by omega]
      rw [hN] at hQ
      exact hQ
  · refine okC_of (-1) Z Z (fun Q hQ => ?_) (fun Q hQ => ?_) h rfl
    · rw [cc, ew.1, ew.2, e7, hany, if_neg ht]
      exact hQ
    · rw [m_hatch a1 sM N hN hN6 ha hb he b80, if_neg ht]
      exact hQ
theorem k_barn (h : rAll Z Rf K n) {c : Int} (hc : aI c) : okC (d + 3) 89 132 [.inl c] Z Rf K n z := by
  have h0 := h
  obtain ⟨a1, a2, a3, a4, a5, _⟩ := h0
  have sC := szC_of a4 a5
  have sM := szM_of (Z := Z) a4 rfl
  have ew : Z 1 0 = Z 80 0 ∧ Z 1 1 = Z 80 1 := ⟨a5.1.1, a5.1.2.1⟩
  have h2 := a5.2.1
  have gB := gridB a4
  have hb6 : ∀ k, k < 100 → Z 6 k = 0 ∨ Z 6 k = 1 := fun k hk => by
    have : Z 6 k = Z 80 (220 + k) := (h2 k hk).2.2.2.2.1
    rw [this]
    exact (gB k hk).2.2.1
  have hbM : ∀ k, k < 100 → Z 80 (220 + k) = 0 ∨ Z 80 (220 + k) = 1 := fun k hk => (gB k hk).2.2.1
  by_cases hC : isC (Z 80 0) (Z 80 1) c = true
  · have hcb := isC_bd hC
    obtain ⟨p, hp⟩ : ∃ p : Nat, p = c.toNat := ⟨_, rfl⟩
    have hp100 : p < 100 := by omega
    have e6 : Z 6 p = Z 80 (220 + p) := (h2 p hp100).2.2.2.2.1
    by_cases ht : Z 80 (220 + p) = 0
    · obtain ⟨Z1, hZ1⟩ : ∃ Z1, Z1 = sm_u Z 6 p 1 := ⟨_, rfl⟩
      have o1 : ∀ a, a ≠ 6 → Z1 a = Z a := fun a q => by rw [hZ1, sm_u_row q]
      obtain ⟨Z2, hZ2⟩ : ∃ Z2, Z2 = sm_u (sm_u (sm_u Z1 80 (220 + p) 1) 80 (520 + p) (-1)) 80 (620 + p) 0 := ⟨_, rfl⟩
      have o2 : ∀ a, a ≠ 80 → Z2 a = Z1 a := fun a q => by rw [hZ2, sm_u_row q, sm_u_row q, sm_u_row q]
      have e80 : ∀ k, Z2 80 k = if k = 620 + p then 0 else if k = 520 + p then -1 else if k = 220 + p then 1 else Z 80 k := fun k => by rw [hZ2, sm_u_eq, sm_u_eq, sm_u_eq, o1 80 (by decide)]
      have hM : ∀ k, (k < 20 ∨ 720 ≤ k) → Z2 80 k = Z 80 k := fun k hk => by rw [e80, if_neg (by omega), if_neg (by omega), if_neg (by omega)]
      refine okC_of 1 Z1 Z2 (fun Q hQ => ?_) (fun Q hQ => ?_) ?_ (by rw [o2 _ (by decide), o1 _ (by decide)])
      · rw [c_barn (d := d + 2) a1 sC hb6 hc, ew.1, ew.2, ← hp, e6, if_pos ⟨hC, ht⟩, ← hZ1]
        exact hQ
      · have e1 : Z1 80 = Z 80 := o1 80 (by decide)
        rw [m_barn a1 (szM_of (Z := Z1) a4 e1) (by rw [e1]; exact hbM) hc, e1, ← hp, if_pos ⟨hC, ht⟩, ← hZ2]
        exact hQ
      · refine rAll_duchy (fun a q1 q2 => by rw [o2 a q2, o1 a (by omega)]) (fun a ha => by rw [o2 a (by omega), o1 a (by omega)]) ⟨by rw [o2 19 (by decide), o1 19 (by decide)], by rw [o2 20 (by decide), o1 20 (by decide)]⟩ (invD_grid hM (fun j hj => ?_) a4) (rD_grid (fun j hj => ?_) (fun a q1 q2 => by rw [o2 a (by omega), o1 a (by omega)]) hM a5) h ⟨hM 0 (by omega), hM 1 (by omega)⟩
        · obtain ⟨g1, g2, g3, g4, g5⟩ := gB j hj
          rw [e80, e80, e80, e80, e80]
          by_cases g : j = p
          · rw [g] at g1 g2 g4 ⊢
            rw [if_neg (by omega), if_neg (by omega), if_neg (by omega), if_neg (by omega), if_neg (by omega), if_neg (by omega), if_neg (by omega), if_neg (by omega), if_pos rfl, if_neg (by omega), if_neg (by omega), if_neg (by omega), if_neg (by omega), if_pos rfl]
            exact ⟨g1, g2, Or.inr rfl, g4, by omega, by omega⟩
          · rw [if_neg (by omega), if_neg (by omega), if_neg (by omega), if_neg (by omega), if_neg (by omega), if_neg (by omega), if_neg (by omega), if_neg (by omega), if_neg (by omega), if_neg (by omega), if_neg (by omega), if_neg (by omega), if_neg (by omega), if_neg (by omega), if_neg (by omega)]
            exact ⟨g1, g2, g3, g4, g5⟩
        · obtain ⟨g1, g2, g3, g4, g5, g6, g7⟩ := h2 j hj
          have s : ∀ a, a ≠ 6 → a ≠ 80 → Z2 a j = Z a j := fun a q1 q2 => by rw [o2 a q2, o1 a q1]
          have s6 : Z2 6 j = if j = p then 1 else Z 6 j := by rw [o2 6 (by decide), hZ1, sm_u_eq]
          rw [s 2 (by decide) (by decide), s 3 (by decide) (by decide), s 4 (by decide) (by decide), s 5 (by decide) (by decide), s 7 (by decide) (by decide), s 8 (by decide) (by decide), s6]
          have k20 : Z2 80 (20 + j) = Z 80 (20 + j) := by rw [e80, if_neg (by omega), if_neg (by omega), if_neg (by omega)]
          have k420 : Z2 80 (420 + j) = Z 80 (420 + j) := by rw [e80, if_neg (by omega), if_neg (by omega), if_neg (by omega)]
          have k320 : Z2 80 (320 + j) = Z 80 (320 + j) := by rw [e80, if_neg (by omega), if_neg (by omega), if_neg (by omega)]
          have k120 : Z2 80 (120 + j) = Z 80 (120 + j) := by rw [e80, if_neg (by omega), if_neg (by omega), if_neg (by omega)]
          have k220 : Z2 80 (220 + j) = if j = p then 1 else Z 80 (220 + j) := by
            rw [e80, if_neg (by omega), if_neg (by omega)]
            by_cases g : j = p
            · rw [if_pos g, if_pos (by omega)]
            · rw [if_neg g, if_neg (by omega)]
          have k620 : Z2 80 (620 + j) = if j = p then 0 else Z 80 (620 + j) := by
            rw [e80]
            by_cases g : j = p
            · rw [if_pos g, if_pos (by omega)]
            · rw [if_neg g, if_neg (by omega), if_neg (by omega), if_neg (by omega)]
          have k520 : Z2 80 (520 + j) = if j = p then -1 else Z 80 (520 + j) := by
            rw [e80, if_neg (by omega)]
            by_cases g : j = p
            · rw [if_pos g, if_pos (by omega)]
            · rw [if_neg g, if_neg (by omega), if_neg (by omega)]
          rw [k20, k420, k320, k120, k220, k620, k520]
          by_cases g : j = p
          · rw [if_pos g, if_pos g, if_pos g, if_pos g, if_neg (by decide), if_neg (by decide)]
            rw [g, if_pos ht] at g6 g7
            exact ⟨g1, g2, g3, g4, rfl, by rw [g]; exact g6, by rw [g]; exact g7⟩
          · rw [if_neg g, if_neg g, if_neg g, if_neg g]
            exact ⟨g1, g2, g3, g4, g5, g6, g7⟩
    · refine okC_of 0 Z Z (fun Q hQ => ?_) (fun Q hQ => ?_) h rfl
      · rw [c_barn (d := d + 2) a1 sC hb6 hc, ← hp, e6, if_neg (fun g => ht g.2)]
        exact hQ
      · rw [m_barn a1 sM hbM hc, ← hp, if_neg (fun g => ht g.2)]
        exact hQ
  · refine okC_of 0 Z Z (fun Q hQ => ?_) (fun Q hQ => ?_) h rfl
    · rw [c_barn (d := d + 2) a1 sC hb6 hc, ew.1, ew.2, if_neg (fun g => hC g.1)]
      exact hQ
    · rw [m_barn a1 sM hbM hc, if_neg (fun g => hC g.1)]
      exact hQ
theorem k_fault (h : rAll Z Rf K n) {v : Int} (hv : aI v) : okC d 96 157 [.inl v] Z Rf K n z := by
  have h0 := h
  obtain ⟨a1, a2, a3, a4, a5, a6, a7, a8, a9, _⟩ := h0
  refine okC_of (if v = 0 then Z 79 21 else if v = 1 then Z 79 23 else -1) Z Z (fun Q hQ => ?_) (fun Q hQ => ?_) h rfl
  · rw [c_fault a1 hv, a9.1, a9.2]
    exact hQ
  · rw [m_fault a1 hv]
    exact hQ
theorem k_end (h : rAll Z Rf K n) {v : Int} (hv : aI v) : okC (d + 1) 94 137 [.inl v] Z Rf K n z := by
  have h0 := h
  obtain ⟨a1, a2, a3, a4, a5, a6, a7, a8, a9, _⟩ := h0
  by_cases ht : 0 ≤ v ∧ v ≤ Z 79 14
  · have eR : ∀ a, a ≠ 0 → a ≠ 79 → sm_u (sm_u Z 0 8 v) 79 14 v a = Z a := fun a q1 q2 => by rw [sm_u_row q2, sm_u_row q1]
    have r0 : ∀ j, sm_u (sm_u Z 0 8 v) 79 14 v 0 j = if j = 8 then v else Z 0 j := fun j => by rw [sm_u_row (by decide), sm_u_eq]
    have r79 : ∀ j, sm_u (sm_u Z 0 8 v) 79 14 v 79 j = if j = 14 then v else Z 79 j := fun j => by rw [sm_u_eq, sm_u_row (by decide)]
    refine okC_of 1 (sm_u Z 0 8 v) (sm_u (sm_u Z 0 8 v) 79 14 v) (fun Q hQ => ?_) (fun Q hQ => ?_) (rAll_side (fun a q1 _ _ q4 _ _ => eR a q1 q4) ⟨by rw [r0, if_neg (by decide)], by rw [r79, if_neg (by decide)], by rw [r79, if_neg (by decide)]⟩ ?_ ?_ ?_ h) (eR _ (by decide) (by decide))
    · rw [c_end a1 (by rw [a8.1]; exact a8.2.1) hv, a8.1, if_pos ht]
      exact hQ
    · rw [m_end a1 (by rw [sm_u_row (by decide)]; exact a8.2.1) hv, sm_u_row (by decide), if_pos ht]
      exact hQ
    · unfold rCh at a7 ⊢
      rw [r0, r79, if_neg (by decide), if_neg (by decide), eR 78 (by decide) (by decide), eR 83 (by decide) (by decide), eR 80 (by decide) (by decide)]
      exact a7
    · unfold rTp at a8 ⊢
      rw [r0, r79, if_pos rfl, if_pos rfl, eR 77 (by decide) (by decide), eR 86 (by decide) (by decide)]
      exact ⟨rfl, by omega, a8.2.2⟩
    · unfold rFt at a9 ⊢
      rw [r0, r0, r79, r79, if_neg (by decide), if_neg (by decide), if_neg (by decide), if_neg (by decide)]
      exact a9
  · refine okC_of 0 Z Z (fun Q hQ => ?_) (fun Q hQ => ?_) h rfl
    · rw [c_end a1 (by rw [a8.1]; exact a8.2.1) hv, a8.1, if_neg ht]
      exact hQ
    · rw [m_end a1 a8.2.1 hv, if_neg ht]
      exact hQ
end CALLS4
