/-! Calls that change one thing told. -/
theorem rD_cell {Z Z' : Nat → Nat → Int} {Rf : Nat → Nat → Option Nat} {K : Nat → Nat × Nat} {M M' : Nat → Int} {row base c : Nat} {v : Int} (hrb : (row = 2 ∧ base = 20) ∨ (row = 3 ∧ base = 420) ∨ (row = 4 ∧ base = 320) ∨ (row = 5 ∧ base = 120)) (hc : c < 100) (hZ : ∀ a j, a < 79 ∨ 96 < a → ¬ a = 0 → ¬ a = 78 → Z' a j = if a = row ∧ j = c then v else Z a j) (hM : ∀ k, M' k = if k = base + c then v else M k) (hr : rD Z Rf K M 1) : rD Z' Rf K M' 1 := by
  have h2 := hr.2.1
  refine rD_row (Z := fun a => if a = 0 ∨ a = 78 then Z a else Z' a) (M := M') ?_ (fun a q1 q2 => by show _ = if a = 0 ∨ a = 78 then Z a else Z' a; rw [if_neg (by omega)]) (fun a ha => by show _ = if a = 0 ∨ a = 78 then Z a else Z' a; rw [if_neg (by omega)]) (fun _ _ => rfl) ?_
  · rw [hZ 1 _ (by omega) (by omega) (by omega), hZ 1 _ (by omega) (by omega) (by omega), hZ 1 _ (by omega) (by omega) (by omega), hZ 1 _ (by omega) (by omega) (by omega), hM, hM, hM, hM, if_neg (by omega), if_neg (by omega), if_neg (by omega), if_neg (by omega), if_neg (by omega), if_neg (by omega), if_neg (by omega), if_neg (by omega)]
    exact hr.1
  · refine rD_grid (fun j hj => ?_) (fun a q1 q2 => ?_) (fun k hk => by rw [hM, if_neg (by omega)]) hr
    · obtain ⟨g1, g2, g3, g4, g5, g6, g7⟩ := h2 j hj
      have s : ∀ a, a = 2 ∨ a = 3 ∨ a = 4 ∨ a = 5 ∨ a = 6 ∨ a = 7 ∨ a = 8 → (if a = 0 ∨ a = 78 then Z a else Z' a) j = if a = row ∧ j = c then v else Z a j := by
        intro a ha
        rw [if_neg (by omega), hZ a j (by omega) (by omega) (by omega)]
      refine ⟨(s 2 (by omega)).trans ?_, (s 3 (by omega)).trans ?_, (s 4 (by omega)).trans ?_, (s 5 (by omega)).trans ?_, (s 6 (by omega)).trans ?_, (s 7 (by omega)).trans ?_, (s 8 (by omega)).trans ?_⟩
      · rw [hM]
        by_cases q : 2 = row ∧ j = c
        · rw [if_pos q, if_pos (by omega)]
        · rw [if_neg q, if_neg (by omega)]; exact g1
      · rw [hM]
        by_cases q : 3 = row ∧ j = c
        · rw [if_pos q, if_pos (by omega)]
        · rw [if_neg q, if_neg (by omega)]; exact g2
      · rw [hM]
        by_cases q : 4 = row ∧ j = c
        · rw [if_pos q, if_pos (by omega)]
        · rw [if_neg q, if_neg (by omega)]; exact g3
      · rw [hM]
        by_cases q : 5 = row ∧ j = c
        · rw [if_pos q, if_pos (by omega)]
        · rw [if_neg q, if_neg (by omega)]; exact g4
      · rw [hM, if_neg (by omega), if_neg (by omega)]; exact g5
      · rw [hM, hM, if_neg (by omega), if_neg (show ¬ 220 + j = base + c by omega), if_neg (show ¬ 620 + j = base + c by omega)]; exact g6
      · rw [hM, hM, if_neg (by omega), if_neg (show ¬ 220 + j = base + c by omega), if_neg (show ¬ 520 + j = base + c by omega)]; exact g7
    · show (if a = 0 ∨ a = 78 then Z a else Z' a) = Z a
      by_cases q : a = 0 ∨ a = 78
      · rw [if_pos q]
      · rw [if_neg q]
        funext j
        rw [hZ a j (by omega) (by omega) (by omega), if_neg (by omega)]
theorem invD_cell {M M' : Nat → Int} {base c : Nat} {v : Int} (hb : base = 20 ∨ (base = 420 ∧ 0 ≤ v ∧ v ≤ 99) ∨ (base = 320 ∧ (v = 0 ∨ v = 1)) ∨ (base = 120 ∧ (v = 0 ∨ v = 1))) (hc : c < 100) (hM : ∀ k, M' k = if k = base + c then v else M k) (hi : invD M) : invD M' := by
  refine invD_grid (fun k hk => by rw [hM, if_neg (by omega)]) (fun j hj => ?_) hi
  obtain ⟨g1, g2, g3, g4, g5⟩ := gridB hi j hj
  rw [hM, hM, hM, hM, hM]
  refine ⟨?_, ?_, ?_, ?_, ?_⟩
  · by_cases q : 320 + j = base + c
    · rw [if_pos q]; omega
    · rw [if_neg q]; exact g1
  · by_cases q : 120 + j = base + c
    · rw [if_pos q]; omega
    · rw [if_neg q]; exact g2
  · rw [if_neg (by omega)]; exact g3
  · by_cases q : 420 + j = base + c
    · rw [if_pos q]; omega
    · rw [if_neg q]; exact g4
  · rw [if_neg (by omega)]; exact g5
section CALLS1
variable {d n z : Nat} {Rf : Nat → Nat → Option Nat} {K : Nat → Nat × Nat} {Z : Nat → Nat → Int}
theorem k_state (h : rAll Z Rf K n) {v : Int} : okC d 83 124 [.inl v] Z Rf K n z := by
  have h0 := h
  obtain ⟨a1, a2, a3, a4, a5, _⟩ := h0
  have e80 : ∀ k, sm_u (sm_u Z 1 2 v) 80 2 v 80 k = if k = 2 then v else Z 80 k := fun k => by rw [sm_u_eq, sm_u_row (by decide)]
  have eR : ∀ a, a ≠ 1 → a ≠ 80 → sm_u (sm_u Z 1 2 v) 80 2 v a = Z a := fun a q1 q2 => by rw [sm_u_row q2, sm_u_row q1]
  refine okC_of (Z 1 2) (sm_u Z 1 2 v) (sm_u (sm_u Z 1 2 v) 80 2 v) (fun Q hQ => by rw [c_state a1]; exact hQ) (fun Q hQ => by rw [m_state a1, sm_u_row (show (80 : Nat) ≠ 1 by decide), ← a5.1.2.2.1]; exact hQ) ?_ (eR _ (by decide) (by decide))
  refine rAll_duchy (fun a q1 q2 => eR a (by omega) q2) (fun a ha => by rw [eR a (by omega) (by omega)]) ⟨eR 19 (by decide) (by decide), eR 20 (by decide) (by decide)⟩ (invD_cg1 (fun k hk => by rw [e80, if_neg (by omega)]) a4) ?_ h ⟨by rw [e80, if_neg (by omega)], by rw [e80, if_neg (by omega)]⟩
  refine rD_row ?_ (fun a q1 q2 => eR a (by omega) (by omega)) (fun a ha => eR a (by omega) (by omega)) (fun k hk => by rw [e80, if_neg (by omega)]) a5
  rw [e80, e80, e80, e80, sm_u_row (show (1 : Nat) ≠ 80 by decide), sm_u_eq, sm_u_eq, sm_u_eq, sm_u_eq]
  exact ⟨a5.1.1, a5.1.2.1, rfl, a5.1.2.2.2⟩
/-- one cell told -/
theorem k_cell (h : rAll Z Rf K n) {row base c : Nat} {v : Int} (hrb : (row = 2 ∧ base = 20) ∨ (row = 3 ∧ base = 420) ∨ (row = 4 ∧ base = 320) ∨ (row = 5 ∧ base = 120)) (hc : c < 100) (hb : base = 20 ∨ (base = 420 ∧ 0 ≤ v ∧ v ≤ 99) ∨ (base = 320 ∧ (v = 0 ∨ v = 1)) ∨ (base = 120 ∧ (v = 0 ∨ v = 1))) : rAll (sm_u (sm_u Z row c v) 80 (base + c) v) Rf K n := by
  have h0 := h
  obtain ⟨a1, a2, a3, a4, a5, _⟩ := h0
  have e80 : ∀ k, sm_u (sm_u Z row c v) 80 (base + c) v 80 k = if k = base + c then v else Z 80 k := fun k => by rw [sm_u_eq, sm_u_row (by omega)]
  have eR : ∀ a, a ≠ row → a ≠ 80 → sm_u (sm_u Z row c v) 80 (base + c) v a = Z a := fun a q1 q2 => by rw [sm_u_row q2, sm_u_row q1]
  refine rAll_duchy (fun a q1 q2 => eR a (by omega) q2) (fun a ha => by rw [eR a (by omega) (by omega)]) ⟨eR 19 (by omega) (by decide), eR 20 (by omega) (by decide)⟩ (invD_cell hb hc e80 a4) (rD_cell hrb hc (fun a j q1 _ _ => ?_) e80 a5) h ⟨by rw [e80, if_neg (by omega)], by rw [e80, if_neg (by omega)]⟩
  rw [sm_u_row (by omega)]
  by_cases g : a = row
  · rw [g, sm_u_eq]
    by_cases g2 : j = c
    · rw [if_pos g2, if_pos ⟨rfl, g2⟩]
    · rw [if_neg g2, if_neg (fun q => g2 q.2)]
  · rw [sm_u_row g, if_neg (fun q => g q.1)]
theorem k_tell (h : rAll Z Rf K n) {c w v : Int} (hc : aI c) (hw : aI w) (hv : aI v) : okC (d + 3) 85 127 [.inl c, .inl w, .inl v] Z Rf K n z := by
  have h0 := h
  obtain ⟨a1, a2, a3, a4, a5, _⟩ := h0
  have sC := szC_of a4 a5
  have sM := szM_of (Z := Z) a4 rfl
  have ew : Z 1 0 = Z 80 0 ∧ Z 1 1 = Z 80 1 := ⟨a5.1.1, a5.1.2.1⟩
  by_cases ht : tellOK (Z 80 0) (Z 80 1) c w v = true
  · have ht2 := ht
    unfold tellOK at ht2
    rw [decide_eq_true_eq] at ht2
    have hcb := isC_bd ht2.1
    obtain ⟨row, hrow⟩ : ∃ row : Nat, row = if w = 0 then 2 else if w = 1 then 3 else 4 := ⟨_, rfl⟩
    obtain ⟨base, hbase⟩ : ∃ base : Nat, base = if w = 0 then 20 else if w = 1 then 420 else 320 := ⟨_, rfl⟩
    have hcase : (w = 0 ∧ row = 2 ∧ base = 20) ∨ (w = 1 ∧ row = 3 ∧ base = 420) ∨ (w = 2 ∧ row = 4 ∧ base = 320) := by
      rcases ht2.2.2 with g | g | g
      · left; rw [hrow, hbase, if_pos g.1, if_pos g.1]; exact ⟨g.1, rfl, rfl⟩
      · right; left; rw [hrow, hbase, if_neg (by omega), if_pos g.1, if_neg (by omega), if_pos g.1]; exact ⟨g.1, rfl, rfl⟩
      · right; right; rw [hrow, hbase, if_neg (by omega), if_neg (by omega), if_neg (by omega), if_neg (by omega)]; exact ⟨g.1, rfl, rfl⟩
    refine okC_of 1 (sm_u Z row c.toNat v) (sm_u (sm_u Z row c.toNat v) 80 (base + c.toNat) v) (fun Q hQ => ?_) (fun Q hQ => ?_) (k_cell h (by omega) (by omega) (by omega)) (by rw [sm_u_row (by decide), sm_u_row (by omega)])
    · rw [c_tell (d := d + 1) a1 sC hc hw hv, ew.1, ew.2, if_pos ht, ← hrow]
      exact hQ
    · have e80 : sm_u Z row c.toNat v 80 = Z 80 := sm_u_row (by omega)
      rw [m_tell a1 (szM_of (Z := sm_u Z row c.toNat v) a4 e80) hc hw hv, e80, if_pos ht, show ((if w = 0 then (20 : Int) else if w = 1 then 420 else 320) + c).toNat = base + c.toNat by
        rcases hcase with g | g | g
        · rw [if_pos g.1]; omega
        · rw [if_neg (by omega), if_pos g.1]; omega
        · rw [if_neg (by omega), if_neg (by omega)]; omega]
      exact hQ
  · refine okC_of 0 Z Z (fun Q hQ => ?_) (fun Q hQ => ?_) h rfl
    · rw [c_tell (d := d + 1) a1 sC hc hw hv, ew.1, ew.2, if_neg ht]
      exact hQ
    · rw [m_tell a1 sM hc hw hv, if_neg ht]
      exact hQ
end CALLS1
