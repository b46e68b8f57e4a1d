/-! Images. -/
theorem rHb_mv {Z Z' : Nat → Nat → Int} {Rf Rf' : Nat → Nat → Option Nat} {K : Nat → Nat × Nat} {M M' : Nat → Int} {b b' : Nat} (hM : ∀ j, j < 5480 → M' j = M j) (hz : ∀ a, a = 19 ∨ a = 20 ∨ (97 ≤ a ∧ a < 1000000) → Z' a = Z a) (h1 : ∀ k, k < 4 → Rf' b' k = Rf b k) (h2 : ∀ a, a = 19 ∨ (97 ≤ a ∧ a < 1000000) → Rf' a = Rf a) (hr : rHb Z Rf K M b) : rHb Z' Rf' K M' b' := by
  intro k hk
  obtain ⟨a, q, L, P, x1, x2, x3, x4, x5, x6, x7, x8, x9⟩ := hr k hk
  have nx := wfL_lo hM hk x6
  exact ⟨a, q, L, P, by rw [h1 k hk]; exact x1, x2, by rw [h2 a x4]; exact x3, x4, x5, nx.1, x7, by rw [hz q (by omega)]; exact nx.2 _ x8, by rw [hz a (by omega)]; exact x9⟩
section KIMAGE
variable {d n z : Nat} {Rf : Nat → Nat → Option Nat} {K : Nat → Nat × Nat} {Z : Nat → Nat → Int}
theorem k_image1 (h : rAll Z Rf K n) : okC (d + 3) 110 195 [.inl 1] Z Rf K n z := by
  obtain ⟨a1, a2, a3, a4, a5, a6, a7, a8, a9, a10, a11, a12⟩ := h
  have hb := a5.2.2.2.2.2.2.2.1
  have hs : ∀ k, k < 4 → ∃ a, Rf 18 k = some a ∧ K a = (2, 2) := fun k hk => by
    obtain ⟨a, q, L, P, x1, x2, _⟩ := hb k hk
    exact ⟨a, x1, x2⟩
  obtain ⟨Rf1, hRf1⟩ : ∃ R, R = c_hbKeep Rf := ⟨_, rfl⟩
  have r_o : ∀ a, a ≠ 43 → Rf1 a = Rf a := fun a q => by
    rw [hRf1]
    unfold c_hbKeep
    rw [sm_u_row q, sm_u_row q, sm_u_row q, sm_u_row q]
  have r_43 : ∀ k, k < 4 → Rf1 43 k = Rf 18 k := fun k hk => by
    obtain ⟨a, x1, _⟩ := hs k hk
    have : Rf1 43 k = some ((Rf 18 k).getD 0) := by
      rw [hRf1]
      unfold c_hbKeep
      rw [sm_u_eq, sm_u_eq, sm_u_eq, sm_u_eq]
      have hk4 : k = 0 ∨ k = 1 ∨ k = 2 ∨ k = 3 := by omega
      rcases hk4 with g | g | g | g <;> rw [g] <;> rfl
    rw [this, x1]
    rfl
  have H1 : sm_sh Rf1 K := by
    rw [hRf1]
    unfold c_hbKeep
    exact sm_sh_u (sm_sh_u (sm_sh_u (sm_sh_u a1 (Or.inr rfl)) (Or.inr rfl)) (Or.inr rfl)) (Or.inr rfl)
  obtain ⟨Z1, hZ1⟩ : ∃ Z1, Z1 = sm_u (c_cpKeep Z) 0 2 1 := ⟨_, rfl⟩
  obtain ⟨Z2, hZ2⟩ : ∃ Z2, Z2 = sm_u (sm_cr Z1 80 81 0 5480) 79 5 1 := ⟨_, rfl⟩
  have o1 : ∀ a, a ≠ 0 → Z1 a = c_cpKeep Z a := fun a q => by rw [hZ1, sm_u_row q]
  have o2 : ∀ a, a ≠ 79 → a ≠ 81 → Z2 a = Z1 a := fun a q1 q2 => by rw [hZ2, sm_u_row q1, sm_crw q2]
  have e : ∀ a, a ≠ 0 → a ≠ 79 → a ≠ 81 → (a < 26 ∨ 50 < a) → Z2 a = Z a := fun a q1 q2 q3 q4 => by rw [o2 a q2 q3, o1 a q1, cpKeep_o q4]
  have ek : ∀ a, 26 ≤ a → a ≤ 50 → Z2 a = c_cpKeep Z a := fun a q1 q2 => by rw [o2 a (by omega) (by omega), o1 a (by omega)]
  have v0 : ∀ j, Z2 0 j = if j = 2 then 1 else Z 0 j := fun j => by rw [o2 0 (by decide) (by decide), hZ1, sm_u_eq, cpKeep_o (by omega)]
  have v79 : ∀ j, Z2 79 j = if j = 5 then 1 else Z 79 j := fun j => by rw [hZ2, sm_u_eq, sm_crw (by decide), o1 79 (by decide), cpKeep_o (by omega)]
  have v81 : ∀ j, j < 5480 → Z2 81 j = Z 80 j := fun j hj => by
    rw [hZ2, sm_u_row (by decide)]
    show (if 81 = 81 ∧ 0 ≤ j ∧ j < 5480 then Z1 80 j else Z1 81 j) = _
    rw [if_pos ⟨rfl, Nat.zero_le _, hj⟩, o1 80 (by decide), cpKeep_o (by omega)]
  have e80 : Z2 80 = Z 80 := e 80 (by decide) (by decide) (by decide) (by omega)
  have cp := cpKeep_c Z
  refine ⟨1, Z1, Rf1, K, n, z, Z2, fun Q hQ => ?_, fun Q hQ => ?_, ⟨H1, zs_fr a2 (fun a ha => e a (by omega) (by omega) (by omega) (by omega)), stI_fr (fun a ha => ?_) a3, by rw [e80]; exact a4, ?_, ?_, ?_, ?_, ?_, by rw [v79, if_neg (by decide)]; exact a10, ⟨a11.1, by rw [r_o 19 (by decide)]; exact a11.2.1, by rw [e 19 (by decide) (by decide) (by decide) (by omega)]; exact a11.2.2⟩, ?_⟩, by omega, e _ (by decide) (by decide) (by decide) (by omega), rfl⟩
  · rw [c_image1 a1 (fun k hk => by
      obtain ⟨a, x1, x2⟩ := hs k hk
      rw [x1]
      exact ⟨rfl, by show (K a).1 = 2; rw [x2]⟩), ← hZ1, ← hRf1]
    exact hQ
  · rw [m_image1 H1, ← hZ2]
    exact hQ
  · by_cases g : a = 49
    · rw [g, ek 49 (by decide) (by decide), cpKeep_19 ⟨by omega, rfl⟩]
    · rw [e a (by omega) (by omega) (by omega) (by omega)]
  · rw [e80]
    exact rD_hab a4 (fun a p1 p2 => e a (by omega) (by omega) (by omega) (by omega)) (fun _ _ => rfl) (rHb_mv (fun _ _ => rfl) (fun a ha => e a (by omega) (by omega) (by omega) (by omega)) (fun k _ => by rw [r_o 18 (by decide)]) (fun a ha => r_o a (by omega)) hb) a5
  · unfold rKp
    rw [v0, v79, if_pos rfl, if_pos rfl]
    refine ⟨rfl, Or.inr rfl, fun _ => ⟨invD_lo v81 a4, ?_⟩⟩
    obtain ⟨p1, p2, p3, p4, p5, p6, p7, p8, p9, p10, p11⟩ := cp
    refine rD_copy (Z := Z) (b := 1) a4 v81 ?_ (fun r q1 q2 j hj => ?_) (fun j hj => ?_) (fun r hr => ?_) (fun j hj => ?_) (fun j hj => ?_) (fun j hj => ?_) (fun j hj => ?_) (fun j hj => ?_) (fun j hj => ?_) (fun j hj => ?_) ?_ (rHb_mv v81 (fun a ha => e a (by omega) (by omega) (by omega) (by omega)) r_43 (fun a ha => r_o a (by omega)) hb) a5
    · rw [ek 26 (by decide) (by decide)]; exact p1
    · rw [ek _ (by omega) (by omega)]; exact p2 r q1 q2 j hj
    · rw [ek _ (by omega) (by omega)]; exact p3 j hj
    · rw [ek _ (by omega) (by omega)]; exact p4 r hr
    · rw [ek _ (by omega) (by omega)]; exact p5 j hj
    · rw [ek _ (by omega) (by omega)]; exact p6 j hj
    · rw [ek _ (by omega) (by omega)]; exact p7 j hj
    · rw [ek _ (by omega) (by omega)]; exact p8 j hj
    · rw [ek _ (by omega) (by omega)]; exact p9 j hj
    · rw [ek _ (by omega) (by omega)]; exact p10 j hj
    · rw [ek _ (by omega) (by omega)]; exact p11 j hj
    · rw [ek _ (by omega) (by omega), cpKeep_19 ⟨by omega, rfl⟩]
      exact a3.2.2.2.2.2.1
  · unfold rCh at a7 ⊢
    rw [v0, v79, if_neg (by decide), if_neg (by decide), e 78 (by decide) (by decide) (by decide) (by omega), e 83 (by decide) (by decide) (by decide) (by omega), e80]
    exact a7
  · unfold rTp at a8 ⊢
    rw [v0, v79, if_neg (by decide), if_neg (by decide), e 77 (by decide) (by decide) (by decide) (by omega), e 86 (by decide) (by decide) (by decide) (by omega)]
    exact a8
  · unfold rFt at a9 ⊢
    rw [v0, v0, v79, v79, if_neg (by decide), if_neg (by decide), if_neg (by decide), if_neg (by decide)]
    exact a9
  · intro b hbb k hk a ha
    have hab : Rf 18 k = some a ∨ Rf 18 k = some a := by
      rcases hbb with g | g
      · rw [g, r_o 18 (by decide)] at ha; exact Or.inl ha
      · rw [g, r_43 k hk] at ha; exact Or.inl ha
    have ha18 : Rf 18 k = some a := hab.elim id id
    have y := a12 18 (Or.inl rfl) k hk a ha18
    refine ⟨y.1, fun q hq => ?_⟩
    by_cases g : a = 43
    · rw [g, r_43 1 (by decide)] at hq
      exact (a12 18 (Or.inl rfl) 1 (by decide) q hq).1
    · rw [r_o a g] at hq
      exact y.2 q hq
theorem k_image0 (h : rAll Z Rf K n) : okC (d + 3) 110 195 [.inl 0] Z Rf K n z := by
  have h00 := h
  obtain ⟨a1, a2, a3, a4, a5, a6, a7, a8, a9, a10, a11, a12⟩ := h
  by_cases h5 : Z 79 5 = 0
  · refine okC_of 0 Z Z (fun Q hQ => ?_) (fun Q hQ => ?_) h00 rfl
    · rw [c_image0 a1 (by rw [a6.1]; exact a6.2.1) (fun g => by rw [a6.1] at g; omega), a6.1, if_pos h5]
      exact hQ
    · rw [m_image0 a1 a6.2.1, if_pos h5]
      exact hQ
  · have h51 : Z 79 5 = 1 := a6.2.1.resolve_left h5
    obtain ⟨k4, k5⟩ := a6.2.2 h51
    have hb := k5.2.2.2.2.2.2.2.1
    have hs : ∀ k, k < 4 → ∃ a, Rf 43 k = some a ∧ K a = (2, 2) := fun k hk => by
      obtain ⟨a, q, L, P, x1, x2, _⟩ := hb k hk
      exact ⟨a, x1, x2⟩
    obtain ⟨Rf1, hRf1⟩ : ∃ R, R = c_hbBack Rf := ⟨_, rfl⟩
    have r_o : ∀ a, a ≠ 18 → Rf1 a = Rf a := fun a q => by
      rw [hRf1]
      unfold c_hbBack
      rw [sm_u_row q, sm_u_row q, sm_u_row q, sm_u_row q]
    have r_18 : ∀ k, k < 4 → Rf1 18 k = Rf 43 k := fun k hk => by
      obtain ⟨a, x1, _⟩ := hs k hk
      have : Rf1 18 k = some ((Rf 43 k).getD 0) := by
        rw [hRf1]
        unfold c_hbBack
        rw [sm_u_eq, sm_u_eq, sm_u_eq, sm_u_eq]
        have hk4 : k = 0 ∨ k = 1 ∨ k = 2 ∨ k = 3 := by omega
        rcases hk4 with g | g | g | g <;> rw [g] <;> rfl
      rw [this, x1]
      rfl
    have H1 : sm_sh Rf1 K := by
      rw [hRf1]
      unfold c_hbBack
      exact sm_sh_u (sm_sh_u (sm_sh_u (sm_sh_u a1 (Or.inl rfl)) (Or.inl rfl)) (Or.inl rfl)) (Or.inl rfl)
    obtain ⟨Z1, hZ1⟩ : ∃ Z1, Z1 = sm_u (c_cpBack Z) 0 12 0 := ⟨_, rfl⟩
    obtain ⟨Z2, hZ2⟩ : ∃ Z2, Z2 = sm_u (sm_u (sm_cr Z1 81 80 0 5480) 79 4 0) 79 5 1 := ⟨_, rfl⟩
    have o1 : ∀ a, a ≠ 0 → Z1 a = c_cpBack Z a := fun a q => by rw [hZ1, sm_u_row q]
    have o2 : ∀ a, a ≠ 79 → a ≠ 80 → Z2 a = Z1 a := fun a q1 q2 => by rw [hZ2, sm_u_row q1, sm_u_row q1, sm_crw q2]
    have e : ∀ a, a ≠ 79 → a ≠ 80 → 25 < a → Z2 a = Z a := fun a q2 q3 q4 => by rw [o2 a q2 q3, o1 a (by omega), cpBack_o (by omega)]
    have ek : ∀ a, 1 ≤ a → a ≤ 25 → Z2 a = c_cpBack Z a := fun a q1 q2 => by rw [o2 a (by omega) (by omega), o1 a (by omega)]
    have e19 : ∀ a, a = 19 ∨ a = 20 ∨ (97 ≤ a ∧ a < 1000000) → Z2 a = Z a := fun a ha => by
      by_cases g : 25 < a
      · exact e a (by omega) (by omega) g
      · rw [ek a (by omega) (by omega)]
        funext j
        exact cpBack_19 (by omega)
    have v0 : ∀ j, Z2 0 j = if j = 12 then 0 else Z 0 j := fun j => by rw [o2 0 (by decide) (by decide), hZ1, sm_u_eq, cpBack_o (by omega)]
    have v79 : ∀ j, Z2 79 j = if j = 5 then 1 else if j = 4 then 0 else Z 79 j := fun j => by rw [hZ2, sm_u_eq, sm_u_eq, sm_crw (by decide), o1 79 (by decide), cpBack_o (by omega)]
    have e81 : Z2 81 = Z 81 := e 81 (by decide) (by decide) (by decide)
    have v80 : ∀ j, j < 5480 → Z2 80 j = Z 81 j := fun j hj => by
      rw [hZ2, sm_u_row (by decide), sm_u_row (by decide)]
      show (if 80 = 80 ∧ 0 ≤ j ∧ j < 5480 then Z1 81 j else Z1 80 j) = _
      rw [if_pos ⟨rfl, Nat.zero_le _, hj⟩, o1 81 (by decide), cpBack_o (by omega)]
    refine ⟨1, Z1, Rf1, K, n, z, Z2, fun Q hQ => ?_, fun Q hQ => ?_, ⟨H1, zs_fr a2 (fun a ha => e a (by omega) (by omega) (by omega)), stI_fr (fun a ha => ?_) a3, invD_lo v80 k4, ?_, ?_, ?_, ?_, ?_, by rw [v79, if_neg (by decide), if_neg (by decide)]; exact a10, ⟨a11.1, by rw [r_o 19 (by decide)]; exact a11.2.1, by rw [e19 19 (by omega)]; exact a11.2.2⟩, ?_⟩, by omega, e _ (by decide) (by decide) (by omega), rfl⟩
    · rw [c_image0 a1 (by rw [a6.1]; exact a6.2.1) (fun _ k hk => by
        obtain ⟨a, x1, x2⟩ := hs k hk
        rw [x1]
        exact ⟨rfl, by show (K a).1 = 2; rw [x2]⟩), a6.1, if_neg h5, ← hZ1, ← hRf1]
      exact hQ
    · have e795 : Z1 79 5 = Z 79 5 := by rw [o1 79 (by decide), cpBack_o (by omega)]
      rw [m_image0 H1 (by rw [e795]; exact a6.2.1), e795, if_neg h5, ← hZ2]
      exact hQ
    · by_cases g : 25 < a
      · rw [e a (by omega) (by omega) g]
      · rw [ek a (by omega) (by omega), cpBack_19 (Or.inl ⟨by omega, rfl⟩)]
    · obtain ⟨p1, p2, p3, p4, p5, p6, p7, p8, p9, p10, p11⟩ := cpBack_c Z
      refine rD_copy (Z := Z) (b := 26) k4 v80 ?_ (fun r q1 q2 j hj => ?_) (fun j hj => ?_) (fun r hr => ?_) (fun j hj => ?_) (fun j hj => ?_) (fun j hj => ?_) (fun j hj => ?_) (fun j hj => ?_) (fun j hj => ?_) (fun j hj => ?_) ?_ (rHb_mv v80 e19 r_18 (fun a ha => r_o a (by omega)) hb) k5
      · rw [ek 1 (by decide) (by decide)]; exact p1
      · rw [ek _ (by omega) (by omega)]; exact p2 r q1 q2 j hj
      · rw [ek _ (by omega) (by omega)]; exact p3 j hj
      · rw [ek _ (by omega) (by omega)]; exact p4 r hr
      · rw [ek _ (by omega) (by omega)]; exact p5 j hj
      · rw [ek _ (by omega) (by omega)]; exact p6 j hj
      · rw [ek _ (by omega) (by omega)]; exact p7 j hj
      · rw [ek _ (by omega) (by omega)]; exact p8 j hj
      · rw [ek _ (by omega) (by omega)]; exact p9 j hj
      · rw [ek _ (by omega) (by omega)]; exact p10 j hj
      · rw [ek _ (by omega) (by omega)]; exact p11 j hj
      · rw [ek _ (by omega) (by omega), cpBack_19 (Or.inl ⟨by omega, rfl⟩)]
        exact a3.2.2.2.2.1
    · unfold rKp
      rw [v0, v79, if_neg (by decide), if_pos rfl, e81]
      refine ⟨by rw [a6.1]; exact h51, Or.inr rfl, fun _ => ⟨k4, ?_⟩⟩
      exact rD_hab k4 (fun a p1 p2 => e a (by omega) (by omega) (by omega)) (fun _ _ => rfl) (rHb_mv (fun _ _ => rfl) e19 (fun k _ => by rw [r_o 43 (by decide)]) (fun a ha => r_o a (by omega)) hb) k5
    · unfold rCh
      rw [v0, v79, if_pos rfl, if_neg (by decide), if_pos rfl]
      exact ⟨rfl, by omega, fun j hj => absurd hj (by omega)⟩
    · unfold rTp at a8 ⊢
      rw [v0, v79, if_neg (by decide), if_neg (by decide), if_neg (by decide), e 77 (by decide) (by decide) (by omega), e 86 (by decide) (by decide) (by omega)]
      exact a8
    · unfold rFt at a9 ⊢
      rw [v0, v0, v79, v79, if_neg (by decide), if_neg (by decide), if_neg (by decide), if_neg (by decide), if_neg (by decide), if_neg (by decide)]
      exact a9
    · intro b hbb k hk a ha
      have ha43 : Rf 43 k = some a := by
        rcases hbb with g | g
        · rw [g, r_18 k hk] at ha; exact ha
        · rw [g, r_o 43 (by decide)] at ha; exact ha
      have y := a12 43 (Or.inr rfl) k hk a ha43
      refine ⟨y.1, fun q hq => ?_⟩
      by_cases g : a = 18
      · rw [g, r_18 1 (by decide)] at hq
        exact (a12 43 (Or.inr rfl) 1 (by decide) q hq).1
      · rw [r_o a g] at hq
        exact y.2 q hq
end KIMAGE
