/-! The call land keeps the relation. -/
section KLAND
variable {d n z : Nat} {Rf : Nat → Nat → Option Nat} {K : Nat → Nat × Nat} {Z : Nat → Nat → Int}
theorem k_land (hA : rAll Z Rf K n) {w h : Int} (hw : aI w) (hh : aI h) : okC (d + 3) 84 126 [.inl w, .inl h] Z Rf K n z := by
  have hA0 := hA
  obtain ⟨a1, a2, a3, a4, a5, a6, a7, a8, a9, a10, a11, a12⟩ := hA0
  by_cases ht : (2 ≤ w ∧ w ≤ 10) ∧ (2 ≤ h ∧ h ≤ 10)
  · obtain ⟨Z1, hZ1⟩ : ∃ Z1, Z1 = sm_u (c_new Z w h) 0 12 0 := ⟨_, rfl⟩
    have o1 : ∀ a, a ≠ 0 → Z1 a = c_new Z w h a := fun a q => by rw [hZ1, sm_u_row q]
    obtain ⟨Z2, hZ2⟩ : ∃ Z2, Z2 = m_new Z1 w h := ⟨_, rfl⟩
    have o2 : ∀ a, a ≠ 79 → a ≠ 80 → Z2 a = Z1 a := fun a q1 q2 => by rw [hZ2, mnew_o q1 q2]
    have oc : ∀ a, a ≠ 0 → a ≠ 79 → a ≠ 80 → Z2 a = c_new Z w h a := fun a q0 q1 q2 => by rw [o2 a q1 q2, o1 a q0]
    have e : ∀ a, a ≠ 0 → a ≠ 79 → a ≠ 80 → ((17 ≤ a ∧ a < 22) ∨ 24 < a) → Z2 a = Z a := fun a q0 q1 q2 q3 => by rw [oc a q0 q1 q2, cnew_o (by omega)]
    have v0 : ∀ j, Z2 0 j = if j = 12 then 0 else Z 0 j := fun j => by rw [o2 0 (by decide) (by decide), hZ1, sm_u_eq, cnew_o (by omega)]
    have v79 : ∀ j, Z2 79 j = if j = 4 then 0 else Z 79 j := fun j => by rw [hZ2, mnew_79, o1 79 (by decide), cnew_o (by omega)]
    have e80 : Z1 80 = Z 80 := by rw [o1 80 (by decide), cnew_o (by omega)]
    have v80 : ∀ k, Z2 80 k = if k = 6 then 0 else if 1092 ≤ k ∧ k < 1334 then -1 else if 850 ≤ k ∧ k < 1092 then -1 else if 420 ≤ k ∧ k < 520 then 1 else if k = 1 then h else if k = 0 then w else if k = 2 then Z 80 2 else if 0 ≤ k ∧ k < 5480 then 0 else Z 80 k := fun k => by rw [hZ2, mnew_80, e80]
    have z0 : ∀ k, (3 ≤ k ∧ k < 420) ∨ (520 ≤ k ∧ k < 850) ∨ (1334 ≤ k ∧ k < 5480) → Z2 80 k = 0 := fun k hk => by
      rw [v80]
      by_cases g : k = 6
      · rw [if_pos g]
      · rw [if_neg g, if_neg (by omega), if_neg (by omega), if_neg (by omega), if_neg (by omega), if_neg (by omega), if_neg (by omega), if_pos (by omega)]
    have z1 : ∀ k, k < 100 → Z2 80 (420 + k) = 1 := fun k hk => by rw [v80, if_neg (by omega), if_neg (by omega), if_neg (by omega), if_pos (by omega)]
    have zm : ∀ k, 850 ≤ k → k < 1334 → Z2 80 k = -1 := fun k q1 q2 => by
      rw [v80, if_neg (by omega)]
      by_cases g : 1092 ≤ k ∧ k < 1334
      · rw [if_pos g]
      · rw [if_neg g, if_pos (by omega)]
    have w0 : Z2 80 0 = w := by rw [v80]; rfl
    have w1 : Z2 80 1 = h := by rw [v80]; rfl
    have w2 : Z2 80 2 = Z 80 2 := by rw [v80]; rfl
    obtain ⟨c1, c2, c3, c4, c5, c6⟩ := cnew_c Z w h
    have H1 : sm_sh (hbE Rf) K := by
      unfold hbE
      exact sm_sh_u (sm_sh_u (sm_sh_u (sm_sh_u a1 (Or.inl rfl)) (Or.inl rfl)) (Or.inl rfl)) (Or.inl rfl)
    have wf : ∀ k, k < 4 → wfL (Z2 80) k 0 (fun _ => 0) := fun k hk => ⟨by rw [z0 _ (by omega)]; rfl, by omega, rfl, fun i hi => by omega⟩
    have hb18 : rHb Z2 (hbE Rf) K (Z2 80) 18 := fun k hk => ⟨19, 20, 0, fun _ => 0, hbE_18 hk, a1.2.2.2.2, by rw [hbE_o (by decide)]; exact a11.2.1, Or.inl rfl, Or.inl rfl, wf k hk, a1.1 20 (by decide), fun i hi => by omega, by rw [e 19 (by decide) (by decide) (by decide) (by omega)]; exact a11.2.2⟩
    refine ⟨1, Z1, hbE Rf, K, n, z, Z2, fun Q hQ => by rw [c_land a1 hw hh, if_pos ht, ← hZ1]; exact hQ, fun Q hQ => by rw [m_land (d := d + 1) H1 hw hh, if_pos ht, ← hZ2]; exact hQ, ⟨H1, zs_fr a2 (fun a ha => e a (by omega) (by omega) (by omega) (by omega)), stI_fr (fun a ha => ?_) a3, ?_, ?_, ?_, ?_, ?_, ?_, by rw [v79, if_neg (by decide)]; exact a10, ⟨a11.1, by rw [hbE_o (by decide)]; exact a11.2.1, by rw [e 19 (by decide) (by decide) (by decide) (by omega)]; exact a11.2.2⟩, ?_⟩, by omega, e _ (by decide) (by decide) (by decide) (by omega), rfl⟩
    · by_cases g : 24 < a
      · rw [e a (by omega) (by omega) (by omega) (by omega)]
      · rw [oc a (by omega) (by omega) (by omega)]
        have : a = 10 ∨ a = 12 ∨ a = 14 ∨ a = 16 ∨ a = 24 := by omega
        rcases this with g | g | g | g | g <;> rw [g]
        · exact c4.1
        · exact c4.2.1
        · exact c4.2.2.1
        · exact c4.2.2.2.1
        · exact c4.2.2.2.2
    · refine ⟨⟨?_, fun k hk => ?_, fun k hk => ?_, ?_, fun c hc => ?_, fun k hk => ?_, fun k hk => ⟨0, _, wf k hk⟩⟩, ⟨?_, fun s hs => ?_⟩, ?_, fun c hc => ?_, fun c hc => ?_, fun c hc => ?_, fun c hc => ?_, ⟨?_, fun i hi => ?_⟩, ⟨?_, fun i hi => ?_⟩, ⟨?_, fun i hi => ?_⟩, fun i hi => ?_⟩
      · unfold szN; rw [w0, w1]; omega
      · rw [zm _ (by omega) (by omega)]; omega
      · rw [zm _ (by omega) (by omega)]; omega
      · rw [z0 _ (by omega)]; omega
      · rw [z0 _ (by omega)]; exact Or.inl rfl
      · rw [z0 _ (by omega)]; exact Or.inl rfl
      · rw [z0 _ (by omega)]; omega
      · rw [z0 4 (by omega)] at hs; omega
      · rw [z0 _ (by omega)]; omega
      · rw [z0 _ (by omega)]; exact Or.inl rfl
      · rw [z0 _ (by omega)]; exact Or.inl rfl
      · rw [z1 c hc]; omega
      · rw [z0 _ (by omega)]; omega
      · rw [z0 _ (by omega)]; omega
      · rw [z0 5 (by omega)] at hi; omega
      · rw [z0 _ (by omega)]; omega
      · rw [z0 7 (by omega)] at hi; omega
      · rw [z0 _ (by omega)]; omega
      · rw [z0 8 (by omega)] at hi; omega
      · rw [z0 6 (by omega)] at hi; omega
    · refine ⟨?_, fun c hc => ?_, fun k hk => ?_, ⟨?_, fun i hi => ?_⟩, ⟨?_, fun i hi => ?_⟩, ⟨?_, fun i hi => ?_⟩, ⟨?_, fun i hi => ?_⟩, hb18, ?_⟩
      · rw [oc 1 (by decide) (by decide) (by decide), w0, w1, w2, z0 3 (by omega)]
        exact ⟨c6.1, c6.2.1, by rw [c6.2.2.1]; exact a5.1.2.2.1, c6.2.2.2⟩
      · rw [oc (1 + 1) (by omega) (by omega) (by omega), oc (1 + 2) (by omega) (by omega) (by omega), oc (1 + 3) (by omega) (by omega) (by omega), oc (1 + 4) (by omega) (by omega) (by omega), oc (1 + 5) (by omega) (by omega) (by omega), oc (1 + 6) (by omega) (by omega) (by omega), oc (1 + 7) (by omega) (by omega) (by omega), z0 (20 + c) (by omega), z1 c hc, z0 (320 + c) (by omega), z0 (120 + c) (by omega), z0 (220 + c) (by omega), if_pos rfl, if_pos rfl]
        exact c1 c hc
      · rw [oc _ (by omega) (by omega) (by omega), z0 _ (by omega)]; exact c2 k hk
      · rw [oc _ (by omega) (by omega) (by omega), z0 _ (by omega)]; exact c3.1
      · rw [z0 5 (by omega)] at hi; omega
      · rw [oc _ (by omega) (by omega) (by omega), z0 _ (by omega)]; exact c3.2.1
      · rw [z0 4 (by omega)] at hi; omega
      · rw [oc _ (by omega) (by omega) (by omega), z0 _ (by omega)]; exact c3.2.2.1
      · rw [z0 7 (by omega)] at hi; omega
      · rw [oc _ (by omega) (by omega) (by omega), z0 _ (by omega)]; exact c3.2.2.2.1
      · rw [z0 8 (by omega)] at hi; omega
      · refine ⟨fun k hk => ?_, fun k hk => ?_, Or.inr ⟨rfl, ?_, ?_, fun i hi => ?_⟩⟩
        · rw [oc _ (by omega) (by omega) (by omega), zm _ (by omega) (by omega)]; exact (c5 k hk).1
        · rw [oc _ (by omega) (by omega) (by omega), zm _ (by omega) (by omega)]; exact (c5 k hk).2
        · rw [oc _ (by omega) (by omega) (by omega)]
          exact c4.2.2.2.2.trans a3.2.2.2.2.1
        · rw [oc _ (by omega) (by omega) (by omega), z0 _ (by omega)]; exact c3.2.2.2.2
        · rw [z0 6 (by omega)] at hi; omega
    · unfold rKp at a6 ⊢
      rw [v0, v79, if_neg (by decide), if_neg (by decide), e 81 (by decide) (by decide) (by decide) (by omega)]
      refine ⟨a6.1, a6.2.1, fun g => ⟨(a6.2.2 g).1, rD_hab (a6.2.2 g).1 (fun a p1 p2 => e a (by omega) (by omega) (by omega) (by omega)) (fun _ _ => rfl) (rHb_mv (fun _ _ => rfl) (fun a ha => e a (by omega) (by omega) (by omega) (by omega)) (fun k _ => by rw [hbE_o (by decide)]) (fun a ha => hbE_o (by omega)) (a6.2.2 g).2.2.2.2.2.2.2.2.1) (a6.2.2 g).2⟩⟩
    · unfold rCh
      rw [v0, v79, if_pos rfl, if_pos rfl]
      exact ⟨rfl, by omega, fun j hj => absurd hj (by omega)⟩
    · unfold rTp at a8 ⊢
      rw [v0, v79, if_neg (by decide), if_neg (by decide), e 77 (by decide) (by decide) (by decide) (by omega), e 86 (by decide) (by decide) (by decide) (by omega)]
      exact a8
    · unfold rFt at a9 ⊢
      rw [v0, v0, v79, v79, if_neg (by decide), if_neg (by decide), if_neg (by decide), if_neg (by decide)]
      exact a9
    · intro b hb k hk a ha
      rcases hb with g | g
      · rw [g, hbE_18 hk] at ha
        have ea := Option.some.inj ha
        refine ⟨by have := a11.1; omega, fun q hq => ?_⟩
        rw [← ea, hbE_o (by decide), a11.2.1] at hq
        have := Option.some.inj hq
        have := a11.1
        omega
      · rw [g, hbE_o (by decide)] at ha
        have y := a12 43 (Or.inr rfl) k hk a ha
        refine ⟨y.1, fun q hq => ?_⟩
        by_cases g18 : a = 18
        · rw [g18, hbE_18 (by decide)] at hq
          have := Option.some.inj hq
          have := a11.1
          omega
        · rw [hbE_o g18] at hq
          exact y.2 q hq
  · refine okC_of 0 Z Z (fun Q hQ => ?_) (fun Q hQ => ?_) hA rfl
    · rw [c_land a1 hw hh, if_neg ht]
      exact hQ
    · rw [m_land (d := d + 1) a1 hw hh, if_neg ht]
      exact hQ
end KLAND
