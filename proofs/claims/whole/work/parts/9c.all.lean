/-! The class and the model side by side, and each call. -/
/-- habits lie among what was made -/
def hbN (Rf : Nat → Nat → Option Nat) (n : Nat) : Prop := ∀ b, b = 18 ∨ b = 43 → ∀ k, k < 4 → ∀ a, Rf b k = some a → a < n ∧ ∀ q, Rf a 1 = some q → q < n
def rKp (Z : Nat → Nat → Int) (Rf : Nat → Nat → Option Nat) (K : Nat → Nat × Nat) : Prop := Z 0 2 = Z 79 5 ∧ (Z 79 5 = 0 ∨ Z 79 5 = 1) ∧ (Z 79 5 = 1 → invD (Z 81) ∧ rD Z Rf K (Z 81) 26)
def rCh (Z : Nat → Nat → Int) : Prop := Z 0 12 = Z 79 4 ∧ (0 ≤ Z 79 4 ∧ Z 79 4 ≤ 10) ∧ ∀ j : Nat, (j : Int) < Z 79 4 → Z 78 j = Z 83 j ∧ isC (Z 80 0) (Z 80 1) (Z 83 j) = true
def rTp (Z : Nat → Nat → Int) : Prop := Z 0 8 = Z 79 14 ∧ (0 ≤ Z 79 14 ∧ Z 79 14 ≤ 400) ∧ ∀ j, j < 400 → Z 77 j = Z 86 j ∧ 0 ≤ Z 86 j ∧ Z 86 j ≤ 255
def rFt (Z : Nat → Nat → Int) : Prop := Z 0 9 = Z 79 21 ∧ Z 0 10 = Z 79 23
def rAll (Z : Nat → Nat → Int) (Rf : Nat → Nat → Option Nat) (K : Nat → Nat × Nat) (n : Nat) : Prop := sm_sh Rf K ∧ sm_zs Z ∧ stI Z ∧ invD (Z 80) ∧ rD Z Rf K (Z 80) 1 ∧ rKp Z Rf K ∧ rCh Z ∧ rTp Z ∧ rFt Z ∧ Z 79 6 = 0 ∧ (97 ≤ n ∧ Rf 19 1 = some 20 ∧ Z 19 0 = 0) ∧ hbN Rf n
/-- a call answers alike in both, and they stay side by side -/
def okC (d j m : Nat) (as : List sm_V) (Z : Nat → Nat → Int) (Rf : Nat → Nat → Option Nat) (K : Nat → Nat × Nat) (n z : Nat) : Prop := ∃ v Z1 Rf1 K1 n1 z1 Z2, (∀ Q : Option sm_V → sm_S → Prop, Q (some (.inl v)) (Z1, Rf1, K1, n1, z1) → sm_call d j (.inr (some 0) :: as) (Z, Rf, K, n, z) Q) ∧ (∀ Q : Option sm_V → sm_S → Prop, Q (some (.inl v)) (Z2, Rf1, K1, n1, z1) → sm_call d m (.inr (some 79) :: as) (Z1, Rf1, K1, n1, z1) Q) ∧ rAll Z2 Rf1 K1 n1 ∧ (n1 ≤ n + 2 ∧ z1 ≤ z + 500) ∧ Z2 4000000 = Z 4000000 ∧ K1 4000000 = K 4000000
/-- a call that makes nothing new -/
theorem okC_of {d j m : Nat} {as : List sm_V} {Z : Nat → Nat → Int} {Rf : Nat → Nat → Option Nat} {K : Nat → Nat × Nat} {n z : Nat} (v : Int) (Z1 Z2 : Nat → Nat → Int) (h1 : ∀ Q : Option sm_V → sm_S → Prop, Q (some (.inl v)) (Z1, Rf, K, n, z) → sm_call d j (.inr (some 0) :: as) (Z, Rf, K, n, z) Q) (h2 : ∀ Q : Option sm_V → sm_S → Prop, Q (some (.inl v)) (Z2, Rf, K, n, z) → sm_call d m (.inr (some 79) :: as) (Z1, Rf, K, n, z) Q) (h3 : rAll Z2 Rf K n) (h4 : Z2 4000000 = Z 4000000) : okC d j m as Z Rf K n z :=
  ⟨v, Z1, Rf, K, n, z, Z2, h1, h2, h3, by omega, h4, rfl⟩
theorem rD_grid {Z Z' : Nat → Nat → Int} {Rf : Nat → Nat → Option Nat} {K : Nat → Nat × Nat} {M M' : Nat → Int} (h2 : ∀ c, c < 100 → Z' 2 c = M' (20 + c) ∧ Z' 3 c = M' (420 + c) ∧ Z' 4 c = M' (320 + c) ∧ Z' 5 c = M' (120 + c) ∧ Z' 6 c = M' (220 + c) ∧ (Z' 7 c = if M' (220 + c) = 0 then 0 else M' (620 + c)) ∧ (Z' 8 c = if M' (220 + c) = 0 then -1 else M' (520 + c))) (hz : ∀ a, (a < 2 ∨ 8 < a) → a < 79 ∨ 96 < a → Z' a = Z a) (hM : ∀ k, (k < 20 ∨ 720 ≤ k) → M' k = M k) (hr : rD Z Rf K M 1) : rD Z' Rf K M' 1 := by
  obtain ⟨h1, _, h3, h4, h5, h6, h7, h8, h9⟩ := hr
  refine ⟨?_, h2, fun k hk => ?_, ?_, ?_, ?_, ?_, ?_, ?_⟩
  · rw [hz 1 (by omega) (by omega), hM 0 (by omega), hM 1 (by omega), hM 2 (by omega), hM 3 (by omega)]
    exact h1
  · rw [hz _ (by omega) (by omega), hM _ (by omega)]
    exact h3 k hk
  · rw [hz _ (by omega) (by omega), hz _ (by omega) (by omega), hM _ (by omega)]
    refine ⟨h4.1, fun i hi => ?_⟩
    rw [hM _ (by omega), hM _ (by omega)]
    exact h4.2 i hi
  · rw [hz _ (by omega) (by omega), hz _ (by omega) (by omega), hM _ (by omega)]
    refine ⟨h5.1, fun i hi c hc => ?_⟩
    rw [hM _ (by omega)]
    exact h5.2 i hi c hc
  · rw [hz _ (by omega) (by omega), hz _ (by omega) (by omega), hM _ (by omega)]
    refine ⟨h6.1, fun i hi c hc => ?_⟩
    rw [hM _ (by omega)]
    exact h6.2 i hi c hc
  · rw [hz _ (by omega) (by omega), hz _ (by omega) (by omega), hM _ (by omega)]
    refine ⟨h7.1, fun i hi c hc => ?_⟩
    rw [hM _ (by omega)]
    exact h7.2 i hi c hc
  · exact rHb_cg (fun k hk => hM k (by omega)) (fun a ha => hz a (by omega) (by omega)) h8
  · obtain ⟨b1, b2, b3⟩ := h9
    refine ⟨fun k hk => by rw [hz _ (by omega) (by omega), hM _ (by omega)]; exact b1 k hk, fun k hk => by rw [hz _ (by omega) (by omega), hM _ (by omega)]; exact b2 k hk, ?_⟩
    rcases b3 with b3 | b3
    · exact Or.inl ⟨b3.1, by rw [hz _ (by omega) (by omega)]; exact b3.2.1, by rw [hz _ (by omega) (by omega)]; exact b3.2.2⟩
    · refine Or.inr ⟨b3.1, by rw [hz _ (by omega) (by omega)]; exact b3.2.1, by rw [hz _ (by omega) (by omega), hM _ (by omega)]; exact b3.2.2.1, fun i hi c hc => ?_⟩
      rw [hM _ (by omega)] at hi
      rw [hM _ (by omega), hz _ (by omega) (by omega)]
      exact b3.2.2.2 i hi c hc
theorem invD_grid {M M' : Nat → Int} (h : ∀ k, (k < 20 ∨ 720 ≤ k) → M' k = M k) (hg : ∀ c, c < 100 → (M' (320 + c) = 0 ∨ M' (320 + c) = 1) ∧ (M' (120 + c) = 0 ∨ M' (120 + c) = 1) ∧ (M' (220 + c) = 0 ∨ M' (220 + c) = 1) ∧ (0 ≤ M' (420 + c) ∧ M' (420 + c) ≤ 99) ∧ -1 ≤ M' (520 + c) ∧ M' (520 + c) < 100) (hi : invD M) : invD M' := by
  obtain ⟨⟨f1, f2, f3, f4, f5, f6, f7⟩, i2, i3, i4, i5, i6, i7, i8, i9, i10, i11⟩ := hi
  refine ⟨⟨?_, fun k hk => ?_, fun k hk => ?_, ?_, fun c hc => (hg c hc).1, fun k hk => ?_, fun k hk => ?_⟩, swS_cg (fun k hk => h k (by omega)) i2, ?_, fun c hc => (hg c hc).2.1, fun c hc => (hg c hc).2.2.1, fun c hc => (hg c hc).2.2.2.1, fun c hc => (hg c hc).2.2.2.2, ?_, ?_, ?_, ?_⟩
  · unfold szN at f1 ⊢
    rw [h 0 (by omega), h 1 (by omega)]
    exact f1
  · rw [h _ (by omega)]; exact f2 k hk
  · rw [h _ (by omega)]; exact f3 k hk
  · rw [h 6 (by omega)]; exact f4
  · rw [h _ (by omega)]; exact f6 k hk
  · obtain ⟨L, P, hw⟩ := f7 k hk
    exact ⟨L, P, wfL_cg (fun k hk => h k (by omega)) hw⟩
  · rw [h 3 (by omega)]; exact i3
  · rw [h 5 (by omega)]
    refine ⟨i8.1, fun i hi => ?_⟩
    rw [h _ (by omega), h _ (by omega)]
    exact i8.2 i hi
  · rw [h 7 (by omega), h 0 (by omega), h 1 (by omega)]
    refine ⟨i9.1, fun i hi => ?_⟩
    rw [h _ (by omega), h _ (by omega), h _ (by omega)]
    exact i9.2 i hi
  · rw [h 8 (by omega), h 0 (by omega), h 1 (by omega)]
    refine ⟨i10.1, fun i hi => ?_⟩
    rw [h _ (by omega), h _ (by omega), h _ (by omega)]
    exact i10.2 i hi
  · rw [h 6 (by omega)]
    intro i hi
    rw [h _ (by omega), h _ (by omega)]
    exact i11 i hi
theorem gridB {M : Nat → Int} (hi : invD M) : ∀ c, c < 100 → (M (320 + c) = 0 ∨ M (320 + c) = 1) ∧ (M (120 + c) = 0 ∨ M (120 + c) = 1) ∧ (M (220 + c) = 0 ∨ M (220 + c) = 1) ∧ (0 ≤ M (420 + c) ∧ M (420 + c) ≤ 99) ∧ -1 ≤ M (520 + c) ∧ M (520 + c) < 100 := by
  obtain ⟨⟨f1, f2, f3, f4, f5, f6, f7⟩, i2, i3, i4, i5, i6, i7, _⟩ := hi
  exact fun c hc => ⟨f5 c hc, i4 c hc, i5 c hc, i6 c hc, i7 c hc⟩
/-- the relation where only the duchy (rows 1..25, 80) changed -/
theorem rAll_duchy {Z Z' : Nat → Nat → Int} {Rf : Nat → Nat → Option Nat} {K : Nat → Nat × Nat} {n : Nat} (hz : ∀ a, (a < 1 ∨ 25 < a) → ¬ a = 80 → Z' a = Z a) (hs : ∀ a, a = 10 ∨ a = 12 ∨ a = 14 ∨ a = 16 ∨ a = 24 → Z' a 0 = Z a 0) (hy : Z' 19 = Z 19 ∧ Z' 20 = Z 20) (hi : invD (Z' 80)) (hr : rD Z' Rf K (Z' 80) 1) (h : rAll Z Rf K n) (hw : Z' 80 0 = Z 80 0 ∧ Z' 80 1 = Z 80 1) : rAll Z' Rf K n := by
  obtain ⟨a1, a2, a3, a4, a5, a6, a7, a8, a9, a10, a11, a12⟩ := h
  refine ⟨a1, zs_fr a2 (fun a ha => hz a (by omega) (by omega)), stI_fr (fun a ha => ?_) a3, hi, hr, ?_, ?_, ?_, ?_, by rw [hz 79 (by omega) (by omega)]; exact a10, ⟨a11.1, a11.2.1, by rw [hy.1]; exact a11.2.2⟩, a12⟩
  · by_cases g : a = 49 ∨ a = 59 ∨ a = 67
    · rw [hz a (by omega) (by omega)]
    · exact hs a (by omega)
  · unfold rKp at a6 ⊢
    rw [hz 0 (by omega) (by omega), hz 79 (by omega) (by omega), hz 81 (by omega) (by omega)]
    refine ⟨a6.1, a6.2.1, fun g => ⟨(a6.2.2 g).1, ?_⟩⟩
    refine rD_row (by rw [hz 26 (by omega) (by omega)]; exact (a6.2.2 g).2.1) (fun a q1 q2 => hz a (by omega) (by omega)) (fun a ha => ?_) (fun _ _ => rfl) (a6.2.2 g).2
    by_cases g1 : a = 19
    · rw [g1]; exact hy.1
    · by_cases g2 : a = 20
      · rw [g2]; exact hy.2
      · exact hz a (by omega) (by omega)
  · unfold rCh at a7 ⊢
    rw [hz 0 (by omega) (by omega), hz 79 (by omega) (by omega), hz 78 (by omega) (by omega), hz 83 (by omega) (by omega), hw.1, hw.2]
    exact a7
  · unfold rTp at a8 ⊢
    rw [hz 0 (by omega) (by omega), hz 79 (by omega) (by omega), hz 77 (by omega) (by omega), hz 86 (by omega) (by omega)]
    exact a8
  · unfold rFt at a9 ⊢
    rw [hz 0 (by omega) (by omega), hz 79 (by omega) (by omega)]
    exact a9
/-- the relation after thinking -/
theorem rAll_T {Z Z' : Nat → Nat → Int} {Rf : Nat → Nat → Option Nat} {K : Nat → Nat × Nat} {n : Nat} (hf : frT Z Z') (h : rAll Z Rf K n) : rAll Z' Rf K n := by
  obtain ⟨a1, a2, a3, a4, a5, a6, a7, a8, a9, a10, a11, a12⟩ := h
  have hz : ∀ a, (a < 51 ∨ 76 < a) → Z' a = Z a := hf.1
  refine ⟨a1, zs_fr a2 (fun a ha => hz a (by omega)), stI_frT hf a3, by rw [hz 80 (by omega)]; exact a4, by rw [hz 80 (by omega)]; exact rD_frT hf a5, ?_, ?_, ?_, ?_, by rw [hz 79 (by omega)]; exact a10, ⟨a11.1, a11.2.1, by rw [hz 19 (by omega)]; exact a11.2.2⟩, a12⟩
  · unfold rKp at a6 ⊢
    rw [hz 0 (by omega), hz 79 (by omega), hz 81 (by omega)]
    exact ⟨a6.1, a6.2.1, fun g => ⟨(a6.2.2 g).1, rD_row (by rw [hz 26 (by omega)]; exact (a6.2.2 g).2.1) (fun a q1 q2 => hz a (by omega)) (fun a ha => hz a (by omega)) (fun _ _ => rfl) (a6.2.2 g).2⟩⟩
  · unfold rCh at a7 ⊢
    rw [hz 0 (by omega), hz 79 (by omega), hz 78 (by omega), hz 83 (by omega), hz 80 (by omega)]
    exact a7
  · unfold rTp at a8 ⊢
    rw [hz 0 (by omega), hz 79 (by omega), hz 77 (by omega), hz 86 (by omega)]
    exact a8
  · unfold rFt at a9 ⊢
    rw [hz 0 (by omega), hz 79 (by omega)]
    exact a9
theorem rAll_U {Z Z' : Nat → Nat → Int} {Rf : Nat → Nat → Option Nat} {K : Nat → Nat × Nat} {n : Nat} (hf : frU Z Z') (h : rAll Z Rf K n) : rAll Z' Rf K n := by
  obtain ⟨a1, a2, a3, a4, a5, a6, a7, a8, a9, a10, a11, a12⟩ := h
  have hz : ∀ a, (a < 79 ∨ a = 80 ∨ a = 81 ∨ a = 83 ∨ a = 86 ∨ 96 < a) → Z' a = Z a := hf.1
  have hj := hf.2
  refine ⟨a1, zs_fr a2 (fun a ha => hz a (by omega)), stI_fr (fun a ha => by rw [hz a (by omega)]) a3, by rw [hz 80 (by omega)]; exact a4, ?_, ?_, ?_, ?_, ?_, by rw [hj 6 (by omega)]; exact a10, ⟨a11.1, a11.2.1, by rw [hz 19 (by omega)]; exact a11.2.2⟩, a12⟩
  · rw [hz 80 (by omega)]
    exact rD_row (by rw [hz 1 (by omega)]; exact a5.1) (fun a q1 q2 => hz a (by omega)) (fun a ha => hz a (by omega)) (fun _ _ => rfl) a5
  · unfold rKp at a6 ⊢
    rw [hz 0 (by omega), hj 5 (by omega), hz 81 (by omega)]
    exact ⟨a6.1, a6.2.1, fun g => ⟨(a6.2.2 g).1, rD_row (by rw [hz 26 (by omega)]; exact (a6.2.2 g).2.1) (fun a q1 q2 => hz a (by omega)) (fun a ha => hz a (by omega)) (fun _ _ => rfl) (a6.2.2 g).2⟩⟩
  · unfold rCh at a7 ⊢
    rw [hz 0 (by omega), hj 4 (by omega), hz 78 (by omega), hz 83 (by omega), hz 80 (by omega)]
    exact a7
  · unfold rTp at a8 ⊢
    rw [hz 0 (by omega), hj 14 (by omega), hz 77 (by omega), hz 86 (by omega)]
    exact a8
  · unfold rFt at a9 ⊢
    rw [hz 0 (by omega), hj 21 (by omega), hj 23 (by omega)]
    exact a9
