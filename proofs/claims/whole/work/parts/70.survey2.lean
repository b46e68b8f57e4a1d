/-- the counties of the model's row -/
def nmS (M : Nat → Int) : mkT := coS (M 0) (M 1) (fun j => M (850 + j))
theorem nmS_bd {M : Nat → Int} (hs : szN M) : ∀ k, k < 100 → -1 ≤ (nmS M).1 k ∧ (nmS M).1 k < 100 := fun k hk => (coS_wf hs.1.2 hs.2.2).1 k hk
/-- a survey -/
def svS (M : Nat → Int) : Nat → Int := mvS (nmS (allS false M)).1 (allS false M) 0
theorem mvS_o {nm M : Nat → Int} {k : Nat} (h : k < 520 ∨ 720 ≤ k) : mvS nm M 0 k = M k := by
  unfold mvS
  rw [if_neg (by omega), if_neg (by omega)]
theorem mvS_n {nm M : Nat → Int} {c : Nat} (h : c < 100) : mvS nm M 0 (520 + c) = if M (220 + c) = 0 then M (520 + c) else nm c := by
  unfold mvS
  rw [if_pos (by omega), show 520 + c - 300 = 220 + c by omega, show 520 + c - 520 = c by omega]
theorem mvS_m {nm M : Nat → Int} {c : Nat} (h : c < 100) : mvS nm M 0 (620 + c) = if M (220 + c) = 0 then M (620 + c) else M (620 + c) + (if M (520 + c) = -1 ∨ M (520 + c) = nm c then 0 else 1) := by
  unfold mvS
  rw [if_neg (by omega), if_pos (by omega), show 620 + c - 400 = 220 + c by omega, show 620 + c - 100 = 520 + c by omega, show 620 + c - 620 = c by omega]
theorem wfL_cg {M M' : Nat → Int} (h : ∀ k, 1985 ≤ k → M' k = M k) {k L : Nat} {P : Nat → Nat} (hw : wfL M k L P) : wfL M' k L P := by
  have eA : hbA M' k = hbA M k := by
    funext i
    unfold hbA
    rw [h _ (by omega)]
  have eB : hbB M' k = hbB M k := by
    funext i
    unfold hbB
    rw [h _ (by omega)]
  unfold wfL at hw ⊢
  rw [h _ (by omega), eA, eB]
  refine ⟨hw.1, hw.2.1, hw.2.2.1, fun i hi => ?_⟩
  rw [h _ (by omega), h _ (by omega), h _ (by omega)]
  exact hw.2.2.2 i hi
theorem cdH_cg {C : Nat → Int} {M M' : Nat → Int} (h : ∀ k, 1985 ≤ k → M' k = M k) {k L : Nat} {P : Nat → Nat} (hc : cdH C M k L P) : cdH C M' k L P := by
  have eA : hbA M' k = hbA M k := by
    funext i
    unfold hbA
    rw [h _ (by omega)]
  have eB : hbB M' k = hbB M k := by
    funext i
    unfold hbB
    rw [h _ (by omega)]
  intro i hi
  rw [eA, eB, h _ (by omega)]
  exact hc i hi
theorem rHb_cg {Z Z' : Nat → Nat → Int} {Rf : Nat → Nat → Option Nat} {K : Nat → Nat × Nat} {M M' : Nat → Int} {h : Nat} (hM : ∀ k, 1985 ≤ k → M' k = M k) (hz : ∀ a, a = 19 ∨ a = 20 ∨ (97 ≤ a ∧ a < 1000000) → Z' a = Z a) (hr : rHb Z Rf K M h) : rHb Z' Rf K M' h := by
  intro k hk
  obtain ⟨a, q, L, P, h1, h2, h3, h4, h5, h6, h7, h8, h9⟩ := hr k hk
  refine ⟨a, q, L, P, h1, h2, h3, h4, h5, wfL_cg hM h6, h7, ?_, ?_⟩
  · rw [hz q (by omega)]
    exact cdH_cg hM h8
  · rw [hz a (by omega)]
    exact h9
theorem invF_cg {M M' : Nat → Int} (h : ∀ k, (k < 2 ∨ k = 6 ∨ (320 ≤ k ∧ k < 420) ∨ (720 ≤ k ∧ k < 1340) ∨ 1985 ≤ k) → M' k = M k) (hi : invF M) : invF M' := by
  obtain ⟨i1, i2, i3, i4, i5, i6, i7⟩ := hi
  refine ⟨?_, fun k hk => ?_, fun k hk => ?_, ?_, fun c hc => ?_, fun k hk => ?_, fun k hk => ?_⟩
  · unfold szN at i1 ⊢
    rw [h 0 (by omega), h 1 (by omega)]
    exact i1
  · rw [h _ (by omega)]; exact i2 k hk
  · rw [h _ (by omega)]; exact i3 k hk
  · rw [h 6 (by omega)]; exact i4
  · rw [h _ (by omega)]; exact i5 c hc
  · rw [h _ (by omega)]; exact i6 k hk
  · obtain ⟨L, P, hw⟩ := i7 k hk
    exact ⟨L, P, wfL_cg (fun k hk => h k (by omega)) hw⟩
theorem swS_cg {M M' : Nat → Int} (h : ∀ k, (k < 2 ∨ k = 4 ∨ (1855 ≤ k ∧ k < 1895)) → M' k = M k) (hs : swS M) : swS M' := by
  unfold swS at hs ⊢
  rw [h 4 (by omega), h 0 (by omega), h 1 (by omega)]
  refine ⟨hs.1, fun s hs2 => ?_⟩
  have := hs.1
  rw [h _ (by omega), h _ (by omega), h _ (by omega), h _ (by omega), h _ (by omega)]
  exact hs.2 s hs2
theorem invD_svS {M : Nat → Int} (hi : invD M) : invD (svS M) := by
  obtain ⟨a, b⟩ := allS_inv (th := false) hi.1 hi.2.1
  have h1 := invD_ag b hi a (suI_allS hi.1 hi.2.1)
  have hn := nmS_bd (M := allS false M) h1.1.1
  have e : ∀ k, (k < 520 ∨ 720 ≤ k) → svS M k = allS false M k := fun k hk => mvS_o hk
  obtain ⟨i1, i2, i3, i4, i5, i6, i7, i8, i9, i10, i11⟩ := h1
  refine ⟨invF_cg (fun k hk => e k (by omega)) i1, swS_cg (fun k hk => e k (by omega)) i2, ?_, fun c hc => ?_, fun c hc => ?_, fun c hc => ?_, fun c hc => ?_, ?_, ?_, ?_, ?_⟩
  · rw [e 3 (by omega)]; exact i3
  · rw [e _ (by omega)]; exact i4 c hc
  · rw [e _ (by omega)]; exact i5 c hc
  · rw [e _ (by omega)]; exact i6 c hc
  · have := i7 c hc
    have := hn c hc
    unfold svS
    rw [mvS_n hc]
    split <;> omega
  · rw [e 5 (by omega)]
    refine ⟨i8.1, fun i hi => ?_⟩
    rw [e _ (by omega), e _ (by omega)]
    exact i8.2 i hi
  · rw [e 7 (by omega), e 0 (by omega), e 1 (by omega)]
    refine ⟨i9.1, fun i hi => ?_⟩
    rw [e _ (by omega), e _ (by omega), e _ (by omega)]
    exact i9.2 i hi
  · rw [e 8 (by omega), e 0 (by omega), e 1 (by omega)]
    refine ⟨i10.1, fun i hi => ?_⟩
    rw [e _ (by omega), e _ (by omega), e _ (by omega)]
    exact i10.2 i hi
  · rw [e 6 (by omega)]
    intro i hi
    rw [e _ (by omega), e _ (by omega)]
    exact i11 i hi
def frS (Z Z' : Nat → Nat → Int) : Prop := ∀ a, a ≠ 0 → a ≠ 7 → a ≠ 8 → (a < 22 ∨ 25 < a) → (a < 51 ∨ 62 < a) → Z' a = Z a
section SURVEY2
variable {d n z : Nat} {Rf : Nat → Nat → Option Nat} {K : Nat → Nat × Nat} {Z : Nat → Nat → Int}
set_option maxHeartbeats 1000000 in
theorem c_surveyFG (H : sm_sh Rf K) (hz : sm_zs Z) (hst : stI Z) {M : Nat → Int} (hi : invD M) (hr : rD Z Rf K M 1) : ∃ Z', rD Z' Rf K (svS M) 1 ∧ stI Z' ∧ Z' 0 12 = 0 ∧ (∀ j, j ≠ 12 → Z' 0 j = Z 0 j) ∧ frS Z Z' ∧ ∀ Q, sm_call (d + 5) 116 [.inr (some 0)] (Z, Rf, K, n, z) Q = Q (some (.inl (nmS (allS false M)).2.2)) (Z', Rf, K, n, z) := by
  have hsz := hi.1.1
  have hsz' := hsz
  unfold szN at hsz'
  let Z1 := sm_u Z 0 12 0
  have r1 : ∀ a, a ≠ 0 → Z1 a = Z a := fun a ha => sm_u_row ha
  obtain ⟨Z2, f2, g2, q2⟩ := c_take (d := d + 2) (n := n) (z := z) (M := M) H (Z := Z1) (zs_fr hz (fun a ha => r1 a (by omega))) hsz hi.2.2.2.1 (by rw [r1 1 (by decide)]; exact ⟨hr.1.1, hr.1.2.1⟩) (fun c hc => by rw [r1 2 (by decide)]; exact (hr.2.1 c hc).1) (fun c hc => by rw [r1 5 (by decide)]; exact (hr.2.1 c hc).2.2.2.1)
  have r2 : ∀ a, a ≠ 0 → a ≠ 53 → a ≠ 54 → Z2 a = Z a := fun a h0 h1 h2 => by rw [f2 a h1 h2, r1 a h0]
  have hz2 : sm_zs Z2 := zs_fr hz (fun a ha => r2 a (by omega) (by omega) (by omega))
  have hx := rFx_of hr hst.2.2.2.2.2.2.1
  obtain ⟨Z3, t3, e30, e32, _, f3, q3⟩ := c_flyAll (d := d) (n := n) (z := z) H (shT_21 H) (M := M) (Z := Z2) hi.1 hi.2.1 (rFx_ag (agT_refl M) (fun a ha => r2 a (by omega) (by omega) (by omega)) (by rw [r2 59 (by decide) (by decide) (by decide)]) hx) g2 hz2 (by rw [r2 24 (by decide) (by decide) (by decide)]; exact hst.2.2.2.2.1)
  obtain ⟨ai, ag⟩ := allS_inv (th := false) hi.1 hi.2.1
  have m0 := ag 0 (by omega) (by omega) (by omega)
  have m1 := ag 1 (by omega) (by omega) (by omega)
  have r3 : ∀ a, a ≠ 0 → (a < 22 ∨ 25 < a) → a ≠ 51 → a ≠ 53 → a ≠ 54 → a ≠ 59 → a ≠ 60 → a ≠ 61 → a ≠ 62 → Z3 a = Z a := fun a h0 h1 h2 h3 h4 h5 h6 h7 h8 => by
    rw [f3 a h2 h5 h6 h7 h8 (by omega) (by omega) (by omega) (by omega), r2 a h0 h3 h4]
  have hz3 : sm_zs Z3 := zs_fr hz (fun a ha => r3 a (by omega) (by omega) (by omega) (by omega) (by omega) (by omega) (by omega) (by omega) (by omega))
  have w3 : Z3 1 = Z 1 := r3 1 (by decide) (by decide) (by decide) (by decide) (by decide) (by decide) (by decide) (by decide) (by decide)
  obtain ⟨Z4, t4, f4, q4⟩ := c_mark (d := d + 1) (n := n) (z := z) (w := M 0) (h := M 1) (T := fun j => allS false M (850 + j)) H hz3 (shT_21 H) (by rw [w3]; exact ⟨hr.1.1, hr.1.2.1⟩) hsz' (fun k hk => ⟨t3.1 k hk, ai.2.1 k hk⟩)
  have enm : nmS (allS false M) = coS (M 0) (M 1) (fun j => allS false M (850 + j)) := by unfold nmS; rw [m0, m1]
  rw [← enm] at t4
  have hnb := nmS_bd (M := allS false M) ai.1
  have r4 : ∀ a, a ≠ 0 → (a < 22 ∨ 25 < a) → (a < 51 ∨ 62 < a) → Z4 a = Z a := fun a h0 h1 h2 => by
    rw [f4.1 a (by omega) (by omega) (by omega) (by omega), r3 a h0 h1 (by omega) (by omega) (by omega) (by omega) (by omega) (by omega) (by omega)]
  have q5 := c_countMoves_loop (d := d + 4) (n := n) (z := z) (Rf := Rf) (K := K) H hnb 100 0 Z4 none (by omega) t4.1 (fun k hk => by
    rw [r4 6 (by decide) (by decide) (by decide), r4 8 (by decide) (by decide) (by decide)]
    have h2 := hr.2.1 k hk
    have h7 := hi.2.2.2.2.2.2.1 k hk
    refine ⟨by rw [h2.2.2.2.2.1]; exact hi.2.2.2.2.1 k hk, ?_⟩
    have h8 := h2.2.2.2.2.2.2
    show -1 ≤ Z 8 k ∧ Z 8 k < 100
    rw [h8]
    split <;> omega)
  let Z5 := cmS Z4 (nmS (allS false M)).1 0
  have r5 : ∀ a, a ≠ 7 → a ≠ 8 → Z5 a = Z4 a := fun a h7 h8 => by
    funext k
    show cmS Z4 _ 0 a k = _
    unfold cmS
    rw [if_neg (fun g => h8 g.1), if_neg (fun g => h7 g.1)]
  have so : ∀ k, (k < 520 ∧ k ≠ 6) ∨ (720 ≤ k ∧ k < 850) ∨ (1334 ≤ k ∧ k < 1340) ∨ 1835 ≤ k → svS M k = M k := fun k hk => by
    unfold svS
    rw [mvS_o (by omega), ag k (by omega) (by omega) (by omega)]
  have z6 : ∀ c, c < 100 → Z4 6 c = M (220 + c) := fun c hc => by
    rw [r4 6 (by decide) (by decide) (by decide)]
    exact (hr.2.1 c hc).2.2.2.2.1
  have z7 : ∀ c, c < 100 → Z4 7 c = if M (220 + c) = 0 then 0 else M (620 + c) := fun c hc => by
    rw [r4 7 (by decide) (by decide) (by decide)]
    exact (hr.2.1 c hc).2.2.2.2.2.1
  have z8 : ∀ c, c < 100 → Z4 8 c = if M (220 + c) = 0 then -1 else M (520 + c) := fun c hc => by
    rw [r4 8 (by decide) (by decide) (by decide)]
    exact (hr.2.1 c hc).2.2.2.2.2.2
  have rr5 : ∀ a, a ≠ 0 → a ≠ 7 → a ≠ 8 → (a < 22 ∨ 25 < a) → (a < 51 ∨ 62 < a) → Z5 a = Z a := fun a h0 h7 h8 h1 h2 => by rw [r5 a h7 h8, r4 a h0 h1 h2]
  have k0 : Z4 0 = sm_u Z 0 12 0 0 := by
    rw [f4.1 0 (by decide) (by decide) (by decide) (by decide), f3 0 (by decide) (by decide) (by decide) (by decide) (by decide) (by decide) (by decide) (by decide) (by decide), f2 0 (by decide) (by decide)]
  have hth : rTh Z5 (svS M) 21 false := by
    have t4' : rTh Z4 (allS false M) 21 false := rTh_row (f4.1 _ (by decide) (by decide) (by decide) (by decide)) (f4.1 _ (by decide) (by decide) (by decide) (by decide)) (f4.1 _ (by decide) (by decide) (by decide) (by decide)) (f4.1 _ (by decide) (by decide) (by decide) (by decide)) t3
    have t5 : rTh Z5 (allS false M) 21 false := rTh_row (r5 _ (by decide) (by decide)) (r5 _ (by decide) (by decide)) (r5 _ (by decide) (by decide)) (r5 _ (by decide) (by decide)) t4'
    obtain ⟨b1, b2, b3⟩ := t5
    have e : ∀ k, (k < 520 ∨ 720 ≤ k) → svS M k = allS false M k := fun k hk => mvS_o hk
    refine ⟨fun k hk => by rw [e _ (by omega)]; exact b1 k hk, fun k hk => by rw [e _ (by omega)]; exact b2 k hk, ?_⟩
    rcases b3 with b3 | b3
    · exact Or.inl b3
    · refine Or.inr ⟨b3.1, b3.2.1, by rw [e _ (by omega)]; exact b3.2.2.1, fun i hi c hc => ?_⟩
      rw [e _ (by omega)] at hi
      rw [e _ (by omega)]
      exact b3.2.2.2 i hi c hc
  refine ⟨Z5, ?_, ?_, ?_, ?_, rr5, ?_⟩
  · obtain ⟨h1, h2, h3, h4, h5, h6, h7, h8, h9⟩ := hr
    refine ⟨?_, fun c hc => ?_, fun k hk => ?_, ?_, ?_, ?_, ?_, ?_, hth⟩
    · rw [rr5 1 (by decide) (by decide) (by decide) (by decide) (by decide), so 0 (by omega), so 1 (by omega), so 2 (by omega), so 3 (by omega)]
      exact h1
    · have g := h2 c hc
      refine ⟨?_, ?_, ?_, ?_, ?_, ?_, ?_⟩
      · rw [rr5 _ (by decide) (by decide) (by decide) (by decide) (by decide), so _ (by omega)]; exact g.1
      · rw [rr5 _ (by decide) (by decide) (by decide) (by decide) (by decide), so _ (by omega)]; exact g.2.1
      · rw [rr5 _ (by decide) (by decide) (by decide) (by decide) (by decide), so _ (by omega)]; exact g.2.2.1
      · rw [rr5 _ (by decide) (by decide) (by decide) (by decide) (by decide), so _ (by omega)]; exact g.2.2.2.1
      · rw [rr5 _ (by decide) (by decide) (by decide) (by decide) (by decide), so _ (by omega)]; exact g.2.2.2.2.1
      · show cmS Z4 _ 0 7 c = _
        rw [so (220 + c) (by omega)]
        unfold cmS svS
        have a2 := ag (220 + c) (by omega) (by omega) (by omega)
        have a5 := ag (520 + c) (by omega) (by omega) (by omega)
        have a6 := ag (620 + c) (by omega) (by omega) (by omega)
        rw [if_neg (by omega), mvS_m hc, a2, a5, a6, z6 c hc, z8 c hc, z7 c hc]
        by_cases hb : M (220 + c) = 0
        · rw [if_neg (by omega), if_pos hb, if_pos hb]
        · rw [if_pos ⟨rfl, by omega, hc, hb⟩, if_neg hb, if_neg hb, if_neg hb, if_neg hb]
          split <;> omega
      · show cmS Z4 _ 0 8 c = _
        rw [so (220 + c) (by omega)]
        unfold cmS svS
        have a2 := ag (220 + c) (by omega) (by omega) (by omega)
        have a5 := ag (520 + c) (by omega) (by omega) (by omega)
        rw [mvS_n hc, a2, a5, z6 c hc]
        by_cases hb : M (220 + c) = 0
        · rw [if_neg (by omega), if_neg (by omega), if_pos hb, z8 c hc, if_pos hb]
        · rw [if_pos ⟨rfl, by omega, hc, hb⟩, if_neg hb, if_neg hb]
    · rw [rr5 _ (by decide) (by decide) (by decide) (by decide) (by decide), so _ (by omega)]; exact h3 k hk
    · rw [rr5 _ (by decide) (by decide) (by decide) (by decide) (by decide), rr5 _ (by decide) (by decide) (by decide) (by decide) (by decide), so 5 (by omega)]
      refine ⟨h4.1, fun i hi => ?_⟩
      rw [so _ (by omega), so _ (by omega)]
      exact h4.2 i hi
    · rw [rr5 _ (by decide) (by decide) (by decide) (by decide) (by decide), rr5 _ (by decide) (by decide) (by decide) (by decide) (by decide), so 4 (by omega)]
      refine ⟨h5.1, fun i hi c hc => ?_⟩
      rw [so _ (by omega)]
      exact h5.2 i hi c hc
    · rw [rr5 _ (by decide) (by decide) (by decide) (by decide) (by decide), rr5 _ (by decide) (by decide) (by decide) (by decide) (by decide), so 7 (by omega)]
      refine ⟨h6.1, fun i hi c hc => ?_⟩
      rw [so _ (by omega)]
      exact h6.2 i hi c hc
    · rw [rr5 _ (by decide) (by decide) (by decide) (by decide) (by decide), rr5 _ (by decide) (by decide) (by decide) (by decide) (by decide), so 8 (by omega)]
      refine ⟨h7.1, fun i hi c hc => ?_⟩
      rw [so _ (by omega)]
      exact h7.2 i hi c hc
    · exact rHb_cg (fun k hk => so k (by omega)) (fun a ha => rr5 a (by omega) (by omega) (by omega) (by omega) (by omega)) h8
  · obtain ⟨s1, s2, s3, s4, s5, s6, s7, s8⟩ := hst
    have e24 : Z5 24 0 = 99 := by
      rcases hth.2.2 with b | b
      · exact absurd b.1 (by decide)
      · exact b.2.1
    have e59 : Z5 59 0 = 8 := by
      rw [r5 59 (by decide) (by decide), f4.1 59 (by decide) (by decide) (by decide) (by decide)]
      exact e30
    have e67 : Z5 67 0 = 0 := by
      rw [rr5 67 (by decide) (by decide) (by decide) (by decide) (by decide)]
      exact s8
    refine ⟨?_, ?_, ?_, ?_, e24, ?_, e59, e67⟩
    · rw [rr5 _ (by decide) (by decide) (by decide) (by decide) (by decide)]; exact s1
    · rw [rr5 _ (by decide) (by decide) (by decide) (by decide) (by decide)]; exact s2
    · rw [rr5 _ (by decide) (by decide) (by decide) (by decide) (by decide)]; exact s3
    · rw [rr5 _ (by decide) (by decide) (by decide) (by decide) (by decide)]; exact s4
    · rw [rr5 _ (by decide) (by decide) (by decide) (by decide) (by decide)]; exact s6
  · rw [r5 0 (by decide) (by decide), k0, sm_u_self]
  · intro j hj
    rw [r5 0 (by decide) (by decide), k0, sm_u_eq, if_neg hj]
  · intro Q
    rw [ce116, b116_0, kk_0 H, rr_0_3 H, rr_0_0 H]
    simp only [wr_id, wr_b2i, wr_wr, b2i_eq0, b2i_eq1, b2i_01, sm_rem_eq, sm_div_eq, wl_m2, wl_m1, wl_0, wl_1, wl_2, wl_3, wl_4, wl_5, wl_6, wl_7, wl_8, wl_9, wl_10, wl_12, wl_13, wl_14, wl_16, wl_20, wl_21, wl_22, wl_23, wl_32, wl_36, wl_40, wl_41, wl_42, wl_43, wl_44, wl_45, wl_46, wl_47, wl_48, wl_57, wl_59, wl_60, wl_61, wl_62, wl_65, wl_90, wl_97, wl_99, wl_100, wl_121, wl_122, wl_140, wl_142, wl_143, wl_145, wl_147, wl_160, wl_161, wl_162, wl_242, wl_380, wl_400, wl_420, wl_820, wl_1340, wl_5480, wl_9999, true_and, and_true, true_or, or_true, if_true, if_false, and_self, or_self, false_and, and_false, false_or, or_false, not_true_eq_false, not_false_eq_true, Int.reduceEq, Int.reduceLT, Int.reduceLE, Int.reduceToNat, Int.reduceAdd, Int.reduceMul, Int.reduceSub, Int.reduceMod, Int.reduceDiv, Int.reduceNeg, Nat.reduceEqDiff, sm_rd_ok, sm_rd_ok2, sm_wt_ok, sm_cp_ok, Option.isSome_some, Option.getD_some, w_cont, Option.toList_some, Option.toList_none, List.cons_append, List.nil_append, kk_51 H, rr_51_0 H, kk_52 H]
    refine (q2 _).trans ?_
    rw [w_cont]
    simp only [wr_id, wr_b2i, wr_wr, b2i_eq0, b2i_eq1, b2i_01, sm_rem_eq, sm_div_eq, wl_m2, wl_m1, wl_0, wl_1, wl_2, wl_3, wl_4, wl_5, wl_6, wl_7, wl_8, wl_9, wl_10, wl_12, wl_13, wl_14, wl_16, wl_20, wl_21, wl_22, wl_23, wl_32, wl_36, wl_40, wl_41, wl_42, wl_43, wl_44, wl_45, wl_46, wl_47, wl_48, wl_57, wl_59, wl_60, wl_61, wl_62, wl_65, wl_90, wl_97, wl_99, wl_100, wl_121, wl_122, wl_140, wl_142, wl_143, wl_145, wl_147, wl_160, wl_161, wl_162, wl_242, wl_380, wl_400, wl_420, wl_820, wl_1340, wl_5480, wl_9999, true_and, and_true, true_or, or_true, if_true, if_false, and_self, or_self, false_and, and_false, false_or, or_false, not_true_eq_false, not_false_eq_true, Int.reduceEq, Int.reduceLT, Int.reduceLE, Int.reduceToNat, Int.reduceAdd, Int.reduceMul, Int.reduceSub, Int.reduceMod, Int.reduceDiv, Int.reduceNeg, Nat.reduceEqDiff, sm_rd_ok, sm_rd_ok2, sm_wt_ok, sm_cp_ok, Option.isSome_some, Option.getD_some, w_cont, Option.toList_some, Option.toList_none, List.cons_append, List.nil_append]
    rw [b116_19, kk_0 H, rr_0_3 H, rr_0_0 H]
    simp only [wr_id, wr_b2i, wr_wr, b2i_eq0, b2i_eq1, b2i_01, sm_rem_eq, sm_div_eq, wl_m2, wl_m1, wl_0, wl_1, wl_2, wl_3, wl_4, wl_5, wl_6, wl_7, wl_8, wl_9, wl_10, wl_12, wl_13, wl_14, wl_16, wl_20, wl_21, wl_22, wl_23, wl_32, wl_36, wl_40, wl_41, wl_42, wl_43, wl_44, wl_45, wl_46, wl_47, wl_48, wl_57, wl_59, wl_60, wl_61, wl_62, wl_65, wl_90, wl_97, wl_99, wl_100, wl_121, wl_122, wl_140, wl_142, wl_143, wl_145, wl_147, wl_160, wl_161, wl_162, wl_242, wl_380, wl_400, wl_420, wl_820, wl_1340, wl_5480, wl_9999, true_and, and_true, true_or, or_true, if_true, if_false, and_self, or_self, false_and, and_false, false_or, or_false, not_true_eq_false, not_false_eq_true, Int.reduceEq, Int.reduceLT, Int.reduceLE, Int.reduceToNat, Int.reduceAdd, Int.reduceMul, Int.reduceSub, Int.reduceMod, Int.reduceDiv, Int.reduceNeg, Nat.reduceEqDiff, sm_rd_ok, sm_rd_ok2, sm_wt_ok, sm_cp_ok, Option.isSome_some, Option.getD_some, w_cont, Option.toList_some, Option.toList_none, List.cons_append, List.nil_append, kk_51 H, kk_1 H, rr_1_18 H]
    rw [q3, w_cont]
    simp only [wr_id, wr_b2i, wr_wr, b2i_eq0, b2i_eq1, b2i_01, sm_rem_eq, sm_div_eq, wl_m2, wl_m1, wl_0, wl_1, wl_2, wl_3, wl_4, wl_5, wl_6, wl_7, wl_8, wl_9, wl_10, wl_12, wl_13, wl_14, wl_16, wl_20, wl_21, wl_22, wl_23, wl_32, wl_36, wl_40, wl_41, wl_42, wl_43, wl_44, wl_45, wl_46, wl_47, wl_48, wl_57, wl_59, wl_60, wl_61, wl_62, wl_65, wl_90, wl_97, wl_99, wl_100, wl_121, wl_122, wl_140, wl_142, wl_143, wl_145, wl_147, wl_160, wl_161, wl_162, wl_242, wl_380, wl_400, wl_420, wl_820, wl_1340, wl_5480, wl_9999, true_and, and_true, true_or, or_true, if_true, if_false, and_self, or_self, false_and, and_false, false_or, or_false, not_true_eq_false, not_false_eq_true, Int.reduceEq, Int.reduceLT, Int.reduceLE, Int.reduceToNat, Int.reduceAdd, Int.reduceMul, Int.reduceSub, Int.reduceMod, Int.reduceDiv, Int.reduceNeg, Nat.reduceEqDiff, sm_rd_ok, sm_rd_ok2, sm_wt_ok, sm_cp_ok, Option.isSome_some, Option.getD_some, w_cont, Option.toList_some, Option.toList_none, List.cons_append, List.nil_append]
    rw [b116_37, kk_0 H, rr_0_3 H, rr_0_0 H]
    simp only [wr_id, wr_b2i, wr_wr, b2i_eq0, b2i_eq1, b2i_01, sm_rem_eq, sm_div_eq, wl_m2, wl_m1, wl_0, wl_1, wl_2, wl_3, wl_4, wl_5, wl_6, wl_7, wl_8, wl_9, wl_10, wl_12, wl_13, wl_14, wl_16, wl_20, wl_21, wl_22, wl_23, wl_32, wl_36, wl_40, wl_41, wl_42, wl_43, wl_44, wl_45, wl_46, wl_47, wl_48, wl_57, wl_59, wl_60, wl_61, wl_62, wl_65, wl_90, wl_97, wl_99, wl_100, wl_121, wl_122, wl_140, wl_142, wl_143, wl_145, wl_147, wl_160, wl_161, wl_162, wl_242, wl_380, wl_400, wl_420, wl_820, wl_1340, wl_5480, wl_9999, true_and, and_true, true_or, or_true, if_true, if_false, and_self, or_self, false_and, and_false, false_or, or_false, not_true_eq_false, not_false_eq_true, Int.reduceEq, Int.reduceLT, Int.reduceLE, Int.reduceToNat, Int.reduceAdd, Int.reduceMul, Int.reduceSub, Int.reduceMod, Int.reduceDiv, Int.reduceNeg, Nat.reduceEqDiff, sm_rd_ok, sm_rd_ok2, sm_wt_ok, sm_cp_ok, Option.isSome_some, Option.getD_some, w_cont, Option.toList_some, Option.toList_none, List.cons_append, List.nil_append, kk_51 H, kk_1 H, rr_1_18 H, rr_51_1 H, kk_55 H]
    rw [q4, w_cont]
    simp only [wr_id, wr_b2i, wr_wr, b2i_eq0, b2i_eq1, b2i_01, sm_rem_eq, sm_div_eq, wl_m2, wl_m1, wl_0, wl_1, wl_2, wl_3, wl_4, wl_5, wl_6, wl_7, wl_8, wl_9, wl_10, wl_12, wl_13, wl_14, wl_16, wl_20, wl_21, wl_22, wl_23, wl_32, wl_36, wl_40, wl_41, wl_42, wl_43, wl_44, wl_45, wl_46, wl_47, wl_48, wl_57, wl_59, wl_60, wl_61, wl_62, wl_65, wl_90, wl_97, wl_99, wl_100, wl_121, wl_122, wl_140, wl_142, wl_143, wl_145, wl_147, wl_160, wl_161, wl_162, wl_242, wl_380, wl_400, wl_420, wl_820, wl_1340, wl_5480, wl_9999, true_and, and_true, true_or, or_true, if_true, if_false, and_self, or_self, false_and, and_false, false_or, or_false, not_true_eq_false, not_false_eq_true, Int.reduceEq, Int.reduceLT, Int.reduceLE, Int.reduceToNat, Int.reduceAdd, Int.reduceMul, Int.reduceSub, Int.reduceMod, Int.reduceDiv, Int.reduceNeg, Nat.reduceEqDiff, sm_rd_ok, sm_rd_ok2, sm_wt_ok, sm_cp_ok, Option.isSome_some, Option.getD_some, w_cont, Option.toList_some, Option.toList_none, List.cons_append, List.nil_append]
    rw [b116_58, kk_0 H, rr_0_3 H, rr_0_0 H]
    simp only [wr_id, wr_b2i, wr_wr, b2i_eq0, b2i_eq1, b2i_01, sm_rem_eq, sm_div_eq, wl_m2, wl_m1, wl_0, wl_1, wl_2, wl_3, wl_4, wl_5, wl_6, wl_7, wl_8, wl_9, wl_10, wl_12, wl_13, wl_14, wl_16, wl_20, wl_21, wl_22, wl_23, wl_32, wl_36, wl_40, wl_41, wl_42, wl_43, wl_44, wl_45, wl_46, wl_47, wl_48, wl_57, wl_59, wl_60, wl_61, wl_62, wl_65, wl_90, wl_97, wl_99, wl_100, wl_121, wl_122, wl_140, wl_142, wl_143, wl_145, wl_147, wl_160, wl_161, wl_162, wl_242, wl_380, wl_400, wl_420, wl_820, wl_1340, wl_5480, wl_9999, true_and, and_true, true_or, or_true, if_true, if_false, and_self, or_self, false_and, and_false, false_or, or_false, not_true_eq_false, not_false_eq_true, Int.reduceEq, Int.reduceLT, Int.reduceLE, Int.reduceToNat, Int.reduceAdd, Int.reduceMul, Int.reduceSub, Int.reduceMod, Int.reduceDiv, Int.reduceNeg, Nat.reduceEqDiff, sm_rd_ok, sm_rd_ok2, sm_wt_ok, sm_cp_ok, Option.isSome_some, Option.getD_some, w_cont, Option.toList_some, Option.toList_none, List.cons_append, List.nil_append, kk_51 H, kk_1 H, rr_51_1 H]
    rw [ce20, b20_0]
    refine (q5 _).trans ?_
    rw [w_cont]
    simp only [wr_id, wr_b2i, wr_wr, b2i_eq0, b2i_eq1, b2i_01, sm_rem_eq, sm_div_eq, wl_m2, wl_m1, wl_0, wl_1, wl_2, wl_3, wl_4, wl_5, wl_6, wl_7, wl_8, wl_9, wl_10, wl_12, wl_13, wl_14, wl_16, wl_20, wl_21, wl_22, wl_23, wl_32, wl_36, wl_40, wl_41, wl_42, wl_43, wl_44, wl_45, wl_46, wl_47, wl_48, wl_57, wl_59, wl_60, wl_61, wl_62, wl_65, wl_90, wl_97, wl_99, wl_100, wl_121, wl_122, wl_140, wl_142, wl_143, wl_145, wl_147, wl_160, wl_161, wl_162, wl_242, wl_380, wl_400, wl_420, wl_820, wl_1340, wl_5480, wl_9999, true_and, and_true, true_or, or_true, if_true, if_false, and_self, or_self, false_and, and_false, false_or, or_false, not_true_eq_false, not_false_eq_true, Int.reduceEq, Int.reduceLT, Int.reduceLE, Int.reduceToNat, Int.reduceAdd, Int.reduceMul, Int.reduceSub, Int.reduceMod, Int.reduceDiv, Int.reduceNeg, Nat.reduceEqDiff, sm_rd_ok, sm_rd_ok2, sm_wt_ok, sm_cp_ok, Option.isSome_some, Option.getD_some, w_cont, Option.toList_some, Option.toList_none, List.cons_append, List.nil_append]
    rw [b116_72, kk_0 H, rr_0_3 H]
    simp only [wr_id, wr_b2i, wr_wr, b2i_eq0, b2i_eq1, b2i_01, sm_rem_eq, sm_div_eq, wl_m2, wl_m1, wl_0, wl_1, wl_2, wl_3, wl_4, wl_5, wl_6, wl_7, wl_8, wl_9, wl_10, wl_12, wl_13, wl_14, wl_16, wl_20, wl_21, wl_22, wl_23, wl_32, wl_36, wl_40, wl_41, wl_42, wl_43, wl_44, wl_45, wl_46, wl_47, wl_48, wl_57, wl_59, wl_60, wl_61, wl_62, wl_65, wl_90, wl_97, wl_99, wl_100, wl_121, wl_122, wl_140, wl_142, wl_143, wl_145, wl_147, wl_160, wl_161, wl_162, wl_242, wl_380, wl_400, wl_420, wl_820, wl_1340, wl_5480, wl_9999, true_and, and_true, true_or, or_true, if_true, if_false, and_self, or_self, false_and, and_false, false_or, or_false, not_true_eq_false, not_false_eq_true, Int.reduceEq, Int.reduceLT, Int.reduceLE, Int.reduceToNat, Int.reduceAdd, Int.reduceMul, Int.reduceSub, Int.reduceMod, Int.reduceDiv, Int.reduceNeg, Nat.reduceEqDiff, sm_rd_ok, sm_rd_ok2, sm_wt_ok, sm_cp_ok, Option.isSome_some, Option.getD_some, w_cont, Option.toList_some, Option.toList_none, List.cons_append, List.nil_append, kk_51 H, rr_51_1 H, kk_55 H]
    show Q (some (.inl (Z5 55 3))) _ = _
    rw [r5 55 (by decide) (by decide), t4.2.2]
theorem m_survey (H : sm_sh Rf K) {M : Nat → Int} (hM : Z 80 = M) (hi : invD M) (h6 : Z 79 6 = 0) : ∃ Z', Z' 80 = svS M ∧ Z' 79 4 = 0 ∧ (∀ j, j ≠ 4 → j ≠ 30 → Z' 79 j = Z 79 j) ∧ (∀ a, (a < 79 ∨ a = 81 ∨ a = 82 ∨ a = 83 ∨ a = 84 ∨ a = 85 ∨ a = 86 ∨ 94 < a) → Z' a = Z a) ∧ ∀ Q, sm_call (d + 7) 175 [.inr (some 79)] (Z, Rf, K, n, z) Q = Q (some (.inl (nmS (allS false M)).2.2)) (Z', Rf, K, n, z) := by
  obtain ⟨ai, ag⟩ := allS_inv (th := false) hi.1 hi.2.1
  obtain ⟨Z1, g1, _, g3, g4⟩ := m_allFly (d := d) (n := n) (z := z) H (th := false) hM hi.1 hi.2.1 h6
  obtain ⟨Z2, f1, f2, f3, f4, f5⟩ := m_laysCounties (d := d + 2) (n := n) (z := z) H g1 ai.1 ai.2.1
  have hnb := nmS_bd (M := allS false M) ai.1
  have q := m_survey_loop (d := d + 7) (n := n) (z := z) (Rf := Rf) (K := K) (nm := (nmS (allS false M)).1) H hnb 100 0 (allS false M) Z2 (by omega) (by rw [f3 80 (by decide) (by decide) (by decide)]; exact g1) f1 (fun k hk => by
    rw [ag (220 + k) (by omega) (by omega) (by omega), ag (520 + k) (by omega) (by omega) (by omega)]
    exact ⟨hi.2.2.2.2.1 k hk, hi.2.2.2.2.2.2.1 k hk⟩)
  refine ⟨sm_u (sm_r Z2 80 (mvS (nmS (allS false M)).1 (allS false M) 0)) 79 4 0, ?_, ?_, ?_, ?_, fun Q => ?_⟩
  · rw [sm_u_row (by decide), sm_r_same]
    rfl
  · rw [sm_u_self]
  · intro j h1 h2
    rw [sm_u_eq, if_neg h1, sm_r_ne (by decide), f4 j h2, g3 79 (by decide) (by decide) (by decide) (by decide) (by decide) (by decide) (by decide)]
  · intro a ha
    rw [sm_u_row (by omega), sm_r_row (by omega), f3 a (by omega) (by omega) (by omega), g3 a (by omega) (by omega) (by omega) (by omega) (by omega) (by omega) (by omega)]
  · rw [ce175, b175_0, kk_79 H, g4, w_cont]
    simp only [wr_id, wr_b2i, wr_wr, b2i_eq0, b2i_eq1, b2i_01, sm_rem_eq, sm_div_eq, wl_m2, wl_m1, wl_0, wl_1, wl_2, wl_3, wl_4, wl_5, wl_6, wl_7, wl_8, wl_9, wl_10, wl_12, wl_13, wl_14, wl_16, wl_20, wl_21, wl_22, wl_23, wl_32, wl_36, wl_40, wl_41, wl_42, wl_43, wl_44, wl_45, wl_46, wl_47, wl_48, wl_57, wl_59, wl_60, wl_61, wl_62, wl_65, wl_90, wl_97, wl_99, wl_100, wl_121, wl_122, wl_140, wl_142, wl_143, wl_145, wl_147, wl_160, wl_161, wl_162, wl_242, wl_380, wl_400, wl_420, wl_820, wl_1340, wl_5480, wl_9999, true_and, and_true, true_or, or_true, if_true, if_false, and_self, or_self, false_and, and_false, false_or, or_false, not_true_eq_false, not_false_eq_true, Int.reduceEq, Int.reduceLT, Int.reduceLE, Int.reduceToNat, Int.reduceAdd, Int.reduceMul, Int.reduceSub, Int.reduceMod, Int.reduceDiv, Int.reduceNeg, Nat.reduceEqDiff, sm_rd_ok, sm_rd_ok2, sm_wt_ok, sm_cp_ok, Option.isSome_some, Option.getD_some, w_cont, Option.toList_some, Option.toList_none, List.cons_append, List.nil_append]
    rw [b175_4, kk_79 H, f5, w_cont]
    simp only [wr_id, wr_b2i, wr_wr, b2i_eq0, b2i_eq1, b2i_01, sm_rem_eq, sm_div_eq, wl_m2, wl_m1, wl_0, wl_1, wl_2, wl_3, wl_4, wl_5, wl_6, wl_7, wl_8, wl_9, wl_10, wl_12, wl_13, wl_14, wl_16, wl_20, wl_21, wl_22, wl_23, wl_32, wl_36, wl_40, wl_41, wl_42, wl_43, wl_44, wl_45, wl_46, wl_47, wl_48, wl_57, wl_59, wl_60, wl_61, wl_62, wl_65, wl_90, wl_97, wl_99, wl_100, wl_121, wl_122, wl_140, wl_142, wl_143, wl_145, wl_147, wl_160, wl_161, wl_162, wl_242, wl_380, wl_400, wl_420, wl_820, wl_1340, wl_5480, wl_9999, true_and, and_true, true_or, or_true, if_true, if_false, and_self, or_self, false_and, and_false, false_or, or_false, not_true_eq_false, not_false_eq_true, Int.reduceEq, Int.reduceLT, Int.reduceLE, Int.reduceToNat, Int.reduceAdd, Int.reduceMul, Int.reduceSub, Int.reduceMod, Int.reduceDiv, Int.reduceNeg, Nat.reduceEqDiff, sm_rd_ok, sm_rd_ok2, sm_wt_ok, sm_cp_ok, Option.isSome_some, Option.getD_some, w_cont, Option.toList_some, Option.toList_none, List.cons_append, List.nil_append]
    rw [b175_8]
    refine (q Q).trans ?_
    rw [f2]
    rfl
end SURVEY2
