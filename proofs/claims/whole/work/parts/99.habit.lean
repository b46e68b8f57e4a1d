/-! Lines as a habit. -/
theorem stp_app {E : Nat → Int} : ∀ (a b : List (Int × Int)), stp E (a ++ b) → stp E b := by
  intro a
  induction a with
  | nil => intro b h; exact h
  | cons p a ih => intro b h; exact ih b h.2.2
theorem stk_app {C : Nat → Int} : ∀ (a b : List Int), stk C (a ++ b) → stk C b := by
  intro a
  induction a with
  | nil => intro b h; exact h
  | cons p a ih => intro b h; exact ih b h.2
theorem tyV_R {E : Nat → Int} : ∀ (a b : List (Int × Int)) (t t' : List Bool), stp E (a ++ b) → tyV a t t' → tyR (fun s => E (2 * s)) (fun s => E (2 * s + 1)) a.length b.length t t' := by
  intro a
  induction a with
  | nil => intro b t t' _ h; exact h
  | cons p a ih =>
    intro b t t' hs h
    obtain ⟨t1, h1, h2⟩ := h
    have s1 : E (2 * (a ++ b).length) = p.1 := hs.1
    have s2 : E (2 * (a ++ b).length + 1) = p.2 := hs.2.1
    have s3 : stp E (a ++ b) := hs.2.2
    rw [List.length_append] at s1 s2
    refine tyR_add (k := a.length) (l := 1) (ih b t t1 s3 h1) ⟨t', ?_, rfl⟩
    show tyS (E (2 * (b.length + a.length))) (E (2 * (b.length + a.length) + 1)) t1 t'
    rw [Nat.add_comm b.length, s1, s2]
    exact h2
theorem stk_cO {E C : Nat → Int} : ∀ (a b : List (Int × Int)) (rb : List Int), stp E (a ++ b) → stk C (a.map cO ++ rb) → ∀ j, j < a.length → C (rb.length + j) = cOrd (E (2 * (b.length + j))) (E (2 * (b.length + j) + 1)) := by
  intro a
  induction a with
  | nil => intro b rb _ _ j hj; cases hj
  | cons p a ih =>
    intro b rb hs hc j hj
    have s1 : E (2 * (a ++ b).length) = p.1 := hs.1
    have s2 : E (2 * (a ++ b).length + 1) = p.2 := hs.2.1
    have s3 : stp E (a ++ b) := hs.2.2
    rw [List.length_append] at s1 s2
    obtain ⟨c1, c2⟩ := hc
    have e1 : C ((a.map cO ++ rb).length) = cO p := c1
    rw [List.length_append, List.length_map] at e1
    by_cases h : j < a.length
    · exact ih b rb s3 c2 j h
    · rw [List.length_cons] at hj
      rw [show j = a.length by omega, Nat.add_comm rb.length, Nat.add_comm b.length, e1, s1, s2]
      rfl
/-- where the steps of lines begin -/
theorem lnS_P {F E C : Nat → Int} : ∀ (ls : List (Int × List (Int × Int))) (ms : List (Int × Int)) (rc : List Int), lnS F ls ms rc → stp E ms → stk C rc → ∃ P : Nat → Nat, P 0 = 0 ∧ P ls.length = ms.length ∧ ∀ i, i < ls.length → (F (3 * i + 1) = (P i : Int) ∧ F (3 * i + 2) = (P (i + 1) : Int)) ∧ P i ≤ P (i + 1) ∧ P (i + 1) ≤ ms.length ∧ (0 ≤ F (3 * i) ∧ F (3 * i) ≤ 4) ∧ (P i < P (i + 1) → tyR (fun s => E (2 * s)) (fun s => E (2 * s + 1)) (P (i + 1) - P i) (P i) [] [true]) ∧ (∀ s, P i ≤ s → s < P (i + 1) → C (s + i) = cOrd (E (2 * s)) (E (2 * s + 1))) ∧ C (P (i + 1) + i) = 16 * cW (F (3 * i)) + (if P i = P (i + 1) then 12 else 13) := by
  intro ls
  induction ls with
  | nil =>
    rintro ms rc ⟨h1, h2⟩ _ _
    exact ⟨fun _ => 0, rfl, by rw [h1]; rfl, fun i hi => absurd hi (by simp)⟩
  | cons p r ih =>
    rintro ms rc ⟨ms0, rc0, h1, h2, h3, ⟨h4, h5, h6⟩, h7, h8⟩ hs hc
    rw [h2] at hs
    rw [h3] at hc
    have hl := lnS_len r ms0 rc0 h1
    have hml : ms.length = p.2.length + ms0.length := by rw [h2, List.length_append]
    obtain ⟨c1, c2⟩ := hc
    have e1 : C ((p.2.map cO ++ rc0).length) = 16 * cW p.1 + (if p.2 = [] then 12 else 13) := c1
    rw [List.length_append, List.length_map] at e1
    obtain ⟨P, p0, p1, p2⟩ := ih ms0 rc0 h1 (stp_app _ _ hs) (stk_app _ _ c2)
    obtain ⟨P', hP1, hP2⟩ : ∃ P' : Nat → Nat, (∀ i, i ≤ r.length → P' i = P i) ∧ ∀ i, r.length < i → P' i = ms.length := ⟨fun i => if i ≤ r.length then P i else ms.length, fun i hi => if_pos hi, fun i hi => if_neg (by omega)⟩
    refine ⟨P', ?_, ?_, fun i hi => ?_⟩
    · rw [hP1 0 (by omega), p0]
    · rw [hP2 _ (by rw [List.length_cons]; omega)]
    · rw [List.length_cons] at hi
      by_cases hir : i < r.length
      · have := p2 i hir
        rw [hP1 i (by omega), hP1 (i + 1) (by omega)]
        exact ⟨this.1, this.2.1, by omega, this.2.2.2⟩
      · have hi2 : i = r.length := by omega
        rw [hP1 i (by omega), hP2 (i + 1) (by omega), hi2, p1]
        refine ⟨⟨h5, h6⟩, by omega, Nat.le_refl _, by rw [h4]; exact h7, fun hlt => ?_, fun s q1 q2 => ?_, ?_⟩
        · have hne : ¬ p.2 = [] := by
            intro g
            rw [g] at hml
            simp at hml
            omega
          rw [show ms.length - ms0.length = p.2.length by omega]
          exact tyV_R p.2 ms0 [] [true] hs (h8 hne)
        · have := stk_cO p.2 ms0 rc0 hs c2 (s - ms0.length) (by omega)
          rw [show rc0.length + (s - ms0.length) = s + r.length by omega, show ms0.length + (s - ms0.length) = s by omega] at this
          exact this
        · rw [show ms.length + r.length = p.2.length + rc0.length by omega, e1, h4]
          by_cases g : p.2 = []
          · rw [if_pos g, if_pos (by rw [hml, g]; simp)]
          · rw [if_neg g, if_neg]
            intro q
            apply g
            apply List.eq_nil_of_length_eq_zero
            omega
/-- lines laid down are a sound habit -/
theorem lnS_wf {F E C M : Nat → Int} {k : Nat} {ls : List (Int × List (Int × Int))} {ms : List (Int × Int)} {rc : List Int} (h : lnS F ls ms rc) (hs : stp E ms) (hc : stk C rc) (hl : ls.length ≤ 16) (hm : ms.length ≤ 400) (h0 : M (1985 + k) = (ls.length : Int)) (h1 : ∀ i, i < ls.length → M (1990 + 16 * k + i) = F (3 * i) ∧ M (2060 + 16 * k + i) = F (3 * i + 1) ∧ M (2130 + 16 * k + i) = F (3 * i + 2)) (h2 : ∀ j, j < 2 * ms.length → M (2200 + 820 * k + j) = E j) : ∃ P, wfL M k ls.length P ∧ cdH C M k ls.length P ∧ P ls.length + ls.length = rc.length := by
  obtain ⟨P, p0, p1, p2⟩ := lnS_P ls ms rc h hs hc
  have eA : ∀ s, s < ms.length → hbA M k s = E (2 * s) := fun s hs => h2 _ (by omega)
  have eB : ∀ s, s < ms.length → hbB M k s = E (2 * s + 1) := fun s hs => by
    have := h2 (2 * s + 1) (by omega)
    rw [show 2200 + 820 * k + (2 * s + 1) = 2201 + 820 * k + 2 * s by omega] at this
    exact this
  refine ⟨P, ⟨h0, hl, p0, fun i hi => ?_⟩, fun i hi => ?_, by have := lnS_len ls ms rc h; omega⟩
  · obtain ⟨⟨a1, a2⟩, a3, a4, a5, a6, _⟩ := p2 i hi
    obtain ⟨b1, b2, b3⟩ := h1 i hi
    rw [b1, b2, b3]
    exact ⟨a1, a2, a3, by omega, a5, fun g => tyR_congr (fun j q1 q2 => ⟨eA j (by omega), eB j (by omega)⟩) (a6 g)⟩
  · obtain ⟨_, a3, a4, a5, a6, a7, a8⟩ := p2 i hi
    obtain ⟨b1, _⟩ := h1 i hi
    rw [b1]
    exact ⟨fun s q1 q2 => by rw [eA s (by omega), eB s (by omega)]; exact a7 s q1 q2, a8⟩
