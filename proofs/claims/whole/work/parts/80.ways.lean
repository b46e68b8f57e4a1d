/-- one side of a cell in the search for a way -/
def pbS (w h : Int) (T F : Nat → Int) (c s : Int) (st : spT) : spT := if (opn w h T c s = true ∧ F (4 * c + s).toNat ≤ 0) ∧ st.1 (nxC w h c s).toNat = -1 then (mU st.1 (nxC w h c s).toNat s, mU st.2.1 st.2.2 (nxC w h c s), st.2.2 + 1) else st
def pbN (w h : Int) (T F : Nat → Int) (c : Int) (st : spT) : spT := pbS w h T F c 3 (pbS w h T F c 2 (pbS w h T F c 1 (pbS w h T F c 0 st)))
def pbR (w h : Int) (T F : Nat → Int) : Nat → Nat → spT → spT
  | 0, _, st => st
  | k + 1, i, st => if i < st.2.2 then pbR w h T F k (i + 1) (pbN w h T F (st.2.1 i) st) else st
def pmR (w h : Int) (T F : Nat → Int) (b : Nat) : Nat → Nat → spT → spT
  | 0, _, st => st
  | k + 1, i, st => if i < st.2.2 ∧ st.1 b = -1 then pmR w h T F b k (i + 1) (pbN w h T F (st.2.1 i) st) else st
def pb0 (a : Nat) : spT := (fun k => if k = a then 4 else -1, fun _ => (a : Int), 1)
/-- what a search always is -/
def wfB (w h : Int) (F : Nat → Int) (a : Nat) (st : spT) : Prop := (∀ i, i < st.2.2 → isC w h (st.2.1 i) = true ∧ ¬ st.1 (st.2.1 i).toNat = -1) ∧ (∀ c, c < 100 → -1 ≤ st.1 c ∧ st.1 c ≤ 4) ∧ (st.2.2 : Int) + cntR (fun c => decide (st.1 c = -1)) 0 100 ≤ 100 ∧ (st.2.1 0 = (a : Int) ∧ 1 ≤ st.2.2) ∧ (∀ i j, i < j → j < st.2.2 → ¬ st.2.1 i = st.2.1 j) ∧ (∀ i, 1 ≤ i → i < st.2.2 → (0 ≤ st.1 (st.2.1 i).toNat ∧ st.1 (st.2.1 i).toNat ≤ 3) ∧ ∃ j, j < i ∧ st.2.1 i = nxC w h (st.2.1 j) (st.1 (st.2.1 i).toNat) ∧ F (4 * st.2.1 j + st.1 (st.2.1 i).toNat).toNat ≤ 0) ∧ (∀ c, c < 100 → ¬ st.1 c = -1 → ∃ i, i < st.2.2 ∧ st.2.1 i = (c : Int))
theorem grS_refl (st : spT) : grS st st := ⟨Nat.le_refl _, fun _ _ => rfl, fun _ _ => rfl⟩
theorem pbS_wf {w h : Int} {T F : Nat → Int} {a : Nat} {st : spT} (hf : wfB w h F a st) (hw : w ≤ 10) (hh : h ≤ 10) {c s : Int} {j0 : Nat} (hj0 : j0 < st.2.2) (hcj : st.2.1 j0 = c) (hs : 0 ≤ s ∧ s ≤ 3) : wfB w h F a (pbS w h T F c s st) ∧ grS st (pbS w h T F c s st) := by
  unfold pbS
  by_cases hc : (opn w h T c s = true ∧ F (4 * c + s).toNat ≤ 0) ∧ st.1 (nxC w h c s).toNat = -1
  · rw [if_pos hc]
    have ho := hc.1.1
    simp only [opn, decide_eq_true_eq] at ho
    have hb := nxC_bd hw hh c s
    have hic := nxC_isC hw hh ho.1
    obtain ⟨m, hm⟩ : ∃ m, m = nxC w h c s := ⟨_, rfl⟩
    have hmn := ho.1
    rw [← hm] at hb hic hmn
    have hcm := hc.2
    rw [← hm] at hcm
    rw [← hm]
    obtain ⟨g1, g2, g3, g4, g5, g6, g7⟩ := hf
    have htn : ∀ i, i < st.2.2 → ¬ (st.2.1 i).toNat = m.toNat := fun i hi e => (g1 i hi).2 (by rw [e]; exact hcm)
    have hne : ∀ i, i < st.2.2 → ¬ st.2.1 i = m := fun i hi e => htn i hi (by rw [e])
    have e1 : ∀ i, i < st.2.2 → mU st.2.1 st.2.2 m i = st.2.1 i := fun i hi => by unfold mU; rw [if_neg (by omega)]
    have e2 : mU st.2.1 st.2.2 m st.2.2 = m := by unfold mU; rw [if_pos rfl]
    have e3 : ∀ i, i < st.2.2 → mU st.1 m.toNat s (st.2.1 i).toNat = st.1 (st.2.1 i).toNat := fun i hi => by unfold mU; rw [if_neg (htn i hi)]
    have e4 : mU st.1 m.toNat s m.toNat = s := by unfold mU; rw [if_pos rfl]
    refine ⟨⟨fun i hi => ?_, fun k hk => ?_, ?_, ⟨?_, ?_⟩, fun i j hij hj => ?_, fun i h1 hi => ?_, fun k hk hk1 => ?_⟩, ⟨?_, fun i hi => e1 i hi, fun k hk => ?_⟩⟩
    · have hi' : i < st.2.2 + 1 := hi
      show isC w h (mU st.2.1 st.2.2 m i) = true ∧ ¬ mU st.1 m.toNat s (mU st.2.1 st.2.2 m i).toNat = -1
      by_cases hl : i < st.2.2
      · rw [e1 i hl, e3 i hl]
        exact g1 i hl
      · have : i = st.2.2 := by omega
        rw [this, e2, e4]
        exact ⟨hic, by omega⟩
    · show -1 ≤ mU st.1 m.toNat s k ∧ mU st.1 m.toNat s k ≤ 4
      unfold mU
      split
      · omega
      · exact g2 k hk
    · have e := cntR_off (P := fun c => decide (st.1 c = -1)) (P' := fun c => decide (mU st.1 m.toNat s c = -1)) (j := m.toNat) (by simp [hcm]) (by rw [e4, decide_eq_false_iff_not]; omega) (fun i hi => by simp only [mU, if_neg hi]) 100 0 (by omega) (by omega)
      show ((st.2.2 + 1 : Nat) : Int) + cntR (fun c => decide (mU st.1 m.toNat s c = -1)) 0 100 ≤ 100
      rw [e]
      omega
    · show mU st.2.1 st.2.2 m 0 = _
      rw [e1 0 (by omega)]
      exact g4.1
    · show 1 ≤ st.2.2 + 1
      omega
    · have hj' : j < st.2.2 + 1 := hj
      show ¬ mU st.2.1 st.2.2 m i = mU st.2.1 st.2.2 m j
      by_cases hl : j < st.2.2
      · rw [e1 i (by omega), e1 j hl]
        exact g5 i j hij hl
      · have : j = st.2.2 := by omega
        rw [this, e2, e1 i (by omega)]
        exact hne i (by omega)
    · have hi' : i < st.2.2 + 1 := hi
      show (0 ≤ mU st.1 m.toNat s (mU st.2.1 st.2.2 m i).toNat ∧ mU st.1 m.toNat s (mU st.2.1 st.2.2 m i).toNat ≤ 3) ∧ ∃ j, j < i ∧ mU st.2.1 st.2.2 m i = nxC w h (mU st.2.1 st.2.2 m j) (mU st.1 m.toNat s (mU st.2.1 st.2.2 m i).toNat) ∧ F (4 * mU st.2.1 st.2.2 m j + mU st.1 m.toNat s (mU st.2.1 st.2.2 m i).toNat).toNat ≤ 0
      by_cases hl : i < st.2.2
      · rw [e1 i hl, e3 i hl]
        obtain ⟨q1, j, q2, q3, q4⟩ := g6 i h1 hl
        refine ⟨q1, j, q2, ?_⟩
        rw [e1 j (by omega)]
        exact ⟨q3, q4⟩
      · have : i = st.2.2 := by omega
        rw [this, e2, e4]
        refine ⟨hs, j0, hj0, ?_⟩
        rw [e1 j0 hj0, hcj]
        exact ⟨hm, hc.1.2⟩
    · have hk1' : ¬ mU st.1 m.toNat s k = -1 := hk1
      show ∃ i, i < st.2.2 + 1 ∧ mU st.2.1 st.2.2 m i = (k : Int)
      by_cases hkm : k = m.toNat
      · exact ⟨st.2.2, by omega, by rw [e2, hkm]; omega⟩
      · unfold mU at hk1'
        rw [if_neg hkm] at hk1'
        obtain ⟨i, q1, q2⟩ := g7 k hk hk1'
        exact ⟨i, by omega, by rw [e1 i q1]; exact q2⟩
    · show st.2.2 ≤ st.2.2 + 1
      omega
    · show mU st.1 m.toNat s k = st.1 k
      unfold mU
      rw [if_neg]
      intro e
      rw [e] at hk
      exact hk hcm
  · rw [if_neg hc]
    exact ⟨hf, grS_refl st⟩
theorem pbN_wf {w h : Int} {T F : Nat → Int} {a : Nat} {st : spT} (hf : wfB w h F a st) (hw : w ≤ 10) (hh : h ≤ 10) {j0 : Nat} (hj0 : j0 < st.2.2) : wfB w h F a (pbN w h T F (st.2.1 j0) st) ∧ grS st (pbN w h T F (st.2.1 j0) st) := by
  unfold pbN
  obtain ⟨a0, b0⟩ := pbS_wf (T := T) hf hw hh hj0 rfl (s := 0) (by omega)
  obtain ⟨a1, b1⟩ := pbS_wf (T := T) a0 hw hh (Nat.lt_of_lt_of_le hj0 b0.1) (b0.2.1 j0 hj0) (s := 1) (by omega)
  have b01 := grS_trans b0 b1
  obtain ⟨a2, b2⟩ := pbS_wf (T := T) a1 hw hh (Nat.lt_of_lt_of_le hj0 b01.1) (b01.2.1 j0 hj0) (s := 2) (by omega)
  have b02 := grS_trans b01 b2
  obtain ⟨a3, b3⟩ := pbS_wf (T := T) a2 hw hh (Nat.lt_of_lt_of_le hj0 b02.1) (b02.2.1 j0 hj0) (s := 3) (by omega)
  exact ⟨a3, grS_trans b02 b3⟩
theorem pbR_wf {w h : Int} {T F : Nat → Int} {a : Nat} (hw : w ≤ 10) (hh : h ≤ 10) : ∀ (k i : Nat) (st : spT), wfB w h F a st → wfB w h F a (pbR w h T F k i st) ∧ grS st (pbR w h T F k i st) := by
  intro k
  induction k with
  | zero => intro i st hf; exact ⟨hf, grS_refl st⟩
  | succ k ih =>
    intro i st hf
    simp only [pbR]
    split
    · rename_i hi
      obtain ⟨a0, b0⟩ := pbN_wf (T := T) hf hw hh hi
      obtain ⟨a1, b1⟩ := ih (i + 1) _ a0
      exact ⟨a1, grS_trans b0 b1⟩
    · exact ⟨hf, grS_refl st⟩
theorem pmR_wf {w h : Int} {T F : Nat → Int} {a b : Nat} (hw : w ≤ 10) (hh : h ≤ 10) : ∀ (k i : Nat) (st : spT), wfB w h F a st → wfB w h F a (pmR w h T F b k i st) ∧ (pmR w h T F b k i st = pbR w h T F k i st ∨ (¬ (pmR w h T F b k i st).1 b = -1 ∧ grS (pmR w h T F b k i st) (pbR w h T F k i st))) := by
  intro k
  induction k with
  | zero => intro i st hf; exact ⟨hf, Or.inl rfl⟩
  | succ k ih =>
    intro i st hf
    by_cases hi : i < st.2.2
    · by_cases hb : st.1 b = -1
      · have e1 : pmR w h T F b (k + 1) i st = pmR w h T F b k (i + 1) (pbN w h T F (st.2.1 i) st) := by simp only [pmR]; rw [if_pos ⟨hi, hb⟩]
        have e2 : pbR w h T F (k + 1) i st = pbR w h T F k (i + 1) (pbN w h T F (st.2.1 i) st) := by simp only [pbR]; rw [if_pos hi]
        rw [e1, e2]
        exact ih (i + 1) _ (pbN_wf (T := T) hf hw hh hi).1
      · have e1 : pmR w h T F b (k + 1) i st = st := by simp only [pmR]; rw [if_neg (fun g => hb g.2)]
        rw [e1]
        exact ⟨hf, Or.inr ⟨hb, (pbR_wf hw hh (k + 1) i st hf).2⟩⟩
    · have e1 : pmR w h T F b (k + 1) i st = st := by simp only [pmR]; rw [if_neg (fun g => hi g.1)]
      have e2 : pbR w h T F (k + 1) i st = st := by simp only [pbR]; rw [if_neg hi]
      rw [e1, e2]
      exact ⟨hf, Or.inl rfl⟩
theorem cntR_le {P : Nat → Bool} {j : Nat} (hj : P j = false) : ∀ (k i : Nat), i ≤ j → j < i + k → cntR P i k ≤ (k : Int) - 1 := by
  intro k
  induction k with
  | zero => intro i h1 h2; omega
  | succ k ih =>
    intro i h1 h2
    have hb := cntR_bd (P := P) k (i + 1)
    simp only [cntR]
    by_cases hij : i = j
    · rw [hij] at hb ⊢
      rw [if_neg (by rw [hj]; decide)]
      omega
    · have := ih (i + 1) (by omega) (by omega)
      split <;> omega
theorem pb0_wf {w h : Int} {F : Nat → Int} {a : Nat} (ha : isC w h (a : Int) = true) : wfB w h F a (pb0 a) := by
  have hb := isC_bd ha
  refine ⟨fun i hi => ?_, fun c hc => ?_, ?_, ⟨rfl, Nat.le_refl _⟩, fun i j hij hj => ?_, fun i h1 hi => ?_, fun c hc h1 => ?_⟩
  · refine ⟨ha, ?_⟩
    show ¬ (if ((a : Int)).toNat = a then (4 : Int) else -1) = -1
    rw [if_pos (by omega)]
    omega
  · show -1 ≤ (if c = a then (4 : Int) else -1) ∧ (if c = a then (4 : Int) else -1) ≤ 4
    split <;> omega
  · have := cntR_le (P := fun c => decide ((if c = a then (4 : Int) else -1) = -1)) (j := a) (by rw [if_pos rfl]; decide) 100 0 (by omega) (by omega)
    show ((1 : Nat) : Int) + cntR (fun c => decide ((if c = a then (4 : Int) else -1) = -1)) 0 100 ≤ 100
    omega
  · have : j < 1 := hj
    omega
  · have : i < 1 := hi
    omega
  · refine ⟨0, Nat.lt_succ_self 0, ?_⟩
    have h2 : ¬ (if c = a then (4 : Int) else -1) = -1 := h1
    by_cases hca : c = a
    · rw [hca]
      rfl
    · rw [if_neg hca] at h2
      exact absurd rfl h2
theorem wfB_le {w h : Int} {F : Nat → Int} {a : Nat} {st : spT} (hf : wfB w h F a st) : st.2.2 ≤ 100 := by
  have := hf.2.2.1
  have := cntR_bd (P := fun c => decide (st.1 c = -1)) 100 0
  omega
theorem wfB_lt {w h : Int} {F : Nat → Int} {a : Nat} {st : spT} (hf : wfB w h F a st) {k : Nat} (hk : k < 100) (h1 : st.1 k = -1) : st.2.2 < 100 := by
  have := cntR_pos (P := fun c => decide (st.1 c = -1)) (j := k) (by simp [h1]) 100 0 (by omega) (by omega)
  have h3 := hf.2.2.1
  omega
/-- a way kept: one step of it, all of it -/
def pwU (F : Nat → Int) (s p c : Int) : Nat → Int := mU (mU F (4 * p + s).toNat (F (4 * p + s).toNat + 1)) (4 * c + (s + 2) % 4).toNat (mU F (4 * p + s).toNat (F (4 * p + s).toNat + 1) (4 * c + (s + 2) % 4).toNat - 1)
def pwR (cb : Nat → Int) (a : Nat) : Nat → Int → (Nat → Int) → (Nat → Int)
  | 0, _, F => F
  | f + 1, c, F => if c = (a : Int) then F else pwR cb a f (c - dX (cb c.toNat) - dY (cb c.toNat) * 10) (pwU F (cb c.toNat) (c - dX (cb c.toNat) - dY (cb c.toNat) * 10) c)
theorem nx_back {w h q s c : Int} (hq : isC w h q = true) (h1 : c = nxC w h q s) (h2 : isC w h c = true) : c - dX s - dY s * 10 = q := by
  have hb := isC_bd h2
  have hq2 := isC_bd hq
  have hn : ¬ nxC w h q s = -1 := by omega
  have hp := (cAt_ne (w := w) (h := h) (q % 10 + dX s) (q / 10 + dY s)).1 hn
  have e : nxC w h q s = (q / 10 + dY s) * 10 + (q % 10 + dX s) := cAt_pos hp
  omega
/-- the cell ahead of it on the way -/
theorem wfB_pre {w h : Int} {F : Nat → Int} {a : Nat} {st : spT} (hf : wfB w h F a st) {i : Nat} (h1 : 1 ≤ i) (hi : i < st.2.2) : (0 ≤ st.1 (st.2.1 i).toNat ∧ st.1 (st.2.1 i).toNat ≤ 3) ∧ ¬ st.2.1 i = (a : Int) ∧ ∃ j, j < i ∧ st.2.1 i - dX (st.1 (st.2.1 i).toNat) - dY (st.1 (st.2.1 i).toNat) * 10 = st.2.1 j ∧ F (4 * st.2.1 j + st.1 (st.2.1 i).toNat).toNat ≤ 0 := by
  obtain ⟨g1, g2, g3, g4, g5, g6, g7⟩ := hf
  obtain ⟨q1, j, q2, q3, q4⟩ := g6 i h1 hi
  refine ⟨q1, ?_, j, q2, nx_back (g1 j (by omega)).1 q3 (g1 i hi).1, q4⟩
  rw [← g4.1]
  exact fun e => g5 0 i (by omega) hi e.symm
theorem pw_cg {w h : Int} {F0 : Nat → Int} {a : Nat} {st : spT} (hf : wfB w h F0 a st) {cb : Nat → Int} (hcb : ∀ k, ¬ st.1 k = -1 → cb k = st.1 k) : ∀ (f i : Nat) (F : Nat → Int), i ≤ f → i < st.2.2 → pwR cb a f (st.2.1 i) F = pwR st.1 a f (st.2.1 i) F := by
  intro f
  induction f with
  | zero => intro i F _ _; rfl
  | succ f ih =>
    intro i F hif hi
    simp only [pwR]
    by_cases ha : st.2.1 i = (a : Int)
    · rw [if_pos ha, if_pos ha]
    · have h1 : 1 ≤ i := by
        rcases Nat.eq_zero_or_pos i with h | h
        · rw [h] at ha
          exact absurd hf.2.2.2.1.1 ha
        · exact h
      obtain ⟨_, _, j, hj, e, _⟩ := wfB_pre hf h1 hi
      rw [if_neg ha, if_neg ha, hcb _ (hf.1 i hi).2, e]
      exact ih j _ (by omega) (by omega)
theorem pwU_bd (F : Nat → Int) (s p c : Int) (k : Nat) : F k - 1 ≤ pwU F s p c k ∧ pwU F s p c k ≤ F k + 1 := by
  unfold pwU mU
  by_cases h1 : k = (4 * c + (s + 2) % 4).toNat
  · rw [if_pos h1]
    by_cases h2 : (4 * c + (s + 2) % 4).toNat = (4 * p + s).toNat
    · rw [if_pos h2, h1, h2]
      omega
    · rw [if_neg h2, h1]
      omega
  · rw [if_neg h1]
    by_cases h2 : k = (4 * p + s).toNat
    · rw [if_pos h2, h2]
      omega
    · rw [if_neg h2]
      omega
theorem pw_bd (cb : Nat → Int) (a : Nat) : ∀ (f : Nat) (c : Int) (F : Nat → Int) (k : Nat), F k - f ≤ pwR cb a f c F k ∧ pwR cb a f c F k ≤ F k + f := by
  intro f
  induction f with
  | zero => intro c F k; show F k - ((0 : Nat) : Int) ≤ F k ∧ F k ≤ F k + ((0 : Nat) : Int); omega
  | succ f ih =>
    intro c F k
    simp only [pwR]
    split
    · omega
    · have h1 := pwU_bd F (cb c.toNat) (c - dX (cb c.toNat) - dY (cb c.toNat) * 10) c k
      have h2 := ih (c - dX (cb c.toNat) - dY (cb c.toNat) * 10) (pwU F (cb c.toNat) (c - dX (cb c.toNat) - dY (cb c.toNat) * 10) c) k
      omega
theorem pwU_le {F : Nat → Int} {s p c : Int} {k : Nat} (h : ¬ k = (4 * p + s).toNat) : pwU F s p c k ≤ F k := by
  unfold pwU mU
  by_cases h1 : k = (4 * c + (s + 2) % 4).toNat
  · rw [if_pos h1, if_neg (by rw [← h1]; exact h), h1]
    omega
  · rw [if_neg h1, if_neg h]
    omega
/-- no yard carries more than one way -/
theorem pw_up {w h : Int} {F0 : Nat → Int} {a : Nat} {st : spT} (hf : wfB w h F0 a st) : ∀ (f i : Nat) (F : Nat → Int), i ≤ f → i < st.2.2 → (∀ k, k < 400 → F k ≤ 1) → (∀ i', 1 ≤ i' → i' ≤ i → F (4 * (st.2.1 i' - dX (st.1 (st.2.1 i').toNat) - dY (st.1 (st.2.1 i').toNat) * 10) + st.1 (st.2.1 i').toNat).toNat ≤ 0) → ∀ k, k < 400 → pwR st.1 a f (st.2.1 i) F k ≤ 1 := by
  intro f
  induction f with
  | zero => intro i F _ _ hF _ k hk; exact hF k hk
  | succ f ih =>
    intro i F hif hi hF hE k hk
    simp only [pwR]
    by_cases ha : st.2.1 i = (a : Int)
    · rw [if_pos ha]
      exact hF k hk
    · have h1 : 1 ≤ i := by
        rcases Nat.eq_zero_or_pos i with h | h
        · rw [h] at ha
          exact absurd hf.2.2.2.1.1 ha
        · exact h
      obtain ⟨hs, _, j, hj, e, _⟩ := wfB_pre hf h1 hi
      have hEi := hE i h1 (Nat.le_refl _)
      have hbj := isC_bd (hf.1 j (by omega)).1
      rw [if_neg ha]
      rw [e] at hEi ⊢
      refine ih j _ (by omega) (by omega) (fun k hk => ?_) (fun i' g1 g2 => ?_) k hk
      · by_cases hke : k = (4 * st.2.1 j + st.1 (st.2.1 i).toNat).toNat
        · have := (pwU_bd F (st.1 (st.2.1 i).toNat) (st.2.1 j) (st.2.1 i) k).2
          rw [← hke] at hEi
          omega
        · have := pwU_le (F := F) (c := st.2.1 i) hke
          have := hF k hk
          omega
      · have hE' := hE i' g1 (by omega)
        obtain ⟨hs', _, j', hj', e', _⟩ := wfB_pre hf g1 (by omega)
        rw [e'] at hE' ⊢
        have hbj' := isC_bd (hf.1 j' (by omega)).1
        have hne := hf.2.2.2.2.1 j' j (by omega) (by omega)
        have := pwU_le (F := F) (s := st.1 (st.2.1 i).toNat) (p := st.2.1 j) (c := st.2.1 i) (k := (4 * st.2.1 j' + st.1 (st.2.1 i').toNat).toNat) (by omega)
        omega
def suA (F : Nat → Int) (a : Nat) : Int := F (4 * a) + F (4 * a + 1) + F (4 * a + 2) + F (4 * a + 3)
theorem suA_off {F : Nat → Int} {a k : Nat} {v : Int} (h : k < 4 * a ∨ 4 * a + 3 < k) : suA (mU F k v) a = suA F a := by
  unfold suA mU
  rw [if_neg (by omega), if_neg (by omega), if_neg (by omega), if_neg (by omega)]
theorem suA_on {F : Nat → Int} {a k : Nat} (h : 4 * a ≤ k ∧ k ≤ 4 * a + 3) : suA (mU F k (F k + 1)) a = suA F a + 1 := by
  have : k = 4 * a ∨ k = 4 * a + 1 ∨ k = 4 * a + 2 ∨ k = 4 * a + 3 := by omega
  unfold suA mU
  rcases this with rfl | rfl | rfl | rfl
  · rw [if_pos rfl, if_neg (by omega), if_neg (by omega), if_neg (by omega)]
    omega
  · rw [if_pos rfl, if_neg (by omega), if_neg (by omega), if_neg (by omega)]
    omega
  · rw [if_pos rfl, if_neg (by omega), if_neg (by omega), if_neg (by omega)]
    omega
  · rw [if_pos rfl, if_neg (by omega), if_neg (by omega), if_neg (by omega)]
    omega
/-- each way leaves its first cell once more -/
theorem pw_sum {w h : Int} {F0 : Nat → Int} {a : Nat} {st : spT} (hf : wfB w h F0 a st) : ∀ (f i : Nat) (F : Nat → Int), i ≤ f → i < st.2.2 → suA (pwR st.1 a f (st.2.1 i) F) a = suA F a + (if i = 0 then 0 else 1) := by
  intro f
  induction f with
  | zero =>
    intro i F hif hi
    have : i = 0 := by omega
    rw [if_pos this]
    show suA F a = _
    omega
  | succ f ih =>
    intro i F hif hi
    simp only [pwR]
    rcases Nat.eq_zero_or_pos i with h0 | h1
    · have ha : st.2.1 i = (a : Int) := by rw [h0]; exact hf.2.2.2.1.1
      rw [if_pos ha, if_pos h0]
      omega
    · obtain ⟨hs, ha, j, hj, e, _⟩ := wfB_pre hf h1 hi
      have hbi := isC_bd (hf.1 i hi).1
      have hbj := isC_bd (hf.1 j (by omega)).1
      rw [if_neg ha, e, ih j _ (by omega) (by omega), if_neg (show ¬ i = 0 by omega)]
      unfold pwU
      rw [suA_off (by omega)]
      by_cases hj0 : j = 0
      · rw [if_pos hj0]
        have ea : st.2.1 j = (a : Int) := by rw [hj0]; exact hf.2.2.2.1.1
        rw [suA_on (by rw [ea]; omega)]
        omega
      · rw [if_neg hj0]
        have hne := hf.2.2.2.2.1 0 j (by omega) (by omega)
        rw [hf.2.2.2.1.1] at hne
        rw [suA_off (by omega)]
/-- as many ways as may be -/
def stW (w h : Int) (T F : Nat → Int) (a b : Nat) : spT := pmR w h T F b 100 0 (pb0 a)
def paW (w h : Int) (T F : Nat → Int) (a b : Nat) : Nat → Int := pwR (stW w h T F a b).1 a 99 (b : Int) F
def waR (w h : Int) (T : Nat → Int) (a b : Nat) : Nat → (Nat → Int) → Int → Int
  | 0, _, n => n
  | f + 1, F, n => if (stW w h T F a b).1 b = -1 then n else waR w h T a b f (paW w h T F a b) (n + 1)
theorem pbS_no {w h : Int} {T F : Nat → Int} {c s : Int} {st : spT} (h1 : 0 < F (4 * c + s).toNat) : pbS w h T F c s st = st := by
  unfold pbS
  rw [if_neg (fun g => by have := g.1.2; omega)]
/-- four ways are all that a cell has -/
theorem stW_full {w h : Int} {T F : Nat → Int} {a b : Nat} (hab : ¬ a = b) (ha : a < 100) (hF : ∀ k, k < 400 → F k ≤ 1) (hS : suA F a = 4) : (stW w h T F a b).1 b = -1 := by
  have f0 := hF (4 * a) (by omega)
  have f1 := hF (4 * a + 1) (by omega)
  have f2 := hF (4 * a + 2) (by omega)
  have f3 := hF (4 * a + 3) (by omega)
  unfold suA at hS
  have hN : pbN w h T F (a : Int) (pb0 a) = pb0 a := by
    unfold pbN
    rw [pbS_no (s := 0) (by rw [show (4 * (a : Int) + 0).toNat = 4 * a by omega]; omega), pbS_no (s := 1) (by rw [show (4 * (a : Int) + 1).toNat = 4 * a + 1 by omega]; omega), pbS_no (s := 2) (by rw [show (4 * (a : Int) + 2).toNat = 4 * a + 2 by omega]; omega), pbS_no (s := 3) (by rw [show (4 * (a : Int) + 3).toNat = 4 * a + 3 by omega]; omega)]
  have hb : (pb0 a).1 b = -1 := by
    show (if b = a then (4 : Int) else -1) = -1
    rw [if_neg (fun g => hab g.symm)]
  have e1 : pmR w h T F b 100 0 (pb0 a) = pmR w h T F b 99 1 (pbN w h T F (a : Int) (pb0 a)) := by
    show (if 0 < (pb0 a).2.2 ∧ (pb0 a).1 b = -1 then pmR w h T F b 99 1 (pbN w h T F ((pb0 a).2.1 0) (pb0 a)) else pb0 a) = _
    rw [if_pos ⟨Nat.lt_succ_self 0, hb⟩]
    rfl
  have e2 : pmR w h T F b 99 1 (pb0 a) = pb0 a := by
    show (if 1 < (pb0 a).2.2 ∧ (pb0 a).1 b = -1 then pmR w h T F b 98 2 (pbN w h T F ((pb0 a).2.1 1) (pb0 a)) else pb0 a) = _
    rw [if_neg (fun g => absurd g.1 (by show ¬ 1 < 1; omega))]
  unfold stW
  rw [e1, hN, e2]
  exact hb
/-- flows as they are between two searches -/
def flI (F : Nat → Int) (a : Nat) (n : Nat) : Prop := (∀ k, k < 400 → F k ≤ 1 ∧ -(100 * (n : Int)) ≤ F k) ∧ suA F a = (n : Int)
theorem stW_wf {w h : Int} {T F : Nat → Int} {a b : Nat} (hw : w ≤ 10) (hh : h ≤ 10) (ha : isC w h (a : Int) = true) : wfB w h F a (stW w h T F a b) := (pmR_wf hw hh 100 0 (pb0 a) (pb0_wf ha)).1
theorem stW_ix {w h : Int} {T F : Nat → Int} {a b : Nat} (hw : w ≤ 10) (hh : h ≤ 10) (ha : isC w h (a : Int) = true) (hb : b < 100) (hn : ¬ (stW w h T F a b).1 b = -1) : ∃ i, i < (stW w h T F a b).2.2 ∧ (stW w h T F a b).2.1 i = (b : Int) ∧ i ≤ 99 := by
  have hf := stW_wf (T := T) (F := F) (b := b) hw hh ha
  obtain ⟨i, h1, h2⟩ := hf.2.2.2.2.2.2 b hb hn
  have := wfB_le hf
  exact ⟨i, h1, h2, by omega⟩
theorem paW_fl {w h : Int} {T F : Nat → Int} {a b n : Nat} (hw : w ≤ 10) (hh : h ≤ 10) (ha : isC w h (a : Int) = true) (hb : b < 100) (hab : ¬ a = b) (hn : ¬ (stW w h T F a b).1 b = -1) (hF : flI F a n) : flI (paW w h T F a b) a (n + 1) := by
  have hf := stW_wf (T := T) (F := F) (b := b) hw hh ha
  obtain ⟨i, h1, h2, h3⟩ := stW_ix hw hh ha hb hn
  have hi0 : ¬ i = 0 := by
    intro h0
    rw [h0, hf.2.2.2.1.1] at h2
    omega
  unfold paW
  refine ⟨fun k hk => ⟨?_, ?_⟩, ?_⟩
  · rw [← h2]
    refine pw_up hf 99 i F h3 h1 (fun k hk => (hF.1 k hk).1) (fun i' g1 g2 => ?_) k hk
    obtain ⟨_, _, j, _, e, hE⟩ := wfB_pre hf g1 (by omega)
    rw [e]
    exact hE
  · have := (pw_bd (stW w h T F a b).1 a 99 (b : Int) F k).1
    have := (hF.1 k hk).2
    omega
  · rw [← h2, pw_sum hf 99 i F h3 h1, if_neg hi0, hF.2]
    omega
