theorem cntR_bd {P : Nat → Bool} : ∀ (k i : Nat), 0 ≤ cntR P i k ∧ cntR P i k ≤ (k : Int)
  | 0, _ => by simp [cntR]
  | k + 1, i => by
    have := cntR_bd (P := P) k (i + 1)
    simp only [cntR]
    split <;> omega
theorem cntR_pos {P : Nat → Bool} {j : Nat} (hj : P j = true) : ∀ (k i : Nat), i ≤ j → j < i + k → 1 ≤ cntR P i k
  | 0, _, _, _ => by omega
  | k + 1, i, h1, h2 => by
    simp only [cntR]
    by_cases h : i = j
    · rw [h, if_pos hj]
      have := cntR_bd (P := P) k (j + 1)
      omega
    · have := cntR_pos hj k (i + 1) (by omega) (by omega)
      split <;> omega
theorem cntR_off {P P' : Nat → Bool} {j : Nat} (hj : P j = true) (hj' : P' j = false) (h : ∀ i, i ≠ j → P' i = P i) : ∀ (k i : Nat), i ≤ j → j < i + k → cntR P' i k = cntR P i k - 1
  | 0, _, _, _ => by omega
  | k + 1, i, h1, h2 => by
    simp only [cntR]
    by_cases hi : i = j
    · rw [hi, hj, hj', cntR_congr (P := P') (P' := P) k (j + 1) (fun m h3 _ => h m (by omega))]
      simp only [if_true, Bool.false_eq_true, if_false]
      omega
    · rw [h i hi, cntR_off hj hj' h k (i + 1) (by omega) (by omega)]
      omega
theorem cntR_false : ∀ (k i : Nat), cntR (fun _ => false) i k = 0
  | 0, _ => rfl
  | k + 1, i => by
    simp only [cntR, Bool.false_eq_true, if_false]
    rw [cntR_false k (i + 1)]
    rfl
def ybR (x y s : Int) : Int := if s = 0 then yd x y 1 else if s = 1 then yd (x + 1) y 2 else if s = 2 then yd x (y + 1) 1 else yd x y 2
theorem ybR_bd {w h x y s : Int} (hw : w ≤ 10) (hh : h ≤ 10) (hp : 0 ≤ x ∧ x < w ∧ 0 ≤ y ∧ y < h) : 0 ≤ ybR x y s ∧ ybR x y s < 242 := by
  unfold ybR yd
  repeat' split
  all_goals omega
theorem yB_ybR {w h x y s : Int} (hp : 0 ≤ x ∧ x < w ∧ 0 ≤ y ∧ y < h) : yB w h x y s = ybR x y s := by
  unfold yB ybR
  have d1 : dX 1 = 1 ∧ dY 1 = 0 := by decide
  have d2 : dX 2 = 0 ∧ dY 2 = 1 := by decide
  repeat' split
  all_goals
    unfold yF
    first
      | rw [if_pos (by rw [d1.1, d1.2]; omega)]
      | rw [if_pos (by rw [d2.1, d2.2]; omega)]
/-- the cell beside, or -1 -/
def nxC (w h c s : Int) : Int := cAt w h (c % 10 + dX s) (c / 10 + dY s)
def opn (w h : Int) (T : Nat → Int) (c s : Int) : Bool := decide (¬ nxC w h c s = -1 ∧ T (ybR (c % 10) (c / 10) s).toNat = -1)
abbrev spT : Type := (Nat → Int) × (Nat → Int) × Nat
/-- one side of a cell: names, queue, how many -/
def spS (w h : Int) (T : Nat → Int) (f c s : Int) (st : spT) : spT := if opn w h T c s = true ∧ st.1 (nxC w h c s).toNat = -1 then (mU st.1 (nxC w h c s).toNat f, mU st.2.1 st.2.2 (nxC w h c s), st.2.2 + 1) else st
def spN (w h : Int) (T : Nat → Int) (f c : Int) (st : spT) : spT := spS w h T f c 3 (spS w h T f c 2 (spS w h T f c 1 (spS w h T f c 0 st)))
def spR (w h : Int) (T : Nat → Int) (f : Int) : Nat → Nat → spT → spT
  | 0, _, st => st
  | k + 1, i, st => if i < st.2.2 then spR w h T f k (i + 1) (spN w h T f (st.2.1 i) st) else st
def wfS (w h f : Int) (st : spT) : Prop := (∀ i, i < st.2.2 → isC w h (st.2.1 i) = true) ∧ (∀ c, c < 100 → -1 ≤ st.1 c ∧ st.1 c < 100) ∧ (st.2.2 : Int) + cntR (fun c => decide (st.1 c = -1)) 0 100 ≤ 100 ∧ cntR (fun c => decide (st.1 c = f)) 0 100 = (st.2.2 : Int)
/-- nothing found is lost -/
def grS (st st' : spT) : Prop := st.2.2 ≤ st'.2.2 ∧ (∀ i, i < st.2.2 → st'.2.1 i = st.2.1 i) ∧ ∀ c, ¬ st.1 c = -1 → st'.1 c = st.1 c
theorem grS_trans {a b c : spT} (h1 : grS a b) (h2 : grS b c) : grS a c := by
  refine ⟨Nat.le_trans h1.1 h2.1, fun i hi => ?_, fun k hk => ?_⟩
  · rw [h2.2.1 i (Nat.lt_of_lt_of_le hi h1.1), h1.2.1 i hi]
  · rw [h2.2.2 k (by rw [h1.2.2 k hk]; exact hk), h1.2.2 k hk]
theorem nxC_bd {w h : Int} (hw : w ≤ 10) (hh : h ≤ 10) (c s : Int) : -1 ≤ nxC w h c s ∧ nxC w h c s < 100 := cAt_bd _ _ hw hh
theorem nxC_isC {w h c s : Int} (hw : w ≤ 10) (hh : h ≤ 10) (hn : ¬ nxC w h c s = -1) : isC w h (nxC w h c s) = true := by
  unfold nxC at hn ⊢
  have h1 := (cAt_ne _ _).1 hn
  rw [cAt_pos h1]
  simp only [isC, decide_eq_true_eq]
  omega
theorem spS_lt {w h f : Int} {st : spT} (hf : wfS w h f st) (hw : w ≤ 10) (hh : h ≤ 10) {c s : Int} (hn : ¬ nxC w h c s = -1) (h1 : st.1 (nxC w h c s).toNat = -1) : st.2.2 < 100 := by
  have hb := nxC_bd hw hh c s
  have := cntR_pos (P := fun c => decide (st.1 c = -1)) (j := (nxC w h c s).toNat) (by simp [h1]) 100 0 (by omega) (by omega)
  have h3 := hf.2.2.1
  omega
theorem spS_wf {w h f : Int} {T : Nat → Int} {st : spT} (hf : wfS w h f st) (hf0 : 0 ≤ f ∧ f < 100) (hw : w ≤ 10) (hh : h ≤ 10) (c s : Int) : wfS w h f (spS w h T f c s st) ∧ grS st (spS w h T f c s st) := by
  unfold spS
  by_cases hc : opn w h T c s = true ∧ st.1 (nxC w h c s).toNat = -1
  · rw [if_pos hc]
    have ho := hc.1
    simp only [opn, decide_eq_true_eq] at ho
    have hlt := spS_lt hf hw hh ho.1 hc.2
    have hb := nxC_bd hw hh c s
    have hic := nxC_isC hw hh ho.1
    generalize nxC w h c s = m at hc hb hic ho
    obtain ⟨g1, g2, g3, g4⟩ := hf
    refine ⟨⟨fun i hi => ?_, fun k hk => ?_, ?_, ?_⟩, ⟨by simp, fun i hi => ?_, fun k hk => ?_⟩⟩
    · simp only [mU]
      split
      · exact hic
      · exact g1 i (by simp only at hi; omega)
    · simp only [mU]
      split
      · omega
      · exact g2 k hk
    · have e := cntR_off (P := fun c => decide (st.1 c = -1)) (P' := fun c => decide (mU st.1 m.toNat f c = -1)) (j := m.toNat) (by simp [hc.2]) (by simp only [mU, if_true, decide_eq_false_iff_not]; omega) (fun i hi => by simp only [mU, if_neg hi]) 100 0 (by omega) (by omega)
      simp only
      rw [e]
      omega
    · have e := cntR_off (P := fun c => decide (mU st.1 m.toNat f c = f)) (P' := fun c => decide (st.1 c = f)) (j := m.toNat) (by simp [mU]) (by simp only [hc.2, decide_eq_false_iff_not]; omega) (fun i hi => by simp only [mU, if_neg hi]) 100 0 (by omega) (by omega)
      simp only
      rw [g4] at e
      omega
    · simp only [mU]
      rw [if_neg (by omega)]
    · simp only [mU]
      split
      · rename_i hkm
        rw [hkm] at hk
        exact absurd hc.2 hk
      · rfl
  · rw [if_neg hc]
    exact ⟨hf, Nat.le_refl _, fun _ _ => rfl, fun _ _ => rfl⟩
theorem spN_wf {w h f : Int} {T : Nat → Int} {st : spT} (hf : wfS w h f st) (hf0 : 0 ≤ f ∧ f < 100) (hw : w ≤ 10) (hh : h ≤ 10) (c : Int) : wfS w h f (spN w h T f c st) ∧ grS st (spN w h T f c st) := by
  unfold spN
  obtain ⟨a0, b0⟩ := spS_wf (T := T) hf hf0 hw hh c 0
  obtain ⟨a1, b1⟩ := spS_wf (T := T) a0 hf0 hw hh c 1
  obtain ⟨a2, b2⟩ := spS_wf (T := T) a1 hf0 hw hh c 2
  obtain ⟨a3, b3⟩ := spS_wf (T := T) a2 hf0 hw hh c 3
  exact ⟨a3, grS_trans b0 (grS_trans b1 (grS_trans b2 b3))⟩
theorem spR_wf {w h f : Int} {T : Nat → Int} (hf0 : 0 ≤ f ∧ f < 100) (hw : w ≤ 10) (hh : h ≤ 10) : ∀ (k i : Nat) (st : spT), wfS w h f st → wfS w h f (spR w h T f k i st) ∧ grS st (spR w h T f k i st) := by
  intro k
  induction k with
  | zero => intro i st hf; exact ⟨hf, Nat.le_refl _, fun _ _ => rfl, fun _ _ => rfl⟩
  | succ k ih =>
    intro i st hf
    simp only [spR]
    split
    · obtain ⟨a0, b0⟩ := spN_wf (T := T) hf hf0 hw hh (st.2.1 i)
      obtain ⟨a1, b1⟩ := ih (i + 1) _ a0
      exact ⟨a1, grS_trans b0 b1⟩
    · exact ⟨hf, Nat.le_refl _, fun _ _ => rfl, fun _ _ => rfl⟩
theorem wfS_le {w h f : Int} {st : spT} (hf : wfS w h f st) : st.2.2 ≤ 100 := by
  have := cntR_bd (P := fun c => decide (st.1 c = -1)) 100 0
  have := hf.2.2.1
  omega
/-- names and sizes and how many: from cell c on -/
abbrev mkT : Type := (Nat → Int) × (Nat → Int) × Int
def spF (w h : Int) (T : Nat → Int) (f : Nat) (nm : Nat → Int) : spT := spR w h T (f : Int) 100 0 (mU nm f (f : Int), fun _ => (f : Int), 1)
def mk1 (w h : Int) (T : Nat → Int) (c : Nat) (st : mkT) : mkT := if isC w h (c : Int) = true ∧ st.1 c = -1 then ((spF w h T c st.1).1, mU st.2.1 c ((spF w h T c st.1).2.2 : Int), st.2.2 + 1) else st
def mkR (w h : Int) (T : Nat → Int) : Nat → Nat → mkT → mkT
  | 0, _, st => st
  | k + 1, c, st => mkR w h T k (c + 1) (mk1 w h T c st)
/-- the counties -/
def coS (w h : Int) (T : Nat → Int) : mkT := mkR w h T 100 0 (fun _ => -1, fun _ => 0, 0)
/-- names below c, all cells below c named, sizes right -/
def wfM (w h : Int) (c : Nat) (st : mkT) : Prop := (∀ k, k < 100 → -1 ≤ st.1 k ∧ st.1 k < (c : Int)) ∧ (∀ k, k < c → isC w h (k : Int) = true → ¬ st.1 k = -1) ∧ (∀ k, k < 100 → ¬ st.1 k = -1 → st.2.1 (st.1 k).toNat = cntR (fun j => decide (st.1 j = st.1 k)) 0 100) ∧ (0 ≤ st.2.2 ∧ st.2.2 ≤ (c : Int)) ∧ (∀ k, k < 100 → ¬ st.1 k = -1 → isC w h (st.1 k) = true)
theorem wfS_first {w h : Int} {c : Nat} {st : mkT} (hf : wfM w h c st) (hc : c < 100) (hi : isC w h (c : Int) = true) (h1 : st.1 c = -1) : wfS w h (c : Int) (mU st.1 c (c : Int), fun _ => (c : Int), 1) := by
  refine ⟨fun i _ => hi, fun k hk => ?_, ?_, ?_⟩
  · simp only [mU]
    split
    · omega
    · have := hf.1 k hk; omega
  · have e := cntR_off (P := fun k => decide (st.1 k = -1)) (P' := fun k => decide (mU st.1 c (c : Int) k = -1)) (j := c) (by simp [h1]) (by simp only [mU, if_true, decide_eq_false_iff_not]; omega) (fun i hi => by simp only [mU, if_neg hi]) 100 0 (by omega) (by omega)
    have hb := cntR_bd (P := fun k => decide (st.1 k = -1)) 100 0
    simp only
    rw [e]
    omega
  · have e := cntR_off (P := fun k => decide (mU st.1 c (c : Int) k = (c : Int))) (P' := fun k => decide (st.1 k = (c : Int))) (j := c) (by simp [mU]) (by simp only [h1, decide_eq_false_iff_not]; omega) (fun i hi => by simp only [mU, if_neg hi]) 100 0 (by omega) (by omega)
    have e0 : cntR (fun k => decide (st.1 k = (c : Int))) 0 100 = 0 := by
      have e1 : cntR (fun k => decide (st.1 k = (c : Int))) 0 100 = cntR (fun _ => false) 0 100 := cntR_congr 100 0 (fun j _ hj => by
        have := hf.1 j (by omega)
        simp only [decide_eq_false_iff_not]
        omega)
      rw [e1]
      exact cntR_false 100 0
    simp only
    rw [e0] at e
    omega
/-- only cells without a name get one, and that is f -/
theorem spS_nm {w h f : Int} {T : Nat → Int} {st : spT} (c s : Int) (k : Nat) : (spS w h T f c s st).1 k = st.1 k ∨ (spS w h T f c s st).1 k = f := by
  unfold spS
  split
  · simp only [mU]
    split
    · exact Or.inr rfl
    · exact Or.inl rfl
  · exact Or.inl rfl
theorem spN_nm {w h f : Int} {T : Nat → Int} {st : spT} (c : Int) (k : Nat) : (spN w h T f c st).1 k = st.1 k ∨ (spN w h T f c st).1 k = f := by
  unfold spN
  rcases spS_nm (w := w) (h := h) (f := f) (T := T) (st := spS w h T f c 2 (spS w h T f c 1 (spS w h T f c 0 st))) c 3 k with e | e
  · rw [e]
    rcases spS_nm (w := w) (h := h) (f := f) (T := T) (st := spS w h T f c 1 (spS w h T f c 0 st)) c 2 k with e | e
    · rw [e]
      rcases spS_nm (w := w) (h := h) (f := f) (T := T) (st := spS w h T f c 0 st) c 1 k with e | e
      · rw [e]
        exact spS_nm c 0 k
      · exact Or.inr e
    · exact Or.inr e
  · exact Or.inr e
theorem spR_nm {w h f : Int} {T : Nat → Int} : ∀ (n i : Nat) (st : spT) (k : Nat), (spR w h T f n i st).1 k = st.1 k ∨ (spR w h T f n i st).1 k = f := by
  intro n
  induction n with
  | zero => intro i st k; exact Or.inl rfl
  | succ n ih =>
    intro i st k
    simp only [spR]
    split
    · rcases ih (i + 1) (spN w h T f (st.2.1 i) st) k with e | e
      · rw [e]; exact spN_nm _ k
      · exact Or.inr e
    · exact Or.inl rfl
theorem mk1_wf {w h : Int} {T : Nat → Int} {c : Nat} {st : mkT} (hc : c < 100) (hw : w ≤ 10) (hh : h ≤ 10) (hf : wfM w h c st) : wfM w h (c + 1) (mk1 w h T c st) := by
  obtain ⟨g1, g2, g3, g4, g5⟩ := hf
  unfold mk1
  by_cases hq : isC w h (c : Int) = true ∧ st.1 c = -1
  · rw [if_pos hq]
    obtain ⟨a1, b1⟩ := spR_wf (T := T) (f := (c : Int)) (by omega) hw hh 100 0 _ (wfS_first ⟨g1, g2, g3, g4, g5⟩ hc hq.1 hq.2)
    have nm : ∀ k, (spF w h T c st.1).1 k = st.1 k ∨ (spF w h T c st.1).1 k = (c : Int) := by
      intro k
      rcases spR_nm (w := w) (h := h) (T := T) (f := (c : Int)) 100 0 (mU st.1 c (c : Int), fun _ => (c : Int), 1) k with e | e
      · unfold spF
        rw [e]
        simp only [mU]
        split
        · exact Or.inr rfl
        · exact Or.inl rfl
      · exact Or.inr e
    have keep : ∀ k, ¬ st.1 k = -1 → (spF w h T c st.1).1 k = st.1 k := by
      intro k hk
      have hkc : ¬ k = c := fun e => hk (by rw [e]; exact hq.2)
      have e1 : mU st.1 c (c : Int) k = st.1 k := by simp only [mU, if_neg hkc]
      have := b1.2.2 k (by simp only; rw [e1]; exact hk)
      unfold spF
      rw [this]
      exact e1
    have named : (spF w h T c st.1).1 c = (c : Int) := by
      have e1 : mU st.1 c (c : Int) c = (c : Int) := by simp only [mU, if_true]
      have := b1.2.2 c (by simp only; rw [e1]; omega)
      unfold spF
      rw [this]
      exact e1
    refine ⟨fun k hk => ?_, fun k hk hik => ?_, fun k hk hne => ?_, by simp only; omega, fun k hk hne => ?_⟩
    · have h1 := g1 k hk
      simp only
      rcases nm k with e | e <;> rw [e] <;> omega
    · simp only
      by_cases hkc : k = c
      · rw [hkc, named]; omega
      · have := g2 k (by omega) hik
        rw [keep k this]; exact this
    · simp only at hne ⊢
      rcases nm k with e | e
      · by_cases hk1 : st.1 k = -1
        · rw [e] at hne
          exact absurd hk1 hne
        · rw [e]
          have h1 := g1 k hk
          simp only [mU]
          rw [if_neg (by omega), g3 k hk hk1]
          refine cntR_congr 100 0 (fun j _ hj => ?_)
          by_cases hj1 : st.1 j = -1
          · rcases nm j with e2 | e2
            · rw [e2]
            · rw [e2, hj1]
              have l1 : decide ((-1 : Int) = st.1 k) = false := by simp only [decide_eq_false_iff_not]; omega
              have l2 : decide ((c : Int) = st.1 k) = false := by simp only [decide_eq_false_iff_not]; omega
              rw [l1, l2]
          · rw [keep j hj1]
      · rw [e]
        have := a1.2.2.2
        simp only [mU]
        rw [if_pos (by omega)]
        exact this.symm
    · simp only at hne ⊢
      rcases nm k with e | e
      · rw [e] at hne ⊢
        exact g5 k hk hne
      · rw [e]; exact hq.1
  · rw [if_neg hq]
    refine ⟨fun k hk => ?_, fun k hk hik => ?_, g3, by omega, g5⟩
    · have := g1 k hk; omega
    · by_cases hkc : k = c
      · intro e
        rw [hkc] at e hik
        exact hq ⟨hik, e⟩
      · exact g2 k (by omega) hik
theorem mkR_wf {w h : Int} {T : Nat → Int} (hw : w ≤ 10) (hh : h ≤ 10) : ∀ (k c : Nat) (st : mkT), c + k = 100 → wfM w h c st → wfM w h 100 (mkR w h T k c st) := by
  intro k
  induction k with
  | zero => intro c st hc hf; have : c = 100 := by omega
            subst this; exact hf
  | succ k ih => intro c st hc hf; exact ih (c + 1) _ (by omega) (mk1_wf (by omega) hw hh hf)
theorem coS_wf {w h : Int} {T : Nat → Int} (hw : w ≤ 10) (hh : h ≤ 10) : wfM w h 100 (coS w h T) := by
  refine mkR_wf hw hh 100 0 _ (by omega) ⟨fun k _ => by simp, fun k hk => by omega, fun k hk hn => absurd rfl hn, by simp, fun k hk hn => absurd rfl hn⟩
