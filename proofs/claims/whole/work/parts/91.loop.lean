/-- what a reader's state always is -/
def wfR (B : Int) : rdT → Prop
  | (_, pd, st, ln, tn, op, br, rt) => (∀ k ∈ pd, 0 ≤ k ∧ k < 15) ∧ (0 ≤ st ∧ st ≤ 6) ∧ (0 ≤ ln ∧ ln ≤ 16) ∧ (¬ st = 0 → 0 ≤ tn ∧ tn ≤ 4) ∧ (-B ≤ op ∧ op ≤ B) ∧ (0 ≤ br ∧ br ≤ B) ∧ ((st = 3 ∨ st = 4 ∨ st = 5) → rt = 0 ∨ rt = 1)
theorem pd_cons {k : Int} {pd : List Int} (hk : 0 ≤ k ∧ k < 15) (h : ∀ k ∈ pd, 0 ≤ k ∧ k < 15) : ∀ x ∈ k :: pd, 0 ≤ x ∧ x < 15 := by
  intro x hx
  rcases List.mem_cons.1 hx with rfl | h2
  · exact hk
  · exact h x h2
theorem jn_wf {B k s : Int} {rc pd : List Int} {st ln tn op br rt : Int} (h : wfR B (rc, pd, st, ln, tn, op, br, rt)) (hst : ¬ st = 0) (hp : pd.length < 40) (hk : 0 ≤ k ∧ k < 15) (hs : s = 2 ∨ (s = 3 ∧ (rt = 0 ∨ rt = 1))) : wfR (B + 50) (jnT k s (rc, pd, st, ln, tn, op, br, rt)) := by
  obtain ⟨h1, h2, h3, h4, h5, h6, h7⟩ := h
  have ho := stl_op (stg k) pd rc op
  have htn := h4 hst
  exact ⟨pd_cons hk (stl_pd (stg k) pd rc op h1), by omega, h3, fun _ => htn, by omega, by omega, fun g => by omega⟩
theorem rdS_wf {B t v : Int} {c : rdT} (hB : 0 ≤ B) (h : wfR B c) (hr : (rdS t v c).1 = 0) : wfR (B + 50) (rdS t v c).2 := by
  obtain ⟨rc, pd, st, ln, tn, op, br, rt⟩ := c
  have h' := h
  obtain ⟨h1, h2, h3, h4, h5, h6, h7⟩ := h
  by_cases hb : rc.length + pd.length < 400 ∧ pd.length < 40
  · have hp := hb.2
    have ac : ¬ st = 0 → (tkAC t (rc, pd, st, ln, tn, op, br, rt)).1 = 0 → wfR (B + 50) (tkAC t (rc, pd, st, ln, tn, op, br, rt)).2 := by
      intro hs0 hr
      have htn := h4 hs0
      have ho := stl_op 1 pd rc op
      have hpd := stl_pd 1 pd rc op h1
      simp only [tkAC] at hr ⊢
      by_cases c1 : t = 4
      · rw [if_pos c1]
        exact jn_wf h' hs0 hp (by omega) (Or.inl rfl)
      rw [if_neg c1] at hr ⊢
      by_cases c2 : t = 5
      · rw [if_pos c2]
        exact jn_wf h' hs0 hp (by omega) (Or.inl rfl)
      rw [if_neg c2] at hr ⊢
      by_cases c3 : t = 141 ∧ 0 < br
      · rw [if_pos c3] at hr ⊢
        by_cases c4 : (stl 1 pd rc op).1 = []
        · rw [if_pos c4] at hr
          simp at hr
        · rw [if_neg c4]
          exact ⟨fun x hx => hpd x (List.mem_of_mem_tail hx), by omega, h3, fun _ => htn, by omega, by omega, fun g => by omega⟩
      rw [if_neg c3] at hr ⊢
      by_cases c5 : t = 159 ∧ br = 0
      · rw [if_pos c5]
        exact ⟨hpd, by omega, h3, fun g => absurd rfl g, by omega, by omega, fun g => by omega⟩
      rw [if_neg c5] at hr
      simp at hr
    have un : ∀ rt, ¬ st = 0 → (rt = 0 ∨ rt = 1) → (tkUnit t v (rc, pd, st, ln, tn, op, br, rt)).1 = 0 → wfR (B + 50) (tkUnit t v (rc, pd, st, ln, tn, op, br, rt)).2 := by
      intro rt hs0 hrt hr
      have htn := h4 hs0
      simp only [tkUnit] at hr ⊢
      by_cases c1 : t = 2
      · rw [if_pos c1]
        exact ⟨h1, by omega, h3, fun _ => htn, by omega, by omega, fun _ => hrt⟩
      rw [if_neg c1] at hr ⊢
      by_cases c2 : 41 ≤ t ∧ t ≤ 49
      · rw [if_pos c2]
        exact ⟨h1, by omega, h3, fun _ => htn, by omega, by omega, fun _ => hrt⟩
      rw [if_neg c2] at hr
      simp at hr
    simp only [rdS] at hr ⊢
    rw [if_pos hb] at hr ⊢
    by_cases s0 : st = 0
    · rw [if_pos s0] at hr ⊢
      simp only [tkLine] at hr ⊢
      by_cases c1 : 20 ≤ t ∧ t ≤ 24
      · rw [if_pos c1] at hr ⊢
        by_cases c2 : ln < 16
        · rw [if_pos c2]
          exact ⟨h1, by omega, by omega, fun _ => cW_bd (by omega), by omega, by omega, fun g => by omega⟩
        · rw [if_neg c2] at hr
          simp at hr
      · rw [if_neg c1] at hr
        simp at hr
    rw [if_neg s0] at hr ⊢
    have htn := h4 s0
    by_cases s1 : st = 1
    · rw [if_pos s1] at hr ⊢
      simp only [tkWhen] at hr ⊢
      by_cases c1 : t = 159
      · rw [if_pos c1]
        exact ⟨h1, by omega, h3, fun g => absurd rfl g, by omega, by omega, fun g => by omega⟩
      rw [if_neg c1] at hr ⊢
      by_cases c2 : t = 3
      · rw [if_pos c2]
        exact ⟨h1, by omega, h3, fun _ => htn, by omega, by omega, fun g => by omega⟩
      rw [if_neg c2] at hr
      simp at hr
    rw [if_neg s1] at hr ⊢
    by_cases s2 : st = 2
    · rw [if_pos s2] at hr ⊢
      simp only [tkCond] at hr ⊢
      by_cases c1 : t = 6
      · rw [if_pos c1] at hr ⊢
        by_cases c2 : op < 8
        · rw [if_pos c2]
          exact ⟨pd_cons (by omega) h1, h2, h3, fun _ => htn, by omega, by omega, fun g => by omega⟩
        · rw [if_neg c2] at hr
          simp at hr
      rw [if_neg c1] at hr ⊢
      by_cases c3 : t = 140
      · rw [if_pos c3] at hr ⊢
        by_cases c2 : op < 8
        · rw [if_pos c2]
          exact ⟨pd_cons (by omega) h1, h2, h3, fun _ => htn, by omega, by omega, fun g => by omega⟩
        · rw [if_neg c2] at hr
          simp at hr
      rw [if_neg c3] at hr ⊢
      exact un 0 s0 (Or.inl rfl) hr
    rw [if_neg s2] at hr ⊢
    by_cases s3 : st = 3
    · rw [if_pos s3] at hr ⊢
      exact un rt s0 (h7 (Or.inl s3)) hr
    rw [if_neg s3] at hr ⊢
    by_cases s4 : st = 4
    · rw [if_pos s4] at hr ⊢
      have hrt := h7 (Or.inr (Or.inl s4))
      simp only [tkDiv] at hr ⊢
      by_cases c1 : t = 2
      · rw [if_pos c1] at hr ⊢
        by_cases c2 : v = 0
        · rw [if_pos c2] at hr
          simp at hr
        · rw [if_neg c2]
          exact ⟨h1, by omega, h3, fun _ => htn, by omega, by omega, fun _ => hrt⟩
      · rw [if_neg c1] at hr
        simp at hr
    rw [if_neg s4] at hr ⊢
    by_cases s5 : st = 5
    · rw [if_pos s5] at hr ⊢
      have hrt := h7 (Or.inr (Or.inr s5))
      simp only [tkAU] at hr ⊢
      by_cases c1 : t = 142
      · rw [if_pos c1]
        exact jn_wf h' s0 hp (by omega) (Or.inr ⟨rfl, hrt⟩)
      rw [if_neg c1] at hr ⊢
      by_cases c2 : t = 147
      · rw [if_pos c2]
        have ho := stl_op 6 pd rc op
        exact ⟨stl_pd 6 pd rc op h1, by omega, h3, fun _ => htn, by omega, by omega, fun _ => hrt⟩
      rw [if_neg c2] at hr ⊢
      by_cases c3 : t = 143
      · rw [if_pos c3]
        exact jn_wf h' s0 hp (by omega) (Or.inr ⟨rfl, hrt⟩)
      rw [if_neg c3] at hr ⊢
      by_cases c4 : t = 145
      · rw [if_pos c4]
        exact jn_wf h' s0 hp (by omega) (Or.inr ⟨rfl, hrt⟩)
      rw [if_neg c4] at hr ⊢
      by_cases c5 : 160 ≤ t ∧ t ≤ 162
      · rw [if_pos c5] at hr ⊢
        by_cases c6 : rt = 0
        · rw [if_pos c6]
          exact jn_wf (st := st) ⟨h1, h2, h3, h4, h5, h6, fun _ => Or.inr rfl⟩ s0 hp (by omega) (Or.inr ⟨rfl, Or.inr rfl⟩)
        · rw [if_neg c6] at hr
          simp at hr
      rw [if_neg c5] at hr ⊢
      by_cases c6 : rt = 0
      · rw [if_pos c6] at hr
        simp at hr
      rw [if_neg c6] at hr ⊢
      exact ac s0 hr
    rw [if_neg s5] at hr ⊢
    exact ac s0 hr
  · simp only [rdS] at hr
    rw [if_neg hb] at hr
    simp at hr
theorem tkLine_v (t : Int) (c : rdT) : (tkLine t c).1 = 0 ∨ (tkLine t c).1 = 1 ∨ (tkLine t c).1 = 2 ∨ (tkLine t c).1 = 3 ∨ (tkLine t c).1 = 9 := by
  obtain ⟨rc, pd, st, ln, tn, op, br, rt⟩ := c
  simp only [tkLine]
  repeat' split
  all_goals simp
theorem tkWhen_v (t : Int) (c : rdT) : (tkWhen t c).1 = 0 ∨ (tkWhen t c).1 = 1 ∨ (tkWhen t c).1 = 2 ∨ (tkWhen t c).1 = 3 ∨ (tkWhen t c).1 = 9 := by
  obtain ⟨rc, pd, st, ln, tn, op, br, rt⟩ := c
  simp only [tkWhen]
  repeat' split
  all_goals simp
theorem tkUnit_v (t v : Int) (c : rdT) : (tkUnit t v c).1 = 0 ∨ (tkUnit t v c).1 = 1 ∨ (tkUnit t v c).1 = 2 ∨ (tkUnit t v c).1 = 3 ∨ (tkUnit t v c).1 = 9 := by
  obtain ⟨rc, pd, st, ln, tn, op, br, rt⟩ := c
  simp only [tkUnit]
  repeat' split
  all_goals simp
theorem tkCond_v (t v : Int) (c : rdT) : (tkCond t v c).1 = 0 ∨ (tkCond t v c).1 = 1 ∨ (tkCond t v c).1 = 2 ∨ (tkCond t v c).1 = 3 ∨ (tkCond t v c).1 = 9 := by
  obtain ⟨rc, pd, st, ln, tn, op, br, rt⟩ := c
  have := tkUnit_v t v (rc, pd, st, ln, tn, op, br, 0)
  by_cases c1 : t = 6
  · simp only [tkCond]
    rw [if_pos c1]
    split <;> simp
  · by_cases c2 : t = 140
    · simp only [tkCond]
      rw [if_neg c1, if_pos c2]
      split <;> simp
    · have e : tkCond t v (rc, pd, st, ln, tn, op, br, rt) = tkUnit t v (rc, pd, st, ln, tn, op, br, 0) := by
        show (if t = 6 then _ else if t = 140 then _ else tkUnit t v (rc, pd, st, ln, tn, op, br, 0)) = _
        rw [if_neg c1, if_neg c2]
      rw [e]
      exact this
theorem tkDiv_v (t v : Int) (c : rdT) : (tkDiv t v c).1 = 0 ∨ (tkDiv t v c).1 = 1 ∨ (tkDiv t v c).1 = 2 ∨ (tkDiv t v c).1 = 3 ∨ (tkDiv t v c).1 = 9 := by
  obtain ⟨rc, pd, st, ln, tn, op, br, rt⟩ := c
  simp only [tkDiv]
  repeat' split
  all_goals simp
theorem tkAC_v (t : Int) (c : rdT) : (tkAC t c).1 = 0 ∨ (tkAC t c).1 = 1 ∨ (tkAC t c).1 = 2 ∨ (tkAC t c).1 = 3 ∨ (tkAC t c).1 = 9 := by
  obtain ⟨rc, pd, st, ln, tn, op, br, rt⟩ := c
  simp only [tkAC]
  split
  · simp
  · split
    · simp
    · split
      · split <;> simp
      · split <;> simp
theorem tkAU_v (t : Int) (c : rdT) : (tkAU t c).1 = 0 ∨ (tkAU t c).1 = 1 ∨ (tkAU t c).1 = 2 ∨ (tkAU t c).1 = 3 ∨ (tkAU t c).1 = 9 := by
  obtain ⟨rc, pd, st, ln, tn, op, br, rt⟩ := c
  have := tkAC_v t (rc, pd, st, ln, tn, op, br, rt)
  show ((if t = 142 then _ else if t = 147 then _ else if t = 143 then _ else if t = 145 then _ else if 160 ≤ t ∧ t ≤ 162 then _ else if rt = 0 then _ else tkAC t (rc, pd, st, ln, tn, op, br, rt)) : Int × rdT).1 = 0 ∨ ((if t = 142 then _ else if t = 147 then _ else if t = 143 then _ else if t = 145 then _ else if 160 ≤ t ∧ t ≤ 162 then _ else if rt = 0 then _ else tkAC t (rc, pd, st, ln, tn, op, br, rt)) : Int × rdT).1 = 1 ∨ ((if t = 142 then _ else if t = 147 then _ else if t = 143 then _ else if t = 145 then _ else if 160 ≤ t ∧ t ≤ 162 then _ else if rt = 0 then _ else tkAC t (rc, pd, st, ln, tn, op, br, rt)) : Int × rdT).1 = 2 ∨ ((if t = 142 then _ else if t = 147 then _ else if t = 143 then _ else if t = 145 then _ else if 160 ≤ t ∧ t ≤ 162 then _ else if rt = 0 then _ else tkAC t (rc, pd, st, ln, tn, op, br, rt)) : Int × rdT).1 = 3 ∨ ((if t = 142 then _ else if t = 147 then _ else if t = 143 then _ else if t = 145 then _ else if 160 ≤ t ∧ t ≤ 162 then _ else if rt = 0 then _ else tkAC t (rc, pd, st, ln, tn, op, br, rt)) : Int × rdT).1 = 9
  by_cases c1 : t = 142
  · rw [if_pos c1]; simp
  rw [if_neg c1]
  by_cases c2 : t = 147
  · rw [if_pos c2]; simp
  rw [if_neg c2]
  by_cases c3 : t = 143
  · rw [if_pos c3]; simp
  rw [if_neg c3]
  by_cases c4 : t = 145
  · rw [if_pos c4]; simp
  rw [if_neg c4]
  by_cases c5 : 160 ≤ t ∧ t ≤ 162
  · rw [if_pos c5]
    split <;> simp
  rw [if_neg c5]
  by_cases c6 : rt = 0
  · rw [if_pos c6]; simp
  rw [if_neg c6]
  exact this
/-- which of the takes it is -/
theorem rdS_st {t v : Int} {rc pd : List Int} {st ln tn op br rt : Int} (hb : rc.length + pd.length < 400 ∧ pd.length < 40) : rdS t v (rc, pd, st, ln, tn, op, br, rt) = if st = 0 then tkLine t (rc, pd, st, ln, tn, op, br, rt) else if st = 1 then tkWhen t (rc, pd, st, ln, tn, op, br, rt) else if st = 2 then tkCond t v (rc, pd, st, ln, tn, op, br, rt) else if st = 3 then tkUnit t v (rc, pd, st, ln, tn, op, br, rt) else if st = 4 then tkDiv t v (rc, pd, st, ln, tn, op, br, rt) else if st = 5 then tkAU t (rc, pd, st, ln, tn, op, br, rt) else tkAC t (rc, pd, st, ln, tn, op, br, rt) := by
  show (if rc.length + pd.length < 400 ∧ pd.length < 40 then (if st = 0 then tkLine t (rc, pd, st, ln, tn, op, br, rt) else if st = 1 then tkWhen t (rc, pd, st, ln, tn, op, br, rt) else if st = 2 then tkCond t v (rc, pd, st, ln, tn, op, br, rt) else if st = 3 then tkUnit t v (rc, pd, st, ln, tn, op, br, rt) else if st = 4 then tkDiv t v (rc, pd, st, ln, tn, op, br, rt) else if st = 5 then tkAU t (rc, pd, st, ln, tn, op, br, rt) else tkAC t (rc, pd, st, ln, tn, op, br, rt)) else (9, rc, pd, st, ln, tn, op, br, rt)) = _
  rw [if_pos hb]
theorem rdS_v (t v : Int) (c : rdT) : (rdS t v c).1 = 0 ∨ (rdS t v c).1 = 1 ∨ (rdS t v c).1 = 2 ∨ (rdS t v c).1 = 3 ∨ (rdS t v c).1 = 9 := by
  obtain ⟨rc, pd, st, ln, tn, op, br, rt⟩ := c
  by_cases hb : rc.length + pd.length < 400 ∧ pd.length < 40
  · rw [rdS_st hb]
    split
    · exact tkLine_v t _
    · split
      · exact tkWhen_v t _
      · split
        · exact tkCond_v t v _
        · split
          · exact tkUnit_v t v _
          · split
            · exact tkDiv_v t v _
            · split
              · exact tkAU_v t _
              · exact tkAC_v t _
  · simp only [rdS]
    rw [if_neg hb]
    simp
/-- nothing goes on behind the end -/
theorem rdS_end (v : Int) (c : rdT) : ¬ (rdS 0 v c).1 = 0 := by
  obtain ⟨rc, pd, st, ln, tn, op, br, rt⟩ := c
  by_cases hb : rc.length + pd.length < 400 ∧ pd.length < 40
  · rw [rdS_st hb]
    split
    · simp [tkLine]
    · split
      · simp [tkWhen]
      · split
        · simp [tkCond, tkUnit]
        · split
          · simp [tkUnit]
          · split
            · simp [tkDiv]
            · split
              · by_cases h : rt = 0
                · simp [tkAU, h]
                · simp [tkAU, tkAC, h]
              · simp [tkAC]
  · simp only [rdS]
    rw [if_neg hb]
    simp
def nsS (T : Nat → Int) (len s : Nat) : Nat := spE isBl T len (nxS T len s)
/-- a text read: -1 at its end, else its fault -/
def rdE (T : Nat → Int) (len : Nat) : Nat → Nat → rdT → Int × Nat × rdT
  | 0, s, c => (0, s, c)
  | f + 1, s, c => if tkS T len s = 0 ∧ c.2.2.1 = 0 then (-1, s, c) else if (rdS (tkS T len s) (vlS T len s) c).1 = 0 then rdE T len f (nsS T len s) (rdS (tkS T len s) (vlS T len s) c).2 else ((rdS (tkS T len s) (vlS T len s) c).1, s, (rdS (tkS T len s) (vlS T len s) c).2)
section LOOPR
variable {d n z : Nat} {Rf : Nat → Nat → Option Nat} {K : Nat → Nat × Nat} {T : Nat → Int} {len : Nat}
theorem c_disp (H : sm_sh Rf K) {Z : Nat → Nat → Int} (hz : sm_zs Z) {c : rdT} (hr : rRd Z c) {t v tok val B : Int} (h12 : Z 74 12 = tok) (h13 : Z 74 13 = val) (ha : tA t v tok val) (hv : t = 2 → 0 ≤ v ∧ v ≤ 9999) (hB : 0 ≤ B ∧ B ≤ 50000) (hw : wfR B c) (h9 : ¬ (rdS t v c).1 = 9) (q1 l2 l3 l4 : Option sm_V) : ∃ Z', ((rdS t v c).1 = 0 → rRd Z' (rdS t v c).2) ∧ frR Z Z' ∧ ∀ Q, sm_wp (d + 6) 30 85 [some (.inr (some 74)), q1, l2, l3, l4] [] (Z, Rf, K, n, z) Q = sm_wp (d + 6) 30 202 [some (.inr (some 74)), q1, l2, l3, l4] [] (sm_u Z' 74 0 (rdS t v c).1, Rf, K, n, z) Q := by
  obtain ⟨rc, pd, st, ln, tn, op, br, rt⟩ := c
  obtain ⟨h1, h2, h3, h4, h5, h6, h7⟩ := hw
  have r6 : Z 74 6 = st := hr.2.2.1
  by_cases hb : rc.length + pd.length < 400 ∧ pd.length < 40
  · have head : ∀ Q, sm_wp (d + 6) 30 85 [some (.inr (some 74)), q1, l2, l3, l4] [] (Z, Rf, K, n, z) Q = sm_wp (d + 6) 30 (sm_sel st 194 [(0, 128), (1, 139), (2, 150), (3, 161), (4, 172), (5, 183)]) [some (.inr (some 74)), q1, l2, l3, l4] [] (Z, Rf, K, n, z) Q := by
      intro Q
      rw [b30_85, kk_74 H, r6]
      simp only [wr_id, wr_b2i, wr_wr, b2i_eq0, b2i_eq1, b2i_01, sm_rem_eq, sm_div_eq, wl_m2, wl_m1, wl_0, wl_1, wl_2, wl_3, wl_4, wl_5, wl_6, wl_7, wl_8, wl_9, wl_10, wl_12, wl_13, wl_14, wl_16, wl_20, wl_21, wl_22, wl_23, wl_32, wl_36, wl_40, wl_41, wl_42, wl_43, wl_44, wl_45, wl_46, wl_47, wl_48, wl_57, wl_59, wl_60, wl_61, wl_62, wl_65, wl_90, wl_97, wl_99, wl_100, wl_121, wl_122, wl_140, wl_142, wl_143, wl_145, wl_147, wl_160, wl_161, wl_162, wl_242, wl_380, wl_400, wl_420, wl_820, wl_1340, wl_5480, wl_9999, true_and, and_true, true_or, or_true, if_true, if_false, and_self, or_self, false_and, and_false, false_or, or_false, not_true_eq_false, not_false_eq_true, Int.reduceEq, Int.reduceLT, Int.reduceLE, Int.reduceToNat, Int.reduceAdd, Int.reduceMul, Int.reduceSub, Int.reduceMod, Int.reduceDiv, Int.reduceNeg, Nat.reduceEqDiff, sm_rd_ok, sm_rd_ok2, sm_wt_ok, sm_cp_ok, Option.isSome_some, Option.getD_some, w_cont, Option.toList_some, Option.toList_none, List.cons_append, List.nil_append]
      rw [wr_id (by omega) (by omega)]
    by_cases s0 : st = 0
    · have e : rdS t v (rc, pd, st, ln, tn, op, br, rt) = tkLine t (rc, pd, st, ln, tn, op, br, rt) := by simp only [rdS]; rw [if_pos hb, if_pos s0]
      rw [e]
      obtain ⟨Z1, a1, a2, a3⟩ := c_takeLine (d := d + 5) (n := n) (z := z) H hr h12 h13 ha h3
      refine ⟨Z1, a1, a2, fun Q => ?_⟩
      rw [head, show sm_sel st 194 [(0, 128), (1, 139), (2, 150), (3, 161), (4, 172), (5, 183)] = 128 by rw [s0]; rfl, b30_128, kk_74 H]
      simp only [wr_id, wr_b2i, wr_wr, b2i_eq0, b2i_eq1, b2i_01, sm_rem_eq, sm_div_eq, wl_m2, wl_m1, wl_0, wl_1, wl_2, wl_3, wl_4, wl_5, wl_6, wl_7, wl_8, wl_9, wl_10, wl_12, wl_13, wl_14, wl_16, wl_20, wl_21, wl_22, wl_23, wl_32, wl_36, wl_40, wl_41, wl_42, wl_43, wl_44, wl_45, wl_46, wl_47, wl_48, wl_57, wl_59, wl_60, wl_61, wl_62, wl_65, wl_90, wl_97, wl_99, wl_100, wl_121, wl_122, wl_140, wl_142, wl_143, wl_145, wl_147, wl_160, wl_161, wl_162, wl_242, wl_380, wl_400, wl_420, wl_820, wl_1340, wl_5480, wl_9999, true_and, and_true, true_or, or_true, if_true, if_false, and_self, or_self, false_and, and_false, false_or, or_false, not_true_eq_false, not_false_eq_true, Int.reduceEq, Int.reduceLT, Int.reduceLE, Int.reduceToNat, Int.reduceAdd, Int.reduceMul, Int.reduceSub, Int.reduceMod, Int.reduceDiv, Int.reduceNeg, Nat.reduceEqDiff, sm_rd_ok, sm_rd_ok2, sm_wt_ok, sm_cp_ok, Option.isSome_some, Option.getD_some, w_cont, Option.toList_some, Option.toList_none, List.cons_append, List.nil_append]
      refine (a3 _).trans ?_
      rw [w_cont]
      simp only [wr_id, wr_b2i, wr_wr, b2i_eq0, b2i_eq1, b2i_01, sm_rem_eq, sm_div_eq, wl_m2, wl_m1, wl_0, wl_1, wl_2, wl_3, wl_4, wl_5, wl_6, wl_7, wl_8, wl_9, wl_10, wl_12, wl_13, wl_14, wl_16, wl_20, wl_21, wl_22, wl_23, wl_32, wl_36, wl_40, wl_41, wl_42, wl_43, wl_44, wl_45, wl_46, wl_47, wl_48, wl_57, wl_59, wl_60, wl_61, wl_62, wl_65, wl_90, wl_97, wl_99, wl_100, wl_121, wl_122, wl_140, wl_142, wl_143, wl_145, wl_147, wl_160, wl_161, wl_162, wl_242, wl_380, wl_400, wl_420, wl_820, wl_1340, wl_5480, wl_9999, true_and, and_true, true_or, or_true, if_true, if_false, and_self, or_self, false_and, and_false, false_or, or_false, not_true_eq_false, not_false_eq_true, Int.reduceEq, Int.reduceLT, Int.reduceLE, Int.reduceToNat, Int.reduceAdd, Int.reduceMul, Int.reduceSub, Int.reduceMod, Int.reduceDiv, Int.reduceNeg, Nat.reduceEqDiff, sm_rd_ok, sm_rd_ok2, sm_wt_ok, sm_cp_ok, Option.isSome_some, Option.getD_some, w_cont, Option.toList_some, Option.toList_none, List.cons_append, List.nil_append]
      rw [b30_133, kk_74 H]
      simp only [wr_id, wr_b2i, wr_wr, b2i_eq0, b2i_eq1, b2i_01, sm_rem_eq, sm_div_eq, wl_m2, wl_m1, wl_0, wl_1, wl_2, wl_3, wl_4, wl_5, wl_6, wl_7, wl_8, wl_9, wl_10, wl_12, wl_13, wl_14, wl_16, wl_20, wl_21, wl_22, wl_23, wl_32, wl_36, wl_40, wl_41, wl_42, wl_43, wl_44, wl_45, wl_46, wl_47, wl_48, wl_57, wl_59, wl_60, wl_61, wl_62, wl_65, wl_90, wl_97, wl_99, wl_100, wl_121, wl_122, wl_140, wl_142, wl_143, wl_145, wl_147, wl_160, wl_161, wl_162, wl_242, wl_380, wl_400, wl_420, wl_820, wl_1340, wl_5480, wl_9999, true_and, and_true, true_or, or_true, if_true, if_false, and_self, or_self, false_and, and_false, false_or, or_false, not_true_eq_false, not_false_eq_true, Int.reduceEq, Int.reduceLT, Int.reduceLE, Int.reduceToNat, Int.reduceAdd, Int.reduceMul, Int.reduceSub, Int.reduceMod, Int.reduceDiv, Int.reduceNeg, Nat.reduceEqDiff, sm_rd_ok, sm_rd_ok2, sm_wt_ok, sm_cp_ok, Option.isSome_some, Option.getD_some, w_cont, Option.toList_some, Option.toList_none, List.cons_append, List.nil_append]
    have htn := h4 s0
    by_cases s1 : st = 1
    · have e : rdS t v (rc, pd, st, ln, tn, op, br, rt) = tkWhen t (rc, pd, st, ln, tn, op, br, rt) := by simp only [rdS]; rw [if_pos hb, if_neg s0, if_pos s1]
      rw [e]
      obtain ⟨Z1, a1, a2, a3⟩ := c_takeWhen (d := d + 4) (n := n) (z := z) H hr h12 h13 ha (by omega) htn
      refine ⟨Z1, a1, a2, fun Q => ?_⟩
      rw [head, show sm_sel st 194 [(0, 128), (1, 139), (2, 150), (3, 161), (4, 172), (5, 183)] = 139 by rw [s1]; rfl, b30_139, kk_74 H]
      simp only [wr_id, wr_b2i, wr_wr, b2i_eq0, b2i_eq1, b2i_01, sm_rem_eq, sm_div_eq, wl_m2, wl_m1, wl_0, wl_1, wl_2, wl_3, wl_4, wl_5, wl_6, wl_7, wl_8, wl_9, wl_10, wl_12, wl_13, wl_14, wl_16, wl_20, wl_21, wl_22, wl_23, wl_32, wl_36, wl_40, wl_41, wl_42, wl_43, wl_44, wl_45, wl_46, wl_47, wl_48, wl_57, wl_59, wl_60, wl_61, wl_62, wl_65, wl_90, wl_97, wl_99, wl_100, wl_121, wl_122, wl_140, wl_142, wl_143, wl_145, wl_147, wl_160, wl_161, wl_162, wl_242, wl_380, wl_400, wl_420, wl_820, wl_1340, wl_5480, wl_9999, true_and, and_true, true_or, or_true, if_true, if_false, and_self, or_self, false_and, and_false, false_or, or_false, not_true_eq_false, not_false_eq_true, Int.reduceEq, Int.reduceLT, Int.reduceLE, Int.reduceToNat, Int.reduceAdd, Int.reduceMul, Int.reduceSub, Int.reduceMod, Int.reduceDiv, Int.reduceNeg, Nat.reduceEqDiff, sm_rd_ok, sm_rd_ok2, sm_wt_ok, sm_cp_ok, Option.isSome_some, Option.getD_some, w_cont, Option.toList_some, Option.toList_none, List.cons_append, List.nil_append]
      refine (a3 _).trans ?_
      rw [w_cont]
      simp only [wr_id, wr_b2i, wr_wr, b2i_eq0, b2i_eq1, b2i_01, sm_rem_eq, sm_div_eq, wl_m2, wl_m1, wl_0, wl_1, wl_2, wl_3, wl_4, wl_5, wl_6, wl_7, wl_8, wl_9, wl_10, wl_12, wl_13, wl_14, wl_16, wl_20, wl_21, wl_22, wl_23, wl_32, wl_36, wl_40, wl_41, wl_42, wl_43, wl_44, wl_45, wl_46, wl_47, wl_48, wl_57, wl_59, wl_60, wl_61, wl_62, wl_65, wl_90, wl_97, wl_99, wl_100, wl_121, wl_122, wl_140, wl_142, wl_143, wl_145, wl_147, wl_160, wl_161, wl_162, wl_242, wl_380, wl_400, wl_420, wl_820, wl_1340, wl_5480, wl_9999, true_and, and_true, true_or, or_true, if_true, if_false, and_self, or_self, false_and, and_false, false_or, or_false, not_true_eq_false, not_false_eq_true, Int.reduceEq, Int.reduceLT, Int.reduceLE, Int.reduceToNat, Int.reduceAdd, Int.reduceMul, Int.reduceSub, Int.reduceMod, Int.reduceDiv, Int.reduceNeg, Nat.reduceEqDiff, sm_rd_ok, sm_rd_ok2, sm_wt_ok, sm_cp_ok, Option.isSome_some, Option.getD_some, w_cont, Option.toList_some, Option.toList_none, List.cons_append, List.nil_append]
      rw [b30_144, kk_74 H]
      simp only [wr_id, wr_b2i, wr_wr, b2i_eq0, b2i_eq1, b2i_01, sm_rem_eq, sm_div_eq, wl_m2, wl_m1, wl_0, wl_1, wl_2, wl_3, wl_4, wl_5, wl_6, wl_7, wl_8, wl_9, wl_10, wl_12, wl_13, wl_14, wl_16, wl_20, wl_21, wl_22, wl_23, wl_32, wl_36, wl_40, wl_41, wl_42, wl_43, wl_44, wl_45, wl_46, wl_47, wl_48, wl_57, wl_59, wl_60, wl_61, wl_62, wl_65, wl_90, wl_97, wl_99, wl_100, wl_121, wl_122, wl_140, wl_142, wl_143, wl_145, wl_147, wl_160, wl_161, wl_162, wl_242, wl_380, wl_400, wl_420, wl_820, wl_1340, wl_5480, wl_9999, true_and, and_true, true_or, or_true, if_true, if_false, and_self, or_self, false_and, and_false, false_or, or_false, not_true_eq_false, not_false_eq_true, Int.reduceEq, Int.reduceLT, Int.reduceLE, Int.reduceToNat, Int.reduceAdd, Int.reduceMul, Int.reduceSub, Int.reduceMod, Int.reduceDiv, Int.reduceNeg, Nat.reduceEqDiff, sm_rd_ok, sm_rd_ok2, sm_wt_ok, sm_cp_ok, Option.isSome_some, Option.getD_some, w_cont, Option.toList_some, Option.toList_none, List.cons_append, List.nil_append]
    by_cases s2 : st = 2
    · have e : rdS t v (rc, pd, st, ln, tn, op, br, rt) = tkCond t v (rc, pd, st, ln, tn, op, br, rt) := by
        show (if rc.length + pd.length < 400 ∧ pd.length < 40 then (if st = 0 then _ else if st = 1 then _ else if st = 2 then tkCond t v (rc, pd, st, ln, tn, op, br, rt) else _) else _) = _
        rw [if_pos hb, if_neg s0, if_neg s1, if_pos s2]
      rw [e]
      obtain ⟨Z1, a1, a2, a3⟩ := c_takeCond (d := d + 3) (n := n) (z := z) H hr h12 h13 ha hv (by omega) hb.2 (by omega)
      refine ⟨Z1, a1, a2, fun Q => ?_⟩
      rw [head, show sm_sel st 194 [(0, 128), (1, 139), (2, 150), (3, 161), (4, 172), (5, 183)] = 150 by rw [s2]; rfl, b30_150, kk_74 H]
      simp only [wr_id, wr_b2i, wr_wr, b2i_eq0, b2i_eq1, b2i_01, sm_rem_eq, sm_div_eq, wl_m2, wl_m1, wl_0, wl_1, wl_2, wl_3, wl_4, wl_5, wl_6, wl_7, wl_8, wl_9, wl_10, wl_12, wl_13, wl_14, wl_16, wl_20, wl_21, wl_22, wl_23, wl_32, wl_36, wl_40, wl_41, wl_42, wl_43, wl_44, wl_45, wl_46, wl_47, wl_48, wl_57, wl_59, wl_60, wl_61, wl_62, wl_65, wl_90, wl_97, wl_99, wl_100, wl_121, wl_122, wl_140, wl_142, wl_143, wl_145, wl_147, wl_160, wl_161, wl_162, wl_242, wl_380, wl_400, wl_420, wl_820, wl_1340, wl_5480, wl_9999, true_and, and_true, true_or, or_true, if_true, if_false, and_self, or_self, false_and, and_false, false_or, or_false, not_true_eq_false, not_false_eq_true, Int.reduceEq, Int.reduceLT, Int.reduceLE, Int.reduceToNat, Int.reduceAdd, Int.reduceMul, Int.reduceSub, Int.reduceMod, Int.reduceDiv, Int.reduceNeg, Nat.reduceEqDiff, sm_rd_ok, sm_rd_ok2, sm_wt_ok, sm_cp_ok, Option.isSome_some, Option.getD_some, w_cont, Option.toList_some, Option.toList_none, List.cons_append, List.nil_append]
      refine (a3 _).trans ?_
      rw [w_cont]
      simp only [wr_id, wr_b2i, wr_wr, b2i_eq0, b2i_eq1, b2i_01, sm_rem_eq, sm_div_eq, wl_m2, wl_m1, wl_0, wl_1, wl_2, wl_3, wl_4, wl_5, wl_6, wl_7, wl_8, wl_9, wl_10, wl_12, wl_13, wl_14, wl_16, wl_20, wl_21, wl_22, wl_23, wl_32, wl_36, wl_40, wl_41, wl_42, wl_43, wl_44, wl_45, wl_46, wl_47, wl_48, wl_57, wl_59, wl_60, wl_61, wl_62, wl_65, wl_90, wl_97, wl_99, wl_100, wl_121, wl_122, wl_140, wl_142, wl_143, wl_145, wl_147, wl_160, wl_161, wl_162, wl_242, wl_380, wl_400, wl_420, wl_820, wl_1340, wl_5480, wl_9999, true_and, and_true, true_or, or_true, if_true, if_false, and_self, or_self, false_and, and_false, false_or, or_false, not_true_eq_false, not_false_eq_true, Int.reduceEq, Int.reduceLT, Int.reduceLE, Int.reduceToNat, Int.reduceAdd, Int.reduceMul, Int.reduceSub, Int.reduceMod, Int.reduceDiv, Int.reduceNeg, Nat.reduceEqDiff, sm_rd_ok, sm_rd_ok2, sm_wt_ok, sm_cp_ok, Option.isSome_some, Option.getD_some, w_cont, Option.toList_some, Option.toList_none, List.cons_append, List.nil_append]
      rw [b30_155, kk_74 H]
      simp only [wr_id, wr_b2i, wr_wr, b2i_eq0, b2i_eq1, b2i_01, sm_rem_eq, sm_div_eq, wl_m2, wl_m1, wl_0, wl_1, wl_2, wl_3, wl_4, wl_5, wl_6, wl_7, wl_8, wl_9, wl_10, wl_12, wl_13, wl_14, wl_16, wl_20, wl_21, wl_22, wl_23, wl_32, wl_36, wl_40, wl_41, wl_42, wl_43, wl_44, wl_45, wl_46, wl_47, wl_48, wl_57, wl_59, wl_60, wl_61, wl_62, wl_65, wl_90, wl_97, wl_99, wl_100, wl_121, wl_122, wl_140, wl_142, wl_143, wl_145, wl_147, wl_160, wl_161, wl_162, wl_242, wl_380, wl_400, wl_420, wl_820, wl_1340, wl_5480, wl_9999, true_and, and_true, true_or, or_true, if_true, if_false, and_self, or_self, false_and, and_false, false_or, or_false, not_true_eq_false, not_false_eq_true, Int.reduceEq, Int.reduceLT, Int.reduceLE, Int.reduceToNat, Int.reduceAdd, Int.reduceMul, Int.reduceSub, Int.reduceMod, Int.reduceDiv, Int.reduceNeg, Nat.reduceEqDiff, sm_rd_ok, sm_rd_ok2, sm_wt_ok, sm_cp_ok, Option.isSome_some, Option.getD_some, w_cont, Option.toList_some, Option.toList_none, List.cons_append, List.nil_append]
    by_cases s3 : st = 3
    · have e : rdS t v (rc, pd, st, ln, tn, op, br, rt) = tkUnit t v (rc, pd, st, ln, tn, op, br, rt) := by
        show (if rc.length + pd.length < 400 ∧ pd.length < 40 then (if st = 0 then _ else if st = 1 then _ else if st = 2 then _ else if st = 3 then tkUnit t v (rc, pd, st, ln, tn, op, br, rt) else _) else _) = _
        rw [if_pos hb, if_neg s0, if_neg s1, if_neg s2, if_pos s3]
      rw [e]
      obtain ⟨Z1, a1, a2, a3⟩ := c_takeUnit (d := d + 4) (n := n) (z := z) H hr h12 h13 ha hv (by omega)
      refine ⟨Z1, a1, a2, fun Q => ?_⟩
      rw [head, show sm_sel st 194 [(0, 128), (1, 139), (2, 150), (3, 161), (4, 172), (5, 183)] = 161 by rw [s3]; rfl, b30_161, kk_74 H]
      simp only [wr_id, wr_b2i, wr_wr, b2i_eq0, b2i_eq1, b2i_01, sm_rem_eq, sm_div_eq, wl_m2, wl_m1, wl_0, wl_1, wl_2, wl_3, wl_4, wl_5, wl_6, wl_7, wl_8, wl_9, wl_10, wl_12, wl_13, wl_14, wl_16, wl_20, wl_21, wl_22, wl_23, wl_32, wl_36, wl_40, wl_41, wl_42, wl_43, wl_44, wl_45, wl_46, wl_47, wl_48, wl_57, wl_59, wl_60, wl_61, wl_62, wl_65, wl_90, wl_97, wl_99, wl_100, wl_121, wl_122, wl_140, wl_142, wl_143, wl_145, wl_147, wl_160, wl_161, wl_162, wl_242, wl_380, wl_400, wl_420, wl_820, wl_1340, wl_5480, wl_9999, true_and, and_true, true_or, or_true, if_true, if_false, and_self, or_self, false_and, and_false, false_or, or_false, not_true_eq_false, not_false_eq_true, Int.reduceEq, Int.reduceLT, Int.reduceLE, Int.reduceToNat, Int.reduceAdd, Int.reduceMul, Int.reduceSub, Int.reduceMod, Int.reduceDiv, Int.reduceNeg, Nat.reduceEqDiff, sm_rd_ok, sm_rd_ok2, sm_wt_ok, sm_cp_ok, Option.isSome_some, Option.getD_some, w_cont, Option.toList_some, Option.toList_none, List.cons_append, List.nil_append]
      refine (a3 _).trans ?_
      rw [w_cont]
      simp only [wr_id, wr_b2i, wr_wr, b2i_eq0, b2i_eq1, b2i_01, sm_rem_eq, sm_div_eq, wl_m2, wl_m1, wl_0, wl_1, wl_2, wl_3, wl_4, wl_5, wl_6, wl_7, wl_8, wl_9, wl_10, wl_12, wl_13, wl_14, wl_16, wl_20, wl_21, wl_22, wl_23, wl_32, wl_36, wl_40, wl_41, wl_42, wl_43, wl_44, wl_45, wl_46, wl_47, wl_48, wl_57, wl_59, wl_60, wl_61, wl_62, wl_65, wl_90, wl_97, wl_99, wl_100, wl_121, wl_122, wl_140, wl_142, wl_143, wl_145, wl_147, wl_160, wl_161, wl_162, wl_242, wl_380, wl_400, wl_420, wl_820, wl_1340, wl_5480, wl_9999, true_and, and_true, true_or, or_true, if_true, if_false, and_self, or_self, false_and, and_false, false_or, or_false, not_true_eq_false, not_false_eq_true, Int.reduceEq, Int.reduceLT, Int.reduceLE, Int.reduceToNat, Int.reduceAdd, Int.reduceMul, Int.reduceSub, Int.reduceMod, Int.reduceDiv, Int.reduceNeg, Nat.reduceEqDiff, sm_rd_ok, sm_rd_ok2, sm_wt_ok, sm_cp_ok, Option.isSome_some, Option.getD_some, w_cont, Option.toList_some, Option.toList_none, List.cons_append, List.nil_append]
      rw [b30_166, kk_74 H]
      simp only [wr_id, wr_b2i, wr_wr, b2i_eq0, b2i_eq1, b2i_01, sm_rem_eq, sm_div_eq, wl_m2, wl_m1, wl_0, wl_1, wl_2, wl_3, wl_4, wl_5, wl_6, wl_7, wl_8, wl_9, wl_10, wl_12, wl_13, wl_14, wl_16, wl_20, wl_21, wl_22, wl_23, wl_32, wl_36, wl_40, wl_41, wl_42, wl_43, wl_44, wl_45, wl_46, wl_47, wl_48, wl_57, wl_59, wl_60, wl_61, wl_62, wl_65, wl_90, wl_97, wl_99, wl_100, wl_121, wl_122, wl_140, wl_142, wl_143, wl_145, wl_147, wl_160, wl_161, wl_162, wl_242, wl_380, wl_400, wl_420, wl_820, wl_1340, wl_5480, wl_9999, true_and, and_true, true_or, or_true, if_true, if_false, and_self, or_self, false_and, and_false, false_or, or_false, not_true_eq_false, not_false_eq_true, Int.reduceEq, Int.reduceLT, Int.reduceLE, Int.reduceToNat, Int.reduceAdd, Int.reduceMul, Int.reduceSub, Int.reduceMod, Int.reduceDiv, Int.reduceNeg, Nat.reduceEqDiff, sm_rd_ok, sm_rd_ok2, sm_wt_ok, sm_cp_ok, Option.isSome_some, Option.getD_some, w_cont, Option.toList_some, Option.toList_none, List.cons_append, List.nil_append]
    by_cases s4 : st = 4
    · have e : rdS t v (rc, pd, st, ln, tn, op, br, rt) = tkDiv t v (rc, pd, st, ln, tn, op, br, rt) := by
        show (if rc.length + pd.length < 400 ∧ pd.length < 40 then (if st = 0 then _ else if st = 1 then _ else if st = 2 then _ else if st = 3 then _ else if st = 4 then tkDiv t v (rc, pd, st, ln, tn, op, br, rt) else _) else _) = _
        rw [if_pos hb, if_neg s0, if_neg s1, if_neg s2, if_neg s3, if_pos s4]
      rw [e]
      obtain ⟨Z1, a1, a2, a3⟩ := c_takeDiv (d := d + 4) (n := n) (z := z) H hr h12 h13 ha hv (by omega)
      refine ⟨Z1, a1, a2, fun Q => ?_⟩
      rw [head, show sm_sel st 194 [(0, 128), (1, 139), (2, 150), (3, 161), (4, 172), (5, 183)] = 172 by rw [s4]; rfl, b30_172, kk_74 H]
      simp only [wr_id, wr_b2i, wr_wr, b2i_eq0, b2i_eq1, b2i_01, sm_rem_eq, sm_div_eq, wl_m2, wl_m1, wl_0, wl_1, wl_2, wl_3, wl_4, wl_5, wl_6, wl_7, wl_8, wl_9, wl_10, wl_12, wl_13, wl_14, wl_16, wl_20, wl_21, wl_22, wl_23, wl_32, wl_36, wl_40, wl_41, wl_42, wl_43, wl_44, wl_45, wl_46, wl_47, wl_48, wl_57, wl_59, wl_60, wl_61, wl_62, wl_65, wl_90, wl_97, wl_99, wl_100, wl_121, wl_122, wl_140, wl_142, wl_143, wl_145, wl_147, wl_160, wl_161, wl_162, wl_242, wl_380, wl_400, wl_420, wl_820, wl_1340, wl_5480, wl_9999, true_and, and_true, true_or, or_true, if_true, if_false, and_self, or_self, false_and, and_false, false_or, or_false, not_true_eq_false, not_false_eq_true, Int.reduceEq, Int.reduceLT, Int.reduceLE, Int.reduceToNat, Int.reduceAdd, Int.reduceMul, Int.reduceSub, Int.reduceMod, Int.reduceDiv, Int.reduceNeg, Nat.reduceEqDiff, sm_rd_ok, sm_rd_ok2, sm_wt_ok, sm_cp_ok, Option.isSome_some, Option.getD_some, w_cont, Option.toList_some, Option.toList_none, List.cons_append, List.nil_append]
      refine (a3 _).trans ?_
      rw [w_cont]
      simp only [wr_id, wr_b2i, wr_wr, b2i_eq0, b2i_eq1, b2i_01, sm_rem_eq, sm_div_eq, wl_m2, wl_m1, wl_0, wl_1, wl_2, wl_3, wl_4, wl_5, wl_6, wl_7, wl_8, wl_9, wl_10, wl_12, wl_13, wl_14, wl_16, wl_20, wl_21, wl_22, wl_23, wl_32, wl_36, wl_40, wl_41, wl_42, wl_43, wl_44, wl_45, wl_46, wl_47, wl_48, wl_57, wl_59, wl_60, wl_61, wl_62, wl_65, wl_90, wl_97, wl_99, wl_100, wl_121, wl_122, wl_140, wl_142, wl_143, wl_145, wl_147, wl_160, wl_161, wl_162, wl_242, wl_380, wl_400, wl_420, wl_820, wl_1340, wl_5480, wl_9999, true_and, and_true, true_or, or_true, if_true, if_false, and_self, or_self, false_and, and_false, false_or, or_false, not_true_eq_false, not_false_eq_true, Int.reduceEq, Int.reduceLT, Int.reduceLE, Int.reduceToNat, Int.reduceAdd, Int.reduceMul, Int.reduceSub, Int.reduceMod, Int.reduceDiv, Int.reduceNeg, Nat.reduceEqDiff, sm_rd_ok, sm_rd_ok2, sm_wt_ok, sm_cp_ok, Option.isSome_some, Option.getD_some, w_cont, Option.toList_some, Option.toList_none, List.cons_append, List.nil_append]
      rw [b30_177, kk_74 H]
      simp only [wr_id, wr_b2i, wr_wr, b2i_eq0, b2i_eq1, b2i_01, sm_rem_eq, sm_div_eq, wl_m2, wl_m1, wl_0, wl_1, wl_2, wl_3, wl_4, wl_5, wl_6, wl_7, wl_8, wl_9, wl_10, wl_12, wl_13, wl_14, wl_16, wl_20, wl_21, wl_22, wl_23, wl_32, wl_36, wl_40, wl_41, wl_42, wl_43, wl_44, wl_45, wl_46, wl_47, wl_48, wl_57, wl_59, wl_60, wl_61, wl_62, wl_65, wl_90, wl_97, wl_99, wl_100, wl_121, wl_122, wl_140, wl_142, wl_143, wl_145, wl_147, wl_160, wl_161, wl_162, wl_242, wl_380, wl_400, wl_420, wl_820, wl_1340, wl_5480, wl_9999, true_and, and_true, true_or, or_true, if_true, if_false, and_self, or_self, false_and, and_false, false_or, or_false, not_true_eq_false, not_false_eq_true, Int.reduceEq, Int.reduceLT, Int.reduceLE, Int.reduceToNat, Int.reduceAdd, Int.reduceMul, Int.reduceSub, Int.reduceMod, Int.reduceDiv, Int.reduceNeg, Nat.reduceEqDiff, sm_rd_ok, sm_rd_ok2, sm_wt_ok, sm_cp_ok, Option.isSome_some, Option.getD_some, w_cont, Option.toList_some, Option.toList_none, List.cons_append, List.nil_append]
    by_cases s5 : st = 5
    · have e : rdS t v (rc, pd, st, ln, tn, op, br, rt) = tkAU t (rc, pd, st, ln, tn, op, br, rt) := by
        show (if rc.length + pd.length < 400 ∧ pd.length < 40 then (if st = 0 then _ else if st = 1 then _ else if st = 2 then _ else if st = 3 then _ else if st = 4 then _ else if st = 5 then tkAU t (rc, pd, st, ln, tn, op, br, rt) else _) else _) = _
        rw [if_pos hb, if_neg s0, if_neg s1, if_neg s2, if_neg s3, if_neg s4, if_pos s5]
      rw [e] at h9 ⊢
      obtain ⟨Z1, a1, a2, a3⟩ := c_takeAU (d := d + 1) (n := n) (z := z) H hz hr h12 h13 ha hb.1 hb.2 h1 htn (by omega) (h7 (Or.inr (Or.inr s5))) h9
      refine ⟨Z1, a1, a2, fun Q => ?_⟩
      rw [head, show sm_sel st 194 [(0, 128), (1, 139), (2, 150), (3, 161), (4, 172), (5, 183)] = 183 by rw [s5]; rfl, b30_183, kk_74 H]
      simp only [wr_id, wr_b2i, wr_wr, b2i_eq0, b2i_eq1, b2i_01, sm_rem_eq, sm_div_eq, wl_m2, wl_m1, wl_0, wl_1, wl_2, wl_3, wl_4, wl_5, wl_6, wl_7, wl_8, wl_9, wl_10, wl_12, wl_13, wl_14, wl_16, wl_20, wl_21, wl_22, wl_23, wl_32, wl_36, wl_40, wl_41, wl_42, wl_43, wl_44, wl_45, wl_46, wl_47, wl_48, wl_57, wl_59, wl_60, wl_61, wl_62, wl_65, wl_90, wl_97, wl_99, wl_100, wl_121, wl_122, wl_140, wl_142, wl_143, wl_145, wl_147, wl_160, wl_161, wl_162, wl_242, wl_380, wl_400, wl_420, wl_820, wl_1340, wl_5480, wl_9999, true_and, and_true, true_or, or_true, if_true, if_false, and_self, or_self, false_and, and_false, false_or, or_false, not_true_eq_false, not_false_eq_true, Int.reduceEq, Int.reduceLT, Int.reduceLE, Int.reduceToNat, Int.reduceAdd, Int.reduceMul, Int.reduceSub, Int.reduceMod, Int.reduceDiv, Int.reduceNeg, Nat.reduceEqDiff, sm_rd_ok, sm_rd_ok2, sm_wt_ok, sm_cp_ok, Option.isSome_some, Option.getD_some, w_cont, Option.toList_some, Option.toList_none, List.cons_append, List.nil_append]
      refine (a3 _).trans ?_
      rw [w_cont]
      simp only [wr_id, wr_b2i, wr_wr, b2i_eq0, b2i_eq1, b2i_01, sm_rem_eq, sm_div_eq, wl_m2, wl_m1, wl_0, wl_1, wl_2, wl_3, wl_4, wl_5, wl_6, wl_7, wl_8, wl_9, wl_10, wl_12, wl_13, wl_14, wl_16, wl_20, wl_21, wl_22, wl_23, wl_32, wl_36, wl_40, wl_41, wl_42, wl_43, wl_44, wl_45, wl_46, wl_47, wl_48, wl_57, wl_59, wl_60, wl_61, wl_62, wl_65, wl_90, wl_97, wl_99, wl_100, wl_121, wl_122, wl_140, wl_142, wl_143, wl_145, wl_147, wl_160, wl_161, wl_162, wl_242, wl_380, wl_400, wl_420, wl_820, wl_1340, wl_5480, wl_9999, true_and, and_true, true_or, or_true, if_true, if_false, and_self, or_self, false_and, and_false, false_or, or_false, not_true_eq_false, not_false_eq_true, Int.reduceEq, Int.reduceLT, Int.reduceLE, Int.reduceToNat, Int.reduceAdd, Int.reduceMul, Int.reduceSub, Int.reduceMod, Int.reduceDiv, Int.reduceNeg, Nat.reduceEqDiff, sm_rd_ok, sm_rd_ok2, sm_wt_ok, sm_cp_ok, Option.isSome_some, Option.getD_some, w_cont, Option.toList_some, Option.toList_none, List.cons_append, List.nil_append]
      rw [b30_188, kk_74 H]
      simp only [wr_id, wr_b2i, wr_wr, b2i_eq0, b2i_eq1, b2i_01, sm_rem_eq, sm_div_eq, wl_m2, wl_m1, wl_0, wl_1, wl_2, wl_3, wl_4, wl_5, wl_6, wl_7, wl_8, wl_9, wl_10, wl_12, wl_13, wl_14, wl_16, wl_20, wl_21, wl_22, wl_23, wl_32, wl_36, wl_40, wl_41, wl_42, wl_43, wl_44, wl_45, wl_46, wl_47, wl_48, wl_57, wl_59, wl_60, wl_61, wl_62, wl_65, wl_90, wl_97, wl_99, wl_100, wl_121, wl_122, wl_140, wl_142, wl_143, wl_145, wl_147, wl_160, wl_161, wl_162, wl_242, wl_380, wl_400, wl_420, wl_820, wl_1340, wl_5480, wl_9999, true_and, and_true, true_or, or_true, if_true, if_false, and_self, or_self, false_and, and_false, false_or, or_false, not_true_eq_false, not_false_eq_true, Int.reduceEq, Int.reduceLT, Int.reduceLE, Int.reduceToNat, Int.reduceAdd, Int.reduceMul, Int.reduceSub, Int.reduceMod, Int.reduceDiv, Int.reduceNeg, Nat.reduceEqDiff, sm_rd_ok, sm_rd_ok2, sm_wt_ok, sm_cp_ok, Option.isSome_some, Option.getD_some, w_cont, Option.toList_some, Option.toList_none, List.cons_append, List.nil_append]
    · have s6 : st = 6 := by omega
      have e : rdS t v (rc, pd, st, ln, tn, op, br, rt) = tkAC t (rc, pd, st, ln, tn, op, br, rt) := by
        show (if rc.length + pd.length < 400 ∧ pd.length < 40 then (if st = 0 then _ else if st = 1 then _ else if st = 2 then _ else if st = 3 then _ else if st = 4 then _ else if st = 5 then _ else tkAC t (rc, pd, st, ln, tn, op, br, rt)) else _) = _
        rw [if_pos hb, if_neg s0, if_neg s1, if_neg s2, if_neg s3, if_neg s4, if_neg s5]
      rw [e] at h9 ⊢
      obtain ⟨Z1, a1, a2, a3⟩ := c_takeAC (d := d + 2) (n := n) (z := z) H hz hr h12 h13 ha hb.1 hb.2 h1 htn (by omega) h9
      refine ⟨Z1, a1, a2, fun Q => ?_⟩
      rw [head, show sm_sel st 194 [(0, 128), (1, 139), (2, 150), (3, 161), (4, 172), (5, 183)] = 194 by rw [s6]; rfl, b30_194, kk_74 H]
      simp only [wr_id, wr_b2i, wr_wr, b2i_eq0, b2i_eq1, b2i_01, sm_rem_eq, sm_div_eq, wl_m2, wl_m1, wl_0, wl_1, wl_2, wl_3, wl_4, wl_5, wl_6, wl_7, wl_8, wl_9, wl_10, wl_12, wl_13, wl_14, wl_16, wl_20, wl_21, wl_22, wl_23, wl_32, wl_36, wl_40, wl_41, wl_42, wl_43, wl_44, wl_45, wl_46, wl_47, wl_48, wl_57, wl_59, wl_60, wl_61, wl_62, wl_65, wl_90, wl_97, wl_99, wl_100, wl_121, wl_122, wl_140, wl_142, wl_143, wl_145, wl_147, wl_160, wl_161, wl_162, wl_242, wl_380, wl_400, wl_420, wl_820, wl_1340, wl_5480, wl_9999, true_and, and_true, true_or, or_true, if_true, if_false, and_self, or_self, false_and, and_false, false_or, or_false, not_true_eq_false, not_false_eq_true, Int.reduceEq, Int.reduceLT, Int.reduceLE, Int.reduceToNat, Int.reduceAdd, Int.reduceMul, Int.reduceSub, Int.reduceMod, Int.reduceDiv, Int.reduceNeg, Nat.reduceEqDiff, sm_rd_ok, sm_rd_ok2, sm_wt_ok, sm_cp_ok, Option.isSome_some, Option.getD_some, w_cont, Option.toList_some, Option.toList_none, List.cons_append, List.nil_append]
      refine (a3 _).trans ?_
      rw [w_cont]
      simp only [wr_id, wr_b2i, wr_wr, b2i_eq0, b2i_eq1, b2i_01, sm_rem_eq, sm_div_eq, wl_m2, wl_m1, wl_0, wl_1, wl_2, wl_3, wl_4, wl_5, wl_6, wl_7, wl_8, wl_9, wl_10, wl_12, wl_13, wl_14, wl_16, wl_20, wl_21, wl_22, wl_23, wl_32, wl_36, wl_40, wl_41, wl_42, wl_43, wl_44, wl_45, wl_46, wl_47, wl_48, wl_57, wl_59, wl_60, wl_61, wl_62, wl_65, wl_90, wl_97, wl_99, wl_100, wl_121, wl_122, wl_140, wl_142, wl_143, wl_145, wl_147, wl_160, wl_161, wl_162, wl_242, wl_380, wl_400, wl_420, wl_820, wl_1340, wl_5480, wl_9999, true_and, and_true, true_or, or_true, if_true, if_false, and_self, or_self, false_and, and_false, false_or, or_false, not_true_eq_false, not_false_eq_true, Int.reduceEq, Int.reduceLT, Int.reduceLE, Int.reduceToNat, Int.reduceAdd, Int.reduceMul, Int.reduceSub, Int.reduceMod, Int.reduceDiv, Int.reduceNeg, Nat.reduceEqDiff, sm_rd_ok, sm_rd_ok2, sm_wt_ok, sm_cp_ok, Option.isSome_some, Option.getD_some, w_cont, Option.toList_some, Option.toList_none, List.cons_append, List.nil_append]
      rw [b30_199, kk_74 H]
      simp only [wr_id, wr_b2i, wr_wr, b2i_eq0, b2i_eq1, b2i_01, sm_rem_eq, sm_div_eq, wl_m2, wl_m1, wl_0, wl_1, wl_2, wl_3, wl_4, wl_5, wl_6, wl_7, wl_8, wl_9, wl_10, wl_12, wl_13, wl_14, wl_16, wl_20, wl_21, wl_22, wl_23, wl_32, wl_36, wl_40, wl_41, wl_42, wl_43, wl_44, wl_45, wl_46, wl_47, wl_48, wl_57, wl_59, wl_60, wl_61, wl_62, wl_65, wl_90, wl_97, wl_99, wl_100, wl_121, wl_122, wl_140, wl_142, wl_143, wl_145, wl_147, wl_160, wl_161, wl_162, wl_242, wl_380, wl_400, wl_420, wl_820, wl_1340, wl_5480, wl_9999, true_and, and_true, true_or, or_true, if_true, if_false, and_self, or_self, false_and, and_false, false_or, or_false, not_true_eq_false, not_false_eq_true, Int.reduceEq, Int.reduceLT, Int.reduceLE, Int.reduceToNat, Int.reduceAdd, Int.reduceMul, Int.reduceSub, Int.reduceMod, Int.reduceDiv, Int.reduceNeg, Nat.reduceEqDiff, sm_rd_ok, sm_rd_ok2, sm_wt_ok, sm_cp_ok, Option.isSome_some, Option.getD_some, w_cont, Option.toList_some, Option.toList_none, List.cons_append, List.nil_append]
  · exfalso
    apply h9
    simp only [rdS]
    rw [if_neg hb]
theorem rRd_o {Z : Nat → Nat → Int} {c : rdT} {j : Nat} {v : Int} (hj : j = 0 ∨ j = 1 ∨ 12 ≤ j) (hr : rRd Z c) : rRd (sm_u Z 74 j v) c := by
  obtain ⟨rc, pd, st, ln, tn, op, br, rt⟩ := c
  obtain ⟨⟨q1, q2⟩, ⟨q3, q4⟩, q5, q6, q7, q8, q9, q10⟩ := hr
  refine ⟨⟨?_, ?_⟩, ⟨?_, ?_⟩, ?_, ?_, ?_, ?_, ?_, ?_⟩
  · rw [sm_u_eq, if_neg (by omega)]; exact q1
  · rw [sm_u_row (by decide)]; exact q2
  · rw [sm_u_eq, if_neg (by omega)]; exact q3
  · rw [sm_u_row (by decide)]; exact q4
  · rw [sm_u_eq, if_neg (by omega)]; exact q5
  · rw [sm_u_eq, if_neg (by omega)]; exact q6
  · rw [sm_u_eq, if_neg (by omega)]; exact q7
  · rw [sm_u_eq, if_neg (by omega)]; exact q8
  · rw [sm_u_eq, if_neg (by omega)]; exact q9
  · rw [sm_u_eq, if_neg (by omega)]; exact q10
theorem rRd_fr {Z Z' : Nat → Nat → Int} {c : rdT} (h1 : ∀ a, a ≠ 74 → Z' a = Z a) (h2 : ∀ j, j ≠ 12 → j ≠ 13 → j ≠ 14 → Z' 74 j = Z 74 j) (hr : rRd Z c) : rRd Z' c := by
  obtain ⟨rc, pd, st, ln, tn, op, br, rt⟩ := c
  obtain ⟨⟨q1, q2⟩, ⟨q3, q4⟩, q5, q6, q7, q8, q9, q10⟩ := hr
  refine ⟨⟨?_, ?_⟩, ⟨?_, ?_⟩, ?_, ?_, ?_, ?_, ?_, ?_⟩
  · rw [h2 3 (by decide) (by decide) (by decide)]; exact q1
  · rw [h1 75 (by decide)]; exact q2
  · rw [h2 5 (by decide) (by decide) (by decide)]; exact q3
  · rw [h1 76 (by decide)]; exact q4
  · rw [h2 6 (by decide) (by decide) (by decide)]; exact q5
  · rw [h2 7 (by decide) (by decide) (by decide)]; exact q6
  · rw [h2 8 (by decide) (by decide) (by decide)]; exact q7
  · rw [h2 9 (by decide) (by decide) (by decide)]; exact q8
  · rw [h2 10 (by decide) (by decide) (by decide)]; exact q9
  · rw [h2 11 (by decide) (by decide) (by decide)]; exact q10
/-- all but the reader's own rows -/
def frX (Z Z' : Nat → Nat → Int) : Prop := ∀ a, a ≠ 74 → a ≠ 75 → a ≠ 76 → Z' a = Z a
theorem c_read_loop (H : sm_sh Rf K) (hl : len ≤ 400) (l2 : Option sm_V) : ∀ (f i p s : Nat) (c : rdT) (Z : Nat → Nat → Int), i + f = len + 1 → p ≤ len → s = spE isBl T len p → Z 74 14 = (p : Int) → Z 74 0 = 0 → sm_zs Z → tpC Z T → rRd Z c → wfR (50 * (i : Int)) c → ¬ (rdE T len f s c).1 = 9 → ¬ (rdE T len f s c).1 = 0 → ∃ Z' l4, frX Z Z' ∧ ((rdE T len f s c).1 = -1 → rRd Z' (rdE T len f s c).2.2 ∧ ∀ Q, sm_wp (d + 6) 30 14 [some (.inr (some 74)), some (.inr (some 77)), l2, some (.inl (len : Int)), some (.inl (i : Int))] [] (Z, Rf, K, n, z) Q = sm_wp (d + 6) 30 62 [some (.inr (some 74)), some (.inr (some 77)), l2, some (.inl (len : Int)), l4] [] (Z', Rf, K, n, z) Q) ∧ (¬ (rdE T len f s c).1 = -1 → Z' 74 0 = (rdE T len f s c).1 ∧ Z' 74 1 = ((rdE T len f s c).2.1 : Int) ∧ ∀ Q, sm_wp (d + 6) 30 14 [some (.inr (some 74)), some (.inr (some 77)), l2, some (.inl (len : Int)), some (.inl (i : Int))] [] (Z, Rf, K, n, z) Q = Q (some (.inr none)) (Z', Rf, K, n, z)) := by
  intro f
  induction f with
  | zero =>
    intro i p s c Z _ _ _ _ _ _ _ _ _ _ h0
    exact absurd rfl h0
  | succ f ih =>
    intro i p s c Z hif hp hs h14 h00 hz ht hr hw h9 h0
    have hsl : s ≤ len := by rw [hs]; exact spE_le hp
    have hTb := ht.2
    -- the token
    let Z1 := sm_u (sm_u Z 74 14 (s : Int)) 74 1 (s : Int)
    have z1 : sm_zs Z1 := zs_fr hz (fun a ha => by show sm_u _ _ _ _ a = _; rw [sm_u_row (by omega), sm_u_row (by omega)])
    have t1 : tpC Z1 T := tpC_fr (by show sm_u _ _ _ _ 77 = _; rw [sm_u_row (by decide), sm_u_row (by decide)]) ht
    have z14 : Z1 74 14 = (s : Int) := by show sm_u _ _ _ _ 74 14 = _; rw [sm_u_eq, if_neg (by decide), sm_u_self]
    have r1 : rRd Z1 c := rRd_o (by omega) (rRd_o (by omega) hr)
    obtain ⟨Z2, tok, val, a1, a2, a3, a4, a5, a6, a7, q2⟩ := c_readToken (d := d) (n := n) (z := z) H z1 hl hsl z14 t1
    have r2 : rRd Z2 c := rRd_fr a6 a7 r1
    have z2 : sm_zs Z2 := zs_fr z1 (fun a ha => a6 a (by omega))
    have x1 : frX Z Z1 := fun a q1 _ _ => by show sm_u _ _ _ _ a = _; rw [sm_u_row q1, sm_u_row q1]
    have x2 : frX Z Z2 := fun a q1 q2 q3 => by rw [a6 a q1, x1 a q1 q2 q3]
    have y0 : Z2 74 0 = 0 := by rw [a7 0 (by decide) (by decide) (by decide)]; show sm_u _ _ _ _ 74 0 = _; rw [sm_u_eq, if_neg (by decide), sm_u_eq, if_neg (by decide)]; exact h00
    have y1 : Z2 74 1 = (s : Int) := by rw [a7 1 (by decide) (by decide) (by decide)]; exact sm_u_self
    have hA := tRel_A a4
    have hA' := hA
    unfold tA at hA'
    have hst : Z2 74 6 = c.2.2.1 := by
      obtain ⟨rc, pd, st, ln, tn, op, br, rt⟩ := c
      exact r2.2.2.1
    have hstb : 0 ≤ c.2.2.1 ∧ c.2.2.1 ≤ 6 := by
      obtain ⟨rc, pd, st, ln, tn, op, br, rt⟩ := c
      exact hw.2.1
    have head : ∀ Q, sm_wp (d + 6) 30 14 [some (.inr (some 74)), some (.inr (some 77)), l2, some (.inl (len : Int)), some (.inl (i : Int))] [] (Z, Rf, K, n, z) Q = if tkS T len s = 0 ∧ c.2.2.1 = 0 then sm_wp (d + 6) 30 62 [some (.inr (some 74)), some (.inr (some 77)), l2, some (.inl (len : Int)), some (.inl (i : Int))] [] (Z2, Rf, K, n, z) Q else sm_wp (d + 6) 30 85 [some (.inr (some 74)), some (.inr (some 77)), l2, some (.inl (len : Int)), some (.inl (i : Int))] [] (Z2, Rf, K, n, z) Q := by
      intro Q
      rw [b30_14, wr_id (by omega) (by omega), wr_id (by omega) (by omega), if_neg (by omega), b30_20, kk_74 H, h00]
      simp only [wr_id, wr_b2i, wr_wr, b2i_eq0, b2i_eq1, b2i_01, sm_rem_eq, sm_div_eq, wl_m2, wl_m1, wl_0, wl_1, wl_2, wl_3, wl_4, wl_5, wl_6, wl_7, wl_8, wl_9, wl_10, wl_12, wl_13, wl_14, wl_16, wl_20, wl_21, wl_22, wl_23, wl_32, wl_36, wl_40, wl_41, wl_42, wl_43, wl_44, wl_45, wl_46, wl_47, wl_48, wl_57, wl_59, wl_60, wl_61, wl_62, wl_65, wl_90, wl_97, wl_99, wl_100, wl_121, wl_122, wl_140, wl_142, wl_143, wl_145, wl_147, wl_160, wl_161, wl_162, wl_242, wl_380, wl_400, wl_420, wl_820, wl_1340, wl_5480, wl_9999, true_and, and_true, true_or, or_true, if_true, if_false, and_self, or_self, false_and, and_false, false_or, or_false, not_true_eq_false, not_false_eq_true, Int.reduceEq, Int.reduceLT, Int.reduceLE, Int.reduceToNat, Int.reduceAdd, Int.reduceMul, Int.reduceSub, Int.reduceMod, Int.reduceDiv, Int.reduceNeg, Nat.reduceEqDiff, sm_rd_ok, sm_rd_ok2, sm_wt_ok, sm_cp_ok, Option.isSome_some, Option.getD_some, w_cont, Option.toList_some, Option.toList_none, List.cons_append, List.nil_append]
      rw [b30_27, kk_74 H]
      simp only [wr_id, wr_b2i, wr_wr, b2i_eq0, b2i_eq1, b2i_01, sm_rem_eq, sm_div_eq, wl_m2, wl_m1, wl_0, wl_1, wl_2, wl_3, wl_4, wl_5, wl_6, wl_7, wl_8, wl_9, wl_10, wl_12, wl_13, wl_14, wl_16, wl_20, wl_21, wl_22, wl_23, wl_32, wl_36, wl_40, wl_41, wl_42, wl_43, wl_44, wl_45, wl_46, wl_47, wl_48, wl_57, wl_59, wl_60, wl_61, wl_62, wl_65, wl_90, wl_97, wl_99, wl_100, wl_121, wl_122, wl_140, wl_142, wl_143, wl_145, wl_147, wl_160, wl_161, wl_162, wl_242, wl_380, wl_400, wl_420, wl_820, wl_1340, wl_5480, wl_9999, true_and, and_true, true_or, or_true, if_true, if_false, and_self, or_self, false_and, and_false, false_or, or_false, not_true_eq_false, not_false_eq_true, Int.reduceEq, Int.reduceLT, Int.reduceLE, Int.reduceToNat, Int.reduceAdd, Int.reduceMul, Int.reduceSub, Int.reduceMod, Int.reduceDiv, Int.reduceNeg, Nat.reduceEqDiff, sm_rd_ok, sm_rd_ok2, sm_wt_ok, sm_cp_ok, Option.isSome_some, Option.getD_some, w_cont, Option.toList_some, Option.toList_none, List.cons_append, List.nil_append]
      rw [ce32]
      refine (c_skip_loop H hl (len - p) p Z rfl hp h14 ht _).trans ?_
      rw [w_cont, ← hs]
      simp only [wr_id, wr_b2i, wr_wr, b2i_eq0, b2i_eq1, b2i_01, sm_rem_eq, sm_div_eq, wl_m2, wl_m1, wl_0, wl_1, wl_2, wl_3, wl_4, wl_5, wl_6, wl_7, wl_8, wl_9, wl_10, wl_12, wl_13, wl_14, wl_16, wl_20, wl_21, wl_22, wl_23, wl_32, wl_36, wl_40, wl_41, wl_42, wl_43, wl_44, wl_45, wl_46, wl_47, wl_48, wl_57, wl_59, wl_60, wl_61, wl_62, wl_65, wl_90, wl_97, wl_99, wl_100, wl_121, wl_122, wl_140, wl_142, wl_143, wl_145, wl_147, wl_160, wl_161, wl_162, wl_242, wl_380, wl_400, wl_420, wl_820, wl_1340, wl_5480, wl_9999, true_and, and_true, true_or, or_true, if_true, if_false, and_self, or_self, false_and, and_false, false_or, or_false, not_true_eq_false, not_false_eq_true, Int.reduceEq, Int.reduceLT, Int.reduceLE, Int.reduceToNat, Int.reduceAdd, Int.reduceMul, Int.reduceSub, Int.reduceMod, Int.reduceDiv, Int.reduceNeg, Nat.reduceEqDiff, sm_rd_ok, sm_rd_ok2, sm_wt_ok, sm_cp_ok, Option.isSome_some, Option.getD_some, w_cont, Option.toList_some, Option.toList_none, List.cons_append, List.nil_append]
      rw [b30_33, kk_74 H, sm_u_self]
      simp only [wr_id, wr_b2i, wr_wr, b2i_eq0, b2i_eq1, b2i_01, sm_rem_eq, sm_div_eq, wl_m2, wl_m1, wl_0, wl_1, wl_2, wl_3, wl_4, wl_5, wl_6, wl_7, wl_8, wl_9, wl_10, wl_12, wl_13, wl_14, wl_16, wl_20, wl_21, wl_22, wl_23, wl_32, wl_36, wl_40, wl_41, wl_42, wl_43, wl_44, wl_45, wl_46, wl_47, wl_48, wl_57, wl_59, wl_60, wl_61, wl_62, wl_65, wl_90, wl_97, wl_99, wl_100, wl_121, wl_122, wl_140, wl_142, wl_143, wl_145, wl_147, wl_160, wl_161, wl_162, wl_242, wl_380, wl_400, wl_420, wl_820, wl_1340, wl_5480, wl_9999, true_and, and_true, true_or, or_true, if_true, if_false, and_self, or_self, false_and, and_false, false_or, or_false, not_true_eq_false, not_false_eq_true, Int.reduceEq, Int.reduceLT, Int.reduceLE, Int.reduceToNat, Int.reduceAdd, Int.reduceMul, Int.reduceSub, Int.reduceMod, Int.reduceDiv, Int.reduceNeg, Nat.reduceEqDiff, sm_rd_ok, sm_rd_ok2, sm_wt_ok, sm_cp_ok, Option.isSome_some, Option.getD_some, w_cont, Option.toList_some, Option.toList_none, List.cons_append, List.nil_append]
      refine (q2 _).trans ?_
      rw [w_cont]
      simp only [wr_id, wr_b2i, wr_wr, b2i_eq0, b2i_eq1, b2i_01, sm_rem_eq, sm_div_eq, wl_m2, wl_m1, wl_0, wl_1, wl_2, wl_3, wl_4, wl_5, wl_6, wl_7, wl_8, wl_9, wl_10, wl_12, wl_13, wl_14, wl_16, wl_20, wl_21, wl_22, wl_23, wl_32, wl_36, wl_40, wl_41, wl_42, wl_43, wl_44, wl_45, wl_46, wl_47, wl_48, wl_57, wl_59, wl_60, wl_61, wl_62, wl_65, wl_90, wl_97, wl_99, wl_100, wl_121, wl_122, wl_140, wl_142, wl_143, wl_145, wl_147, wl_160, wl_161, wl_162, wl_242, wl_380, wl_400, wl_420, wl_820, wl_1340, wl_5480, wl_9999, true_and, and_true, true_or, or_true, if_true, if_false, and_self, or_self, false_and, and_false, false_or, or_false, not_true_eq_false, not_false_eq_true, Int.reduceEq, Int.reduceLT, Int.reduceLE, Int.reduceToNat, Int.reduceAdd, Int.reduceMul, Int.reduceSub, Int.reduceMod, Int.reduceDiv, Int.reduceNeg, Nat.reduceEqDiff, sm_rd_ok, sm_rd_ok2, sm_wt_ok, sm_cp_ok, Option.isSome_some, Option.getD_some, w_cont, Option.toList_some, Option.toList_none, List.cons_append, List.nil_append]
      rw [b30_47, kk_74 H, a1]
      simp only [wr_id, wr_b2i, wr_wr, b2i_eq0, b2i_eq1, b2i_01, sm_rem_eq, sm_div_eq, wl_m2, wl_m1, wl_0, wl_1, wl_2, wl_3, wl_4, wl_5, wl_6, wl_7, wl_8, wl_9, wl_10, wl_12, wl_13, wl_14, wl_16, wl_20, wl_21, wl_22, wl_23, wl_32, wl_36, wl_40, wl_41, wl_42, wl_43, wl_44, wl_45, wl_46, wl_47, wl_48, wl_57, wl_59, wl_60, wl_61, wl_62, wl_65, wl_90, wl_97, wl_99, wl_100, wl_121, wl_122, wl_140, wl_142, wl_143, wl_145, wl_147, wl_160, wl_161, wl_162, wl_242, wl_380, wl_400, wl_420, wl_820, wl_1340, wl_5480, wl_9999, true_and, and_true, true_or, or_true, if_true, if_false, and_self, or_self, false_and, and_false, false_or, or_false, not_true_eq_false, not_false_eq_true, Int.reduceEq, Int.reduceLT, Int.reduceLE, Int.reduceToNat, Int.reduceAdd, Int.reduceMul, Int.reduceSub, Int.reduceMod, Int.reduceDiv, Int.reduceNeg, Nat.reduceEqDiff, sm_rd_ok, sm_rd_ok2, sm_wt_ok, sm_cp_ok, Option.isSome_some, Option.getD_some, w_cont, Option.toList_some, Option.toList_none, List.cons_append, List.nil_append]
      rw [wr_id (by omega) (by omega)]
      by_cases ht1 : tok = 1
      · rw [if_pos ht1, b30_55, kk_74 H, hst]
        simp only [wr_id, wr_b2i, wr_wr, b2i_eq0, b2i_eq1, b2i_01, sm_rem_eq, sm_div_eq, wl_m2, wl_m1, wl_0, wl_1, wl_2, wl_3, wl_4, wl_5, wl_6, wl_7, wl_8, wl_9, wl_10, wl_12, wl_13, wl_14, wl_16, wl_20, wl_21, wl_22, wl_23, wl_32, wl_36, wl_40, wl_41, wl_42, wl_43, wl_44, wl_45, wl_46, wl_47, wl_48, wl_57, wl_59, wl_60, wl_61, wl_62, wl_65, wl_90, wl_97, wl_99, wl_100, wl_121, wl_122, wl_140, wl_142, wl_143, wl_145, wl_147, wl_160, wl_161, wl_162, wl_242, wl_380, wl_400, wl_420, wl_820, wl_1340, wl_5480, wl_9999, true_and, and_true, true_or, or_true, if_true, if_false, and_self, or_self, false_and, and_false, false_or, or_false, not_true_eq_false, not_false_eq_true, Int.reduceEq, Int.reduceLT, Int.reduceLE, Int.reduceToNat, Int.reduceAdd, Int.reduceMul, Int.reduceSub, Int.reduceMod, Int.reduceDiv, Int.reduceNeg, Nat.reduceEqDiff, sm_rd_ok, sm_rd_ok2, sm_wt_ok, sm_cp_ok, Option.isSome_some, Option.getD_some, w_cont, Option.toList_some, Option.toList_none, List.cons_append, List.nil_append]
        rw [wr_id (by omega) (by omega)]
        by_cases hc0 : c.2.2.1 = 0
        · rw [if_pos hc0, if_pos ⟨by omega, hc0⟩]
        · rw [if_neg hc0, if_neg (fun g => hc0 g.2)]
      · rw [if_neg ht1, if_neg (fun g => ht1 (by omega))]
    by_cases hend : tkS T len s = 0 ∧ c.2.2.1 = 0
    · have e : rdE T len (f + 1) s c = (-1, s, c) := by simp only [rdE]; rw [if_pos hend]
      rw [e]
      refine ⟨Z2, some (.inl (i : Int)), x2, fun _ => ⟨r2, fun Q => by rw [head, if_pos hend]⟩, fun g => absurd rfl g⟩
    · have hv : tkS T len s = 2 → 0 ≤ vlS T len s ∧ vlS T len s ≤ 9999 := by
        intro h2
        unfold tkS at h2
        by_cases hls : len ≤ s
        · rw [if_pos hls] at h2; omega
        · rw [if_neg hls] at h2
          by_cases hlt : isLt (T s) = true
          · rw [if_pos hlt] at h2
            have hw := wiS_bd (T := T) (s := s) (l := spE isLt T len s - s)
            unfold wcd at h2
            split at h2
            · omega
            · split at h2
              · omega
              · split at h2
                · omega
                · split at h2
                  · omega
                  · split at h2
                    · omega
                    · split at h2
                      · omega
                      · split at h2 <;> omega
          · rw [if_neg hlt] at h2
            by_cases hdg : isDg (T s) = true
            · exact vlS_bd (by omega) hdg
            · rw [if_neg hdg] at h2
              have := hTb s
              split at h2 <;> omega
      by_cases hf : (rdS (tkS T len s) (vlS T len s) c).1 = 0
      · have e : rdE T len (f + 1) s c = rdE T len f (nsS T len s) (rdS (tkS T len s) (vlS T len s) c).2 := by simp only [rdE]; rw [if_neg hend, if_pos hf]
        rw [e] at h9 h0 ⊢
        obtain ⟨Z3, b1, b2, b3⟩ := c_disp (d := d) (n := n) (z := z) H z2 r2 a1 a2 hA hv (B := 50 * (i : Int)) (by omega) hw (by rw [hf]; decide) (some (.inr (some 77))) l2 (some (.inl (len : Int))) (some (.inl (i : Int)))
        have hlts : s < len := by
          rcases Nat.lt_or_ge s len with h | h
          · exact h
          · exfalso
            have ht0 : tkS T len s = 0 := (tkS_0 hTb).2.2.2 h
            rw [ht0] at hf
            exact rdS_end _ _ hf
        have hnx := nxS_bd (T := T) hlts
        have e30 : sm_u Z3 74 0 (rdS (tkS T len s) (vlS T len s) c).1 = sm_u Z3 74 0 0 := by rw [hf]
        obtain ⟨Z4, l4, g1, g2, g3⟩ := ih (i + 1) (nxS T len s) (nsS T len s) (rdS (tkS T len s) (vlS T len s) c).2 (sm_u Z3 74 0 0) (by omega) hnx.2 rfl (by rw [sm_u_eq, if_neg (by decide), b2.2 14 (by omega)]; exact a3) (by rw [sm_u_self]) (zs_fr (zs_frR b2 z2) (fun a ha => sm_u_row (by omega))) (tpC_fr (by rw [sm_u_row (by decide), b2.1 77 (by decide) (by decide) (by decide), a6 77 (by decide)]) t1) (rRd_o (by omega) (b1 hf)) (by
          have := rdS_wf (t := tkS T len s) (v := vlS T len s) (by omega) hw hf
          rw [show 50 * ((i + 1 : Nat) : Int) = 50 * (i : Int) + 50 by omega]
          exact this) h9 h0
        have x4 : frX Z Z4 := fun a q1 q2 q3 => by rw [g1 a q1 q2 q3, sm_u_row q1, b2.1 a q1 q2 q3, x2 a q1 q2 q3]
        have mid : ∀ Q, sm_wp (d + 6) 30 14 [some (.inr (some 74)), some (.inr (some 77)), l2, some (.inl (len : Int)), some (.inl (i : Int))] [] (Z, Rf, K, n, z) Q = sm_wp (d + 6) 30 14 [some (.inr (some 74)), some (.inr (some 77)), l2, some (.inl (len : Int)), some (.inl ((i + 1 : Nat) : Int))] [] (sm_u Z3 74 0 0, Rf, K, n, z) Q := by
          intro Q
          rw [head, if_neg hend, b3, e30, b30_202, show (i : Int) + 1 = ((i + 1 : Nat) : Int) by omega]
        refine ⟨Z4, l4, x4, fun g => ⟨(g2 g).1, fun Q => by rw [mid]; exact (g2 g).2 Q⟩, fun g => ⟨(g3 g).1, (g3 g).2.1, fun Q => by rw [mid]; exact (g3 g).2.2 Q⟩⟩
      · have e : rdE T len (f + 1) s c = ((rdS (tkS T len s) (vlS T len s) c).1, s, (rdS (tkS T len s) (vlS T len s) c).2) := by simp only [rdE]; rw [if_neg hend, if_neg hf]
        rw [e] at h9 h0 ⊢
        have h9' : ¬ (rdS (tkS T len s) (vlS T len s) c).1 = 9 := h9
        obtain ⟨Z3, b1, b2, b3⟩ := c_disp (d := d) (n := n) (z := z) H z2 r2 a1 a2 hA hv (B := 50 * (i : Int)) (by omega) hw h9' (some (.inr (some 77))) l2 (some (.inl (len : Int))) (some (.inl (i : Int)))
        have hfb : (rdS (tkS T len s) (vlS T len s) c).1 = 1 ∨ (rdS (tkS T len s) (vlS T len s) c).1 = 2 ∨ (rdS (tkS T len s) (vlS T len s) c).1 = 3 := by
          have := rdS_v (tkS T len s) (vlS T len s) c
          omega
        generalize hk : (rdS (tkS T len s) (vlS T len s) c).1 = k at *
        refine ⟨sm_u Z3 74 0 k, none, fun a q1 q2 q3 => by rw [sm_u_row q1, b2.1 a q1 q2 q3, x2 a q1 q2 q3], fun g => ?_, fun _ => ⟨by rw [sm_u_self], by rw [sm_u_eq, if_neg (by decide), b2.2 1 (by omega)]; exact y1, fun Q => ?_⟩⟩
        · have g' : k = -1 := g
          omega
        · rw [head, if_neg hend, b3, b30_202, show (i : Int) + 1 = ((i + 1 : Nat) : Int) by omega, b30_14, wr_id (by omega) (by omega), wr_id (by omega) (by omega)]
          by_cases hi : (len : Int) < ((i + 1 : Nat) : Int)
          · rw [if_pos hi, b30_208]
          · rw [if_neg hi, b30_20, kk_74 H, sm_u_self]
            simp only [wr_id, wr_b2i, wr_wr, b2i_eq0, b2i_eq1, b2i_01, sm_rem_eq, sm_div_eq, wl_m2, wl_m1, wl_0, wl_1, wl_2, wl_3, wl_4, wl_5, wl_6, wl_7, wl_8, wl_9, wl_10, wl_12, wl_13, wl_14, wl_16, wl_20, wl_21, wl_22, wl_23, wl_32, wl_36, wl_40, wl_41, wl_42, wl_43, wl_44, wl_45, wl_46, wl_47, wl_48, wl_57, wl_59, wl_60, wl_61, wl_62, wl_65, wl_90, wl_97, wl_99, wl_100, wl_121, wl_122, wl_140, wl_142, wl_143, wl_145, wl_147, wl_160, wl_161, wl_162, wl_242, wl_380, wl_400, wl_420, wl_820, wl_1340, wl_5480, wl_9999, true_and, and_true, true_or, or_true, if_true, if_false, and_self, or_self, false_and, and_false, false_or, or_false, not_true_eq_false, not_false_eq_true, Int.reduceEq, Int.reduceLT, Int.reduceLE, Int.reduceToNat, Int.reduceAdd, Int.reduceMul, Int.reduceSub, Int.reduceMod, Int.reduceDiv, Int.reduceNeg, Nat.reduceEqDiff, sm_rd_ok, sm_rd_ok2, sm_wt_ok, sm_cp_ok, Option.isSome_some, Option.getD_some, w_cont, Option.toList_some, Option.toList_none, List.cons_append, List.nil_append]
            rw [wr_id (by omega) (by omega), if_neg (by omega), b30_208]
end LOOPR
