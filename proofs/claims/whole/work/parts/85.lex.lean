/-! Tokens of a text. -/
def isLt (c : Int) : Bool := decide ((97 ≤ c ∧ c ≤ 122) ∨ (65 ≤ c ∧ c ≤ 90))
def isDg (c : Int) : Bool := decide (48 ≤ c ∧ c ≤ 57)
def isSg (c : Int) : Bool := decide (c = 59 ∨ c = 43 ∨ c = 45 ∨ c = 42 ∨ c = 47 ∨ c = 40 ∨ c = 41 ∨ c = 60 ∨ c = 61 ∨ c = 62)
def isBl (c : Int) : Bool := decide (c = 32 ∨ c = 10)
/-- as far as such signs go -/
def spn (P : Int → Bool) (T : Nat → Int) (len : Nat) : Nat → Nat → Nat
  | 0, p => p
  | f + 1, p => if p < len ∧ P (T p) = true then spn P T len f (p + 1) else p
def spE (P : Int → Bool) (T : Nat → Int) (len p : Nat) : Nat := spn P T len (len - p) p
theorem spE_step {P : Int → Bool} {T : Nat → Int} {len p : Nat} (h : p < len) (hP : P (T p) = true) : spE P T len p = spE P T len (p + 1) := by
  unfold spE
  rw [show len - p = (len - (p + 1)) + 1 by omega]
  simp only [spn]
  rw [if_pos ⟨h, hP⟩]
theorem spE_stop {P : Int → Bool} {T : Nat → Int} {len p : Nat} (h : ¬ (p < len ∧ P (T p) = true)) : spE P T len p = p := by
  unfold spE
  cases hl : len - p with
  | zero => rfl
  | succ f =>
    simp only [spn]
    rw [if_neg h]
theorem spn_bd {P : Int → Bool} {T : Nat → Int} {len : Nat} : ∀ (f p : Nat), p ≤ spn P T len f p ∧ (p ≤ len → spn P T len f p ≤ len) := by
  intro f
  induction f with
  | zero => intro p; exact ⟨Nat.le_refl _, fun h => h⟩
  | succ f ih =>
    intro p
    simp only [spn]
    split
    · rename_i h
      have := ih (p + 1)
      exact ⟨by omega, fun _ => this.2 (by omega)⟩
    · exact ⟨Nat.le_refl _, fun h => h⟩
theorem spE_ge {P : Int → Bool} {T : Nat → Int} {len p : Nat} : p ≤ spE P T len p := (spn_bd _ _).1
theorem spE_le {P : Int → Bool} {T : Nat → Int} {len p : Nat} (h : p ≤ len) : spE P T len p ≤ len := (spn_bd _ _).2 h
def prf (T : Nat → Int) : Nat → List Int → Bool
  | _, [] => true
  | s, c :: w => decide (T s = c) && prf T (s + 1) w
def eqW (T : Nat → Int) (s l : Nat) (w : List Int) : Bool := decide (l = w.length) && prf T s w
def wiR (T : Nat → Int) (s l : Nat) : List (List Int) → Nat → Int
  | [], _ => -1
  | w :: r, i => if eqW T s l w = true then (i : Int) else wiR T s l r (i + 1)
def kwL : List (List Int) := [[97, 104, 101, 97, 100], [108, 101, 102, 116], [114, 105, 103, 104, 116], [98, 97, 99, 107], [115, 116, 111, 112], [102, 108], [102, 114], [112, 108], [112, 114], [116, 104, 114, 101, 97, 100], [114, 105, 109], [115, 116, 101, 112], [114, 101, 115, 116], [115, 119, 97, 108, 108, 111, 119], [119, 104, 101, 110], [111, 114], [97, 110, 100], [110, 111, 116]]
def wiS (T : Nat → Int) (s l : Nat) : Int := wiR T s l kwL 0
theorem prf_uq {T : Nat → Int} : ∀ (w1 w2 : List Int) (s : Nat), w1.length = w2.length → prf T s w1 = true → prf T s w2 = true → w1 = w2 := by
  intro w1
  induction w1 with
  | nil =>
    intro w2 s hl _ _
    cases w2 with
    | nil => rfl
    | cons c w => simp at hl
  | cons c w ih =>
    intro w2 s hl h1 h2
    cases w2 with
    | nil => simp at hl
    | cons c2 w2 =>
      simp only [prf, Bool.and_eq_true, decide_eq_true_eq] at h1 h2
      rw [← h1.1, ← h2.1, ih w2 (s + 1) (by simp at hl; exact hl) h1.2 h2.2]
theorem eqW_uq {T : Nat → Int} {s l : Nat} {w1 w2 : List Int} (h1 : eqW T s l w1 = true) (h2 : eqW T s l w2 = true) : w1 = w2 := by
  simp only [eqW, Bool.and_eq_true, decide_eq_true_eq] at h1 h2
  exact prf_uq w1 w2 s (by rw [← h1.1, ← h2.1]) h1.2 h2.2
theorem wiR_none {T : Nat → Int} {s l : Nat} : ∀ (r : List (List Int)) (i : Nat), (∀ w ∈ r, ¬ eqW T s l w = true) → wiR T s l r i = -1 := by
  intro r
  induction r with
  | nil => intro i _; rfl
  | cons w r ih =>
    intro i h
    simp only [wiR]
    rw [if_neg (h w List.mem_cons_self)]
    exact ih (i + 1) (fun w hw => h w (List.mem_cons_of_mem _ hw))
theorem wiR_at {T : Nat → Int} {s l : Nat} {w0 : List Int} (h0 : eqW T s l w0 = true) : ∀ (r : List (List Int)) (i j : Nat), r[j]? = some w0 → (∀ k, k < j → ¬ r[k]? = some w0) → wiR T s l r i = ((i + j : Nat) : Int) := by
  intro r
  induction r with
  | nil => intro i j hj _; simp at hj
  | cons w r ih =>
    intro i j hj hk
    simp only [wiR]
    cases j with
    | zero =>
      simp only [List.getElem?_cons_zero, Option.some.injEq] at hj
      rw [hj, if_pos h0]
      rfl
    | succ j =>
      have hw : ¬ w = w0 := by
        have := hk 0 (by omega)
        simp only [List.getElem?_cons_zero, Option.some.injEq] at this
        exact this
      rw [if_neg (fun g => hw (eqW_uq g h0))]
      rw [ih (i + 1) j (by simpa using hj) (fun k hk' => by have := hk (k + 1) (by omega); simpa using this)]
      congr 1
      omega
theorem wiS_at {T : Nat → Int} {s l : Nat} (j : Nat) (w0 : List Int) (hj : kwL[j]? = some w0) (hk : ∀ k, k < j → ¬ kwL[k]? = some w0) (h0 : eqW T s l w0 = true) : wiS T s l = (j : Int) := by
  unfold wiS
  rw [wiR_at h0 kwL 0 j hj hk]
  congr 1
  omega
/-- the model's number of a word -/
def wcd (i : Int) : Int := if i = -1 then 1 else if i = 0 then 20 else if i = 1 then 23 else if i = 2 then 21 else if i = 3 then 22 else if i = 4 then 24 else if i ≤ 13 then i + 36 else i - 11
def nmR (T : Nat → Int) (s : Nat) : Nat → Int
  | 0 => 0
  | k + 1 => 10 * nmR T s k + T (s + k) - 48
def tkS (T : Nat → Int) (len s : Nat) : Int := if len ≤ s then 0 else if isLt (T s) = true then wcd (wiS T s (spE isLt T len s - s)) else if isDg (T s) = true then (if spE isDg T len s - s < 5 then 2 else 1) else if isSg (T s) = true then 100 + T s else 1
def nxS (T : Nat → Int) (len s : Nat) : Nat := if len ≤ s then s else if isLt (T s) = true then spE isLt T len s else if isDg (T s) = true then spE isDg T len s else s + 1
def vlS (T : Nat → Int) (len s : Nat) : Int := nmR T s (min (spE isDg T len s - s) 4)
theorem nxS_bd {T : Nat → Int} {len s : Nat} (h : s < len) : s < nxS T len s ∧ nxS T len s ≤ len := by
  unfold nxS
  rw [if_neg (by omega)]
  split
  · rename_i hl
    rw [spE_step h hl]
    have := spE_ge (P := isLt) (T := T) (len := len) (p := s + 1)
    exact ⟨by omega, spE_le (by omega)⟩
  · split
    · rename_i hl
      rw [spE_step h hl]
      have := spE_ge (P := isDg) (T := T) (len := len) (p := s + 1)
      exact ⟨by omega, spE_le (by omega)⟩
    · omega
theorem wiR_bd {T : Nat → Int} {s l : Nat} : ∀ (r : List (List Int)) (i : Nat), -1 ≤ wiR T s l r i ∧ wiR T s l r i < ((i + r.length : Nat) : Int) + (if r = [] then 1 else 0) := by
  intro r
  induction r with
  | nil => intro i; simp [wiR]; omega
  | cons w r ih =>
    intro i
    simp only [wiR]
    have := ih (i + 1)
    split
    · simp
      omega
    · rw [if_neg (by simp)]
      rw [List.length_cons]
      split at this
      · rename_i hr
        rw [hr] at this ⊢
        simp [wiR] at this ⊢
        omega
      · omega
theorem wiS_bd {T : Nat → Int} {s l : Nat} : -1 ≤ wiS T s l ∧ wiS T s l ≤ 17 := by
  have := wiR_bd (T := T) (s := s) (l := l) kwL 0
  rw [if_neg (by simp [kwL])] at this
  have e : kwL.length = 18 := rfl
  unfold wiS
  omega
theorem wcd_pos {i : Int} (h : -1 ≤ i ∧ i ≤ 17) : 1 ≤ wcd i ∧ wcd i ≤ 49 := by
  unfold wcd
  repeat' split
  all_goals omega
theorem tkS_0 {T : Nat → Int} {len s : Nat} (hT : ∀ k, 0 ≤ T k ∧ T k ≤ 255) : 0 ≤ tkS T len s ∧ tkS T len s ≤ 355 ∧ (tkS T len s = 0 ↔ len ≤ s) := by
  unfold tkS
  have hw := wcd_pos (wiS_bd (T := T) (s := s) (l := spE isLt T len s - s))
  have := hT s
  repeat' split
  all_goals omega
theorem vlS_bd {T : Nat → Int} {len s : Nat} (hs : s < len) (hd : isDg (T s) = true) : 0 ≤ vlS T len s ∧ vlS T len s ≤ 9999 := by
  have hdg : ∀ k, s ≤ k → k < spE isDg T len s → 48 ≤ T k ∧ T k ≤ 57 := by
    have gen : ∀ (f p : Nat), f = len - p → ∀ k, p ≤ k → k < spE isDg T len p → 48 ≤ T k ∧ T k ≤ 57 := by
      intro f
      induction f with
      | zero =>
        intro p hf k h1 h2
        rw [spE_stop (by omega)] at h2
        omega
      | succ f ih =>
        intro p hf k h1 h2
        by_cases hp : p < len ∧ isDg (T p) = true
        · rw [spE_step hp.1 hp.2] at h2
          by_cases hk : k = p
          · have := hp.2
            simp only [isDg, decide_eq_true_eq] at this
            rw [hk]
            exact this
          · exact ih (p + 1) (by omega) k (by omega) h2
        · rw [spE_stop hp] at h2
          omega
    exact gen (len - s) s rfl
  have b : ∀ k, k ≤ 4 → k ≤ spE isDg T len s - s → 0 ≤ nmR T s k ∧ nmR T s k < (10 ^ k : Nat) := by
    intro k
    induction k with
    | zero => intro _ _; exact ⟨Int.le_refl _, (by decide : (0 : Int) < ((10 ^ 0 : Nat) : Int))⟩
    | succ k ih =>
      intro h4 h5
      have h1 := ih (by omega) (by omega)
      have h2 := hdg (s + k) (by omega) (by omega)
      simp only [nmR]
      rw [Nat.pow_succ]
      omega
  unfold vlS
  have := b (min (spE isDg T len s - s) 4) (by omega) (by omega)
  have h10 : 10 ^ (min (spE isDg T len s - s) 4) ≤ 10 ^ 4 := Nat.pow_le_pow_right (by decide) (by omega)
  have e4 : (10 : Nat) ^ 4 = 10000 := by decide
  omega
/-- the class's token and the model's -/
def tRel (t v tok val : Int) : Prop := (t = 0 ∧ tok = 1) ∨ (t = 1 ∧ tok = 0) ∨ (t = 2 ∧ tok = 2 ∧ val = v) ∨ ((3 ≤ t ∧ t ≤ 6) ∧ tok = 3 ∧ val = t + 11) ∨ ((20 ≤ t ∧ t ≤ 24) ∧ tok = 3 ∧ val = cW (t - 20)) ∨ ((41 ≤ t ∧ t ≤ 49) ∧ tok = 3 ∧ val = t - 36) ∨ ((140 ≤ t ∧ t ≤ 162) ∧ isSg (t - 100) = true ∧ tok = t - 100)
theorem tRel_word {i : Int} {v : Int} (h : -1 ≤ i ∧ i ≤ 17) : tRel (wcd i) v (if i = -1 then 0 else 3) i := by
  unfold tRel wcd cW
  by_cases h1 : i = -1
  · rw [if_pos h1, if_pos h1]
    right; left; exact ⟨rfl, rfl⟩
  · rw [if_neg h1, if_neg h1]
    by_cases h5 : i ≤ 4
    · right; right; right; right; left
      have : i = 0 ∨ i = 1 ∨ i = 2 ∨ i = 3 ∨ i = 4 := by omega
      rcases this with rfl | rfl | rfl | rfl | rfl <;> decide
    · rw [if_neg (by omega), if_neg (by omega), if_neg (by omega), if_neg (by omega), if_neg (by omega)]
      by_cases h13 : i ≤ 13
      · rw [if_pos h13]
        right; right; right; right; right; left
        exact ⟨by omega, rfl, by omega⟩
      · rw [if_neg h13]
        right; right; right; left
        exact ⟨by omega, rfl, by omega⟩
section LEX
variable {d n z : Nat} {Rf : Nat → Nat → Option Nat} {K : Nat → Nat × Nat} {Z : Nat → Nat → Int} {Q : Option sm_V → sm_S → Prop} {c : Int}
theorem c_isLetter (hc : aI c) : sm_call d 34 [.inl c] (Z, Rf, K, n, z) Q = Q (some (.inl (b2i (isLt c)))) (Z, Rf, K, n, z) := by
  unfold aI at hc
  unfold isLt
  rw [ce34, b34_0, wr_id hc.1 hc.2]
  by_cases h1 : 97 ≤ c ∧ c ≤ 122
  · rw [if_neg (by omega), b34_6, wr_id hc.1 hc.2, if_pos h1.2, b34_24, b34_29, decide_eq_true (Or.inl h1)]
    simp only [wr_id, wr_b2i, wr_wr, b2i_eq0, b2i_eq1, b2i_01, sm_rem_eq, sm_div_eq, wl_m2, wl_m1, wl_0, wl_1, wl_2, wl_3, wl_4, wl_5, wl_6, wl_7, wl_8, wl_9, wl_10, wl_12, wl_13, wl_14, wl_16, wl_20, wl_21, wl_22, wl_23, wl_32, wl_36, wl_40, wl_41, wl_42, wl_43, wl_44, wl_45, wl_46, wl_47, wl_48, wl_57, wl_59, wl_60, wl_61, wl_62, wl_65, wl_90, wl_97, wl_99, wl_100, wl_121, wl_122, wl_140, wl_142, wl_143, wl_145, wl_147, wl_160, wl_161, wl_162, wl_242, wl_380, wl_400, wl_420, wl_820, wl_1340, wl_5480, wl_9999, true_and, and_true, true_or, or_true, if_true, if_false, and_self, or_self, false_and, and_false, false_or, or_false, not_true_eq_false, not_false_eq_true, Int.reduceEq, Int.reduceLT, Int.reduceLE, Int.reduceToNat, Int.reduceAdd, Int.reduceMul, Int.reduceSub, Int.reduceMod, Int.reduceDiv, Int.reduceNeg, Nat.reduceEqDiff, sm_rd_ok, sm_rd_ok2, sm_wt_ok, sm_cp_ok, Option.isSome_some, Option.getD_some, w_cont, Option.toList_some, Option.toList_none, List.cons_append, List.nil_append]
    rfl
  · have e : sm_wp d 34 12 [some (.inl c)] [] (Z, Rf, K, n, z) Q = Q (some (.inl (b2i (decide ((97 ≤ c ∧ c ≤ 122) ∨ (65 ≤ c ∧ c ≤ 90)))))) (Z, Rf, K, n, z) := by
      rw [b34_12, wr_id hc.1 hc.2]
      by_cases h2 : 65 ≤ c ∧ c ≤ 90
      · rw [if_neg (by omega), b34_18, wr_id hc.1 hc.2, if_neg (by omega), b34_24, b34_29, decide_eq_true (Or.inr h2)]
        simp only [wr_id, wr_b2i, wr_wr, b2i_eq0, b2i_eq1, b2i_01, sm_rem_eq, sm_div_eq, wl_m2, wl_m1, wl_0, wl_1, wl_2, wl_3, wl_4, wl_5, wl_6, wl_7, wl_8, wl_9, wl_10, wl_12, wl_13, wl_14, wl_16, wl_20, wl_21, wl_22, wl_23, wl_32, wl_36, wl_40, wl_41, wl_42, wl_43, wl_44, wl_45, wl_46, wl_47, wl_48, wl_57, wl_59, wl_60, wl_61, wl_62, wl_65, wl_90, wl_97, wl_99, wl_100, wl_121, wl_122, wl_140, wl_142, wl_143, wl_145, wl_147, wl_160, wl_161, wl_162, wl_242, wl_380, wl_400, wl_420, wl_820, wl_1340, wl_5480, wl_9999, true_and, and_true, true_or, or_true, if_true, if_false, and_self, or_self, false_and, and_false, false_or, or_false, not_true_eq_false, not_false_eq_true, Int.reduceEq, Int.reduceLT, Int.reduceLE, Int.reduceToNat, Int.reduceAdd, Int.reduceMul, Int.reduceSub, Int.reduceMod, Int.reduceDiv, Int.reduceNeg, Nat.reduceEqDiff, sm_rd_ok, sm_rd_ok2, sm_wt_ok, sm_cp_ok, Option.isSome_some, Option.getD_some, w_cont, Option.toList_some, Option.toList_none, List.cons_append, List.nil_append]
        rfl
      · rw [decide_eq_false (by omega)]
        by_cases h3 : c < 65
        · rw [if_pos h3, b34_28, b34_29]
          simp only [wr_id, wr_b2i, wr_wr, b2i_eq0, b2i_eq1, b2i_01, sm_rem_eq, sm_div_eq, wl_m2, wl_m1, wl_0, wl_1, wl_2, wl_3, wl_4, wl_5, wl_6, wl_7, wl_8, wl_9, wl_10, wl_12, wl_13, wl_14, wl_16, wl_20, wl_21, wl_22, wl_23, wl_32, wl_36, wl_40, wl_41, wl_42, wl_43, wl_44, wl_45, wl_46, wl_47, wl_48, wl_57, wl_59, wl_60, wl_61, wl_62, wl_65, wl_90, wl_97, wl_99, wl_100, wl_121, wl_122, wl_140, wl_142, wl_143, wl_145, wl_147, wl_160, wl_161, wl_162, wl_242, wl_380, wl_400, wl_420, wl_820, wl_1340, wl_5480, wl_9999, true_and, and_true, true_or, or_true, if_true, if_false, and_self, or_self, false_and, and_false, false_or, or_false, not_true_eq_false, not_false_eq_true, Int.reduceEq, Int.reduceLT, Int.reduceLE, Int.reduceToNat, Int.reduceAdd, Int.reduceMul, Int.reduceSub, Int.reduceMod, Int.reduceDiv, Int.reduceNeg, Nat.reduceEqDiff, sm_rd_ok, sm_rd_ok2, sm_wt_ok, sm_cp_ok, Option.isSome_some, Option.getD_some, w_cont, Option.toList_some, Option.toList_none, List.cons_append, List.nil_append]
          rfl
        · rw [if_neg h3, b34_18, wr_id hc.1 hc.2, if_pos (by omega), b34_28, b34_29]
          simp only [wr_id, wr_b2i, wr_wr, b2i_eq0, b2i_eq1, b2i_01, sm_rem_eq, sm_div_eq, wl_m2, wl_m1, wl_0, wl_1, wl_2, wl_3, wl_4, wl_5, wl_6, wl_7, wl_8, wl_9, wl_10, wl_12, wl_13, wl_14, wl_16, wl_20, wl_21, wl_22, wl_23, wl_32, wl_36, wl_40, wl_41, wl_42, wl_43, wl_44, wl_45, wl_46, wl_47, wl_48, wl_57, wl_59, wl_60, wl_61, wl_62, wl_65, wl_90, wl_97, wl_99, wl_100, wl_121, wl_122, wl_140, wl_142, wl_143, wl_145, wl_147, wl_160, wl_161, wl_162, wl_242, wl_380, wl_400, wl_420, wl_820, wl_1340, wl_5480, wl_9999, true_and, and_true, true_or, or_true, if_true, if_false, and_self, or_self, false_and, and_false, false_or, or_false, not_true_eq_false, not_false_eq_true, Int.reduceEq, Int.reduceLT, Int.reduceLE, Int.reduceToNat, Int.reduceAdd, Int.reduceMul, Int.reduceSub, Int.reduceMod, Int.reduceDiv, Int.reduceNeg, Nat.reduceEqDiff, sm_rd_ok, sm_rd_ok2, sm_wt_ok, sm_cp_ok, Option.isSome_some, Option.getD_some, w_cont, Option.toList_some, Option.toList_none, List.cons_append, List.nil_append]
          rfl
    by_cases h3 : c < 97
    · rw [if_pos h3]
      exact e
    · rw [if_neg h3, b34_6, wr_id hc.1 hc.2, if_neg (by omega)]
      exact e
theorem c_isDigit (hc : aI c) : sm_call d 35 [.inl c] (Z, Rf, K, n, z) Q = Q (some (.inl (b2i (isDg c)))) (Z, Rf, K, n, z) := by
  unfold aI at hc
  unfold isDg
  rw [ce35, b35_0, wr_id hc.1 hc.2]
  by_cases h1 : 48 ≤ c ∧ c ≤ 57
  · rw [if_neg (by omega), b35_6, wr_id hc.1 hc.2, if_neg (by omega), b35_12, b35_17, decide_eq_true h1]
    simp only [wr_id, wr_b2i, wr_wr, b2i_eq0, b2i_eq1, b2i_01, sm_rem_eq, sm_div_eq, wl_m2, wl_m1, wl_0, wl_1, wl_2, wl_3, wl_4, wl_5, wl_6, wl_7, wl_8, wl_9, wl_10, wl_12, wl_13, wl_14, wl_16, wl_20, wl_21, wl_22, wl_23, wl_32, wl_36, wl_40, wl_41, wl_42, wl_43, wl_44, wl_45, wl_46, wl_47, wl_48, wl_57, wl_59, wl_60, wl_61, wl_62, wl_65, wl_90, wl_97, wl_99, wl_100, wl_121, wl_122, wl_140, wl_142, wl_143, wl_145, wl_147, wl_160, wl_161, wl_162, wl_242, wl_380, wl_400, wl_420, wl_820, wl_1340, wl_5480, wl_9999, true_and, and_true, true_or, or_true, if_true, if_false, and_self, or_self, false_and, and_false, false_or, or_false, not_true_eq_false, not_false_eq_true, Int.reduceEq, Int.reduceLT, Int.reduceLE, Int.reduceToNat, Int.reduceAdd, Int.reduceMul, Int.reduceSub, Int.reduceMod, Int.reduceDiv, Int.reduceNeg, Nat.reduceEqDiff, sm_rd_ok, sm_rd_ok2, sm_wt_ok, sm_cp_ok, Option.isSome_some, Option.getD_some, w_cont, Option.toList_some, Option.toList_none, List.cons_append, List.nil_append]
    rfl
  · rw [decide_eq_false h1]
    by_cases h3 : c < 48
    · rw [if_pos h3, b35_16, b35_17]
      simp only [wr_id, wr_b2i, wr_wr, b2i_eq0, b2i_eq1, b2i_01, sm_rem_eq, sm_div_eq, wl_m2, wl_m1, wl_0, wl_1, wl_2, wl_3, wl_4, wl_5, wl_6, wl_7, wl_8, wl_9, wl_10, wl_12, wl_13, wl_14, wl_16, wl_20, wl_21, wl_22, wl_23, wl_32, wl_36, wl_40, wl_41, wl_42, wl_43, wl_44, wl_45, wl_46, wl_47, wl_48, wl_57, wl_59, wl_60, wl_61, wl_62, wl_65, wl_90, wl_97, wl_99, wl_100, wl_121, wl_122, wl_140, wl_142, wl_143, wl_145, wl_147, wl_160, wl_161, wl_162, wl_242, wl_380, wl_400, wl_420, wl_820, wl_1340, wl_5480, wl_9999, true_and, and_true, true_or, or_true, if_true, if_false, and_self, or_self, false_and, and_false, false_or, or_false, not_true_eq_false, not_false_eq_true, Int.reduceEq, Int.reduceLT, Int.reduceLE, Int.reduceToNat, Int.reduceAdd, Int.reduceMul, Int.reduceSub, Int.reduceMod, Int.reduceDiv, Int.reduceNeg, Nat.reduceEqDiff, sm_rd_ok, sm_rd_ok2, sm_wt_ok, sm_cp_ok, Option.isSome_some, Option.getD_some, w_cont, Option.toList_some, Option.toList_none, List.cons_append, List.nil_append]
      rfl
    · rw [if_neg h3, b35_6, wr_id hc.1 hc.2, if_pos (by omega), b35_16, b35_17]
      simp only [wr_id, wr_b2i, wr_wr, b2i_eq0, b2i_eq1, b2i_01, sm_rem_eq, sm_div_eq, wl_m2, wl_m1, wl_0, wl_1, wl_2, wl_3, wl_4, wl_5, wl_6, wl_7, wl_8, wl_9, wl_10, wl_12, wl_13, wl_14, wl_16, wl_20, wl_21, wl_22, wl_23, wl_32, wl_36, wl_40, wl_41, wl_42, wl_43, wl_44, wl_45, wl_46, wl_47, wl_48, wl_57, wl_59, wl_60, wl_61, wl_62, wl_65, wl_90, wl_97, wl_99, wl_100, wl_121, wl_122, wl_140, wl_142, wl_143, wl_145, wl_147, wl_160, wl_161, wl_162, wl_242, wl_380, wl_400, wl_420, wl_820, wl_1340, wl_5480, wl_9999, true_and, and_true, true_or, or_true, if_true, if_false, and_self, or_self, false_and, and_false, false_or, or_false, not_true_eq_false, not_false_eq_true, Int.reduceEq, Int.reduceLT, Int.reduceLE, Int.reduceToNat, Int.reduceAdd, Int.reduceMul, Int.reduceSub, Int.reduceMod, Int.reduceDiv, Int.reduceNeg, Nat.reduceEqDiff, sm_rd_ok, sm_rd_ok2, sm_wt_ok, sm_cp_ok, Option.isSome_some, Option.getD_some, w_cont, Option.toList_some, Option.toList_none, List.cons_append, List.nil_append]
      rfl
theorem c_isSign (hc : 0 ≤ c ∧ c ≤ 255) : sm_call d 36 [.inl c] (Z, Rf, K, n, z) Q = Q (some (.inl (b2i (isSg c)))) (Z, Rf, K, n, z) := by
  rw [ce36, b36_0, wr_id (by omega) (by omega)]
  have e : sm_sel c 110 [(40, 108), (41, 108), (42, 108), (43, 108), (44, 110), (45, 108), (46, 110), (47, 108), (48, 110), (49, 110), (50, 110), (51, 110), (52, 110), (53, 110), (54, 110), (55, 110), (56, 110), (57, 110), (58, 110), (59, 108), (60, 108), (61, 108), (62, 108)] = if isSg c = true then 108 else 110 := by
    have : ∀ t : Fin 256, sm_sel ((t : Nat) : Int) 110 [(40, 108), (41, 108), (42, 108), (43, 108), (44, 110), (45, 108), (46, 110), (47, 108), (48, 110), (49, 110), (50, 110), (51, 110), (52, 110), (53, 110), (54, 110), (55, 110), (56, 110), (57, 110), (58, 110), (59, 108), (60, 108), (61, 108), (62, 108)] = if isSg ((t : Nat) : Int) = true then 108 else 110 := by decide +kernel
    have h := this ⟨c.toNat, by omega⟩
    rw [show (((⟨c.toNat, by omega⟩ : Fin 256) : Nat) : Int) = c from (by show ((c.toNat : Nat) : Int) = c; omega)] at h
    exact h
  rw [e]
  by_cases h : isSg c = true
  · rw [if_pos h, b36_108, h]
    simp only [wr_id, wr_b2i, wr_wr, b2i_eq0, b2i_eq1, b2i_01, sm_rem_eq, sm_div_eq, wl_m2, wl_m1, wl_0, wl_1, wl_2, wl_3, wl_4, wl_5, wl_6, wl_7, wl_8, wl_9, wl_10, wl_12, wl_13, wl_14, wl_16, wl_20, wl_21, wl_22, wl_23, wl_32, wl_36, wl_40, wl_41, wl_42, wl_43, wl_44, wl_45, wl_46, wl_47, wl_48, wl_57, wl_59, wl_60, wl_61, wl_62, wl_65, wl_90, wl_97, wl_99, wl_100, wl_121, wl_122, wl_140, wl_142, wl_143, wl_145, wl_147, wl_160, wl_161, wl_162, wl_242, wl_380, wl_400, wl_420, wl_820, wl_1340, wl_5480, wl_9999, true_and, and_true, true_or, or_true, if_true, if_false, and_self, or_self, false_and, and_false, false_or, or_false, not_true_eq_false, not_false_eq_true, Int.reduceEq, Int.reduceLT, Int.reduceLE, Int.reduceToNat, Int.reduceAdd, Int.reduceMul, Int.reduceSub, Int.reduceMod, Int.reduceDiv, Int.reduceNeg, Nat.reduceEqDiff, sm_rd_ok, sm_rd_ok2, sm_wt_ok, sm_cp_ok, Option.isSome_some, Option.getD_some, w_cont, Option.toList_some, Option.toList_none, List.cons_append, List.nil_append]
    rfl
  · rw [if_neg h, b36_110, Bool.eq_false_iff.2 h]
    simp only [wr_id, wr_b2i, wr_wr, b2i_eq0, b2i_eq1, b2i_01, sm_rem_eq, sm_div_eq, wl_m2, wl_m1, wl_0, wl_1, wl_2, wl_3, wl_4, wl_5, wl_6, wl_7, wl_8, wl_9, wl_10, wl_12, wl_13, wl_14, wl_16, wl_20, wl_21, wl_22, wl_23, wl_32, wl_36, wl_40, wl_41, wl_42, wl_43, wl_44, wl_45, wl_46, wl_47, wl_48, wl_57, wl_59, wl_60, wl_61, wl_62, wl_65, wl_90, wl_97, wl_99, wl_100, wl_121, wl_122, wl_140, wl_142, wl_143, wl_145, wl_147, wl_160, wl_161, wl_162, wl_242, wl_380, wl_400, wl_420, wl_820, wl_1340, wl_5480, wl_9999, true_and, and_true, true_or, or_true, if_true, if_false, and_self, or_self, false_and, and_false, false_or, or_false, not_true_eq_false, not_false_eq_true, Int.reduceEq, Int.reduceLT, Int.reduceLE, Int.reduceToNat, Int.reduceAdd, Int.reduceMul, Int.reduceSub, Int.reduceMod, Int.reduceDiv, Int.reduceNeg, Nat.reduceEqDiff, sm_rd_ok, sm_rd_ok2, sm_wt_ok, sm_cp_ok, Option.isSome_some, Option.getD_some, w_cont, Option.toList_some, Option.toList_none, List.cons_append, List.nil_append]
    rfl
theorem c_strlen (H : sm_sh Rf K) {i : Nat} (hi : i < 19) : sm_call (d + 1) 199 [.inr (some (2000000 + i))] (Z, Rf, K, n, z) Q = Q (some (.inl ((tXl.getD i []).length : Int))) (Z, Rf, K, n, z) := by
  obtain ⟨h1, h2, h3⟩ := H.2.2.2.1 i hi
  have hl : (tXl.getD i []).length ≤ 84 := by
    have : ∀ t : Fin 19, (tXl.getD (t : Nat) []).length ≤ 84 := by decide
    exact this ⟨i, hi⟩
  have e : sm_shr (((tXl.getD i []).length : Nat) : Int) 0 = (((tXl.getD i []).length : Nat) : Int) := by
    have := shr_bv (((tXl.getD i []).length : Nat) : Int) 0 (by decide)
    rw [wr_id (by omega) (by omega)] at this
    rw [show ((0 : Nat) : Int) = 0 from rfl] at this
    rw [this]
    simp
  rw [ce199, b199_0]
  simp only [wr_id, wr_b2i, wr_wr, b2i_eq0, b2i_eq1, b2i_01, sm_rem_eq, sm_div_eq, wl_m2, wl_m1, wl_0, wl_1, wl_2, wl_3, wl_4, wl_5, wl_6, wl_7, wl_8, wl_9, wl_10, wl_12, wl_13, wl_14, wl_16, wl_20, wl_21, wl_22, wl_23, wl_32, wl_36, wl_40, wl_41, wl_42, wl_43, wl_44, wl_45, wl_46, wl_47, wl_48, wl_57, wl_59, wl_60, wl_61, wl_62, wl_65, wl_90, wl_97, wl_99, wl_100, wl_121, wl_122, wl_140, wl_142, wl_143, wl_145, wl_147, wl_160, wl_161, wl_162, wl_242, wl_380, wl_400, wl_420, wl_820, wl_1340, wl_5480, wl_9999, true_and, and_true, true_or, or_true, if_true, if_false, and_self, or_self, false_and, and_false, false_or, or_false, not_true_eq_false, not_false_eq_true, Int.reduceEq, Int.reduceLT, Int.reduceLE, Int.reduceToNat, Int.reduceAdd, Int.reduceMul, Int.reduceSub, Int.reduceMod, Int.reduceDiv, Int.reduceNeg, Nat.reduceEqDiff, sm_rd_ok, sm_rd_ok2, sm_wt_ok, sm_cp_ok, Option.isSome_some, Option.getD_some, w_cont, Option.toList_some, Option.toList_none, List.cons_append, List.nil_append, h1, h2, h3]
  rw [ce201, b201_0]
  simp only [wr_id, wr_b2i, wr_wr, b2i_eq0, b2i_eq1, b2i_01, sm_rem_eq, sm_div_eq, wl_m2, wl_m1, wl_0, wl_1, wl_2, wl_3, wl_4, wl_5, wl_6, wl_7, wl_8, wl_9, wl_10, wl_12, wl_13, wl_14, wl_16, wl_20, wl_21, wl_22, wl_23, wl_32, wl_36, wl_40, wl_41, wl_42, wl_43, wl_44, wl_45, wl_46, wl_47, wl_48, wl_57, wl_59, wl_60, wl_61, wl_62, wl_65, wl_90, wl_97, wl_99, wl_100, wl_121, wl_122, wl_140, wl_142, wl_143, wl_145, wl_147, wl_160, wl_161, wl_162, wl_242, wl_380, wl_400, wl_420, wl_820, wl_1340, wl_5480, wl_9999, true_and, and_true, true_or, or_true, if_true, if_false, and_self, or_self, false_and, and_false, false_or, or_false, not_true_eq_false, not_false_eq_true, Int.reduceEq, Int.reduceLT, Int.reduceLE, Int.reduceToNat, Int.reduceAdd, Int.reduceMul, Int.reduceSub, Int.reduceMod, Int.reduceDiv, Int.reduceNeg, Nat.reduceEqDiff, sm_rd_ok, sm_rd_ok2, sm_wt_ok, sm_cp_ok, Option.isSome_some, Option.getD_some, w_cont, Option.toList_some, Option.toList_none, List.cons_append, List.nil_append]
  rw [b201_6, h1, b201_14]
  simp only [wr_id, wr_b2i, wr_wr, b2i_eq0, b2i_eq1, b2i_01, sm_rem_eq, sm_div_eq, wl_m2, wl_m1, wl_0, wl_1, wl_2, wl_3, wl_4, wl_5, wl_6, wl_7, wl_8, wl_9, wl_10, wl_12, wl_13, wl_14, wl_16, wl_20, wl_21, wl_22, wl_23, wl_32, wl_36, wl_40, wl_41, wl_42, wl_43, wl_44, wl_45, wl_46, wl_47, wl_48, wl_57, wl_59, wl_60, wl_61, wl_62, wl_65, wl_90, wl_97, wl_99, wl_100, wl_121, wl_122, wl_140, wl_142, wl_143, wl_145, wl_147, wl_160, wl_161, wl_162, wl_242, wl_380, wl_400, wl_420, wl_820, wl_1340, wl_5480, wl_9999, true_and, and_true, true_or, or_true, if_true, if_false, and_self, or_self, false_and, and_false, false_or, or_false, not_true_eq_false, not_false_eq_true, Int.reduceEq, Int.reduceLT, Int.reduceLE, Int.reduceToNat, Int.reduceAdd, Int.reduceMul, Int.reduceSub, Int.reduceMod, Int.reduceDiv, Int.reduceNeg, Nat.reduceEqDiff, sm_rd_ok, sm_rd_ok2, sm_wt_ok, sm_cp_ok, Option.isSome_some, Option.getD_some, w_cont, Option.toList_some, Option.toList_none, List.cons_append, List.nil_append]
  rw [b199_9, e]
theorem c_charAt (H : sm_sh Rf K) (hz : sm_zs Z) {i k : Nat} (hi : i < 19) (hk : k < (tXl.getD i []).length) : sm_call (d + 3) 200 [.inr (some (2000000 + i)), .inl (k : Int)] (Z, Rf, K, n, z) Q = Q (some (.inl ((tXl.getD i []).getD k 0))) (Z, Rf, K, n, z) := by
  obtain ⟨h1, h2, h3⟩ := H.2.2.2.1 i hi
  have hl : (tXl.getD i []).length ≤ 84 := by
    have : ∀ t : Fin 19, (tXl.getD (t : Nat) []).length ≤ 84 := by decide
    exact this ⟨i, hi⟩
  have hzk := hz.2 i k hi (by omega)
  have hb : 0 ≤ (tXl.getD i []).getD k 0 ∧ (tXl.getD i []).getD k 0 < 128 := by
    have : ∀ t : Fin 19, ∀ u : Fin 90, 0 ≤ (tXl.getD (t : Nat) []).getD (u : Nat) 0 ∧ (tXl.getD (t : Nat) []).getD (u : Nat) 0 < 128 := by decide +kernel
    exact this ⟨i, hi⟩ ⟨k, by omega⟩
  have e : sm_i2c (sm_and ((tXl.getD i []).getD k 0) 255) = (tXl.getD i []).getD k 0 := by
    have : ∀ t : Fin 128, sm_i2c (sm_and ((t : Nat) : Int) 255) = ((t : Nat) : Int) := by decide +kernel
    have h := this ⟨((tXl.getD i []).getD k 0).toNat, by omega⟩
    rw [show (((⟨((tXl.getD i []).getD k 0).toNat, by omega⟩ : Fin 128) : Nat) : Int) = (tXl.getD i []).getD k 0 from (by show ((((tXl.getD i []).getD k 0).toNat : Nat) : Int) = _; omega)] at h
    exact h
  rw [ce200, b200_0, h1]
  simp only [wr_id, wr_b2i, wr_wr, b2i_eq0, b2i_eq1, b2i_01, sm_rem_eq, sm_div_eq, wl_m2, wl_m1, wl_0, wl_1, wl_2, wl_3, wl_4, wl_5, wl_6, wl_7, wl_8, wl_9, wl_10, wl_12, wl_13, wl_14, wl_16, wl_20, wl_21, wl_22, wl_23, wl_32, wl_36, wl_40, wl_41, wl_42, wl_43, wl_44, wl_45, wl_46, wl_47, wl_48, wl_57, wl_59, wl_60, wl_61, wl_62, wl_65, wl_90, wl_97, wl_99, wl_100, wl_121, wl_122, wl_140, wl_142, wl_143, wl_145, wl_147, wl_160, wl_161, wl_162, wl_242, wl_380, wl_400, wl_420, wl_820, wl_1340, wl_5480, wl_9999, true_and, and_true, true_or, or_true, if_true, if_false, and_self, or_self, false_and, and_false, false_or, or_false, not_true_eq_false, not_false_eq_true, Int.reduceEq, Int.reduceLT, Int.reduceLE, Int.reduceToNat, Int.reduceAdd, Int.reduceMul, Int.reduceSub, Int.reduceMod, Int.reduceDiv, Int.reduceNeg, Nat.reduceEqDiff, sm_rd_ok, sm_rd_ok2, sm_wt_ok, sm_cp_ok, Option.isSome_some, Option.getD_some, w_cont, Option.toList_some, Option.toList_none, List.cons_append, List.nil_append]
  rw [ce202, b202_0]
  simp only [wr_id, wr_b2i, wr_wr, b2i_eq0, b2i_eq1, b2i_01, sm_rem_eq, sm_div_eq, wl_m2, wl_m1, wl_0, wl_1, wl_2, wl_3, wl_4, wl_5, wl_6, wl_7, wl_8, wl_9, wl_10, wl_12, wl_13, wl_14, wl_16, wl_20, wl_21, wl_22, wl_23, wl_32, wl_36, wl_40, wl_41, wl_42, wl_43, wl_44, wl_45, wl_46, wl_47, wl_48, wl_57, wl_59, wl_60, wl_61, wl_62, wl_65, wl_90, wl_97, wl_99, wl_100, wl_121, wl_122, wl_140, wl_142, wl_143, wl_145, wl_147, wl_160, wl_161, wl_162, wl_242, wl_380, wl_400, wl_420, wl_820, wl_1340, wl_5480, wl_9999, true_and, and_true, true_or, or_true, if_true, if_false, and_self, or_self, false_and, and_false, false_or, or_false, not_true_eq_false, not_false_eq_true, Int.reduceEq, Int.reduceLT, Int.reduceLE, Int.reduceToNat, Int.reduceAdd, Int.reduceMul, Int.reduceSub, Int.reduceMod, Int.reduceDiv, Int.reduceNeg, Nat.reduceEqDiff, sm_rd_ok, sm_rd_ok2, sm_wt_ok, sm_cp_ok, Option.isSome_some, Option.getD_some, w_cont, Option.toList_some, Option.toList_none, List.cons_append, List.nil_append]
  rw [b202_6, h1]
  simp only [wr_id, wr_b2i, wr_wr, b2i_eq0, b2i_eq1, b2i_01, sm_rem_eq, sm_div_eq, wl_m2, wl_m1, wl_0, wl_1, wl_2, wl_3, wl_4, wl_5, wl_6, wl_7, wl_8, wl_9, wl_10, wl_12, wl_13, wl_14, wl_16, wl_20, wl_21, wl_22, wl_23, wl_32, wl_36, wl_40, wl_41, wl_42, wl_43, wl_44, wl_45, wl_46, wl_47, wl_48, wl_57, wl_59, wl_60, wl_61, wl_62, wl_65, wl_90, wl_97, wl_99, wl_100, wl_121, wl_122, wl_140, wl_142, wl_143, wl_145, wl_147, wl_160, wl_161, wl_162, wl_242, wl_380, wl_400, wl_420, wl_820, wl_1340, wl_5480, wl_9999, true_and, and_true, true_or, or_true, if_true, if_false, and_self, or_self, false_and, and_false, false_or, or_false, not_true_eq_false, not_false_eq_true, Int.reduceEq, Int.reduceLT, Int.reduceLE, Int.reduceToNat, Int.reduceAdd, Int.reduceMul, Int.reduceSub, Int.reduceMod, Int.reduceDiv, Int.reduceNeg, Nat.reduceEqDiff, sm_rd_ok, sm_rd_ok2, sm_wt_ok, sm_cp_ok, Option.isSome_some, Option.getD_some, w_cont, Option.toList_some, Option.toList_none, List.cons_append, List.nil_append]
  rw [b202_13, b202_18]
  simp only [wr_id, wr_b2i, wr_wr, b2i_eq0, b2i_eq1, b2i_01, sm_rem_eq, sm_div_eq, wl_m2, wl_m1, wl_0, wl_1, wl_2, wl_3, wl_4, wl_5, wl_6, wl_7, wl_8, wl_9, wl_10, wl_12, wl_13, wl_14, wl_16, wl_20, wl_21, wl_22, wl_23, wl_32, wl_36, wl_40, wl_41, wl_42, wl_43, wl_44, wl_45, wl_46, wl_47, wl_48, wl_57, wl_59, wl_60, wl_61, wl_62, wl_65, wl_90, wl_97, wl_99, wl_100, wl_121, wl_122, wl_140, wl_142, wl_143, wl_145, wl_147, wl_160, wl_161, wl_162, wl_242, wl_380, wl_400, wl_420, wl_820, wl_1340, wl_5480, wl_9999, true_and, and_true, true_or, or_true, if_true, if_false, and_self, or_self, false_and, and_false, false_or, or_false, not_true_eq_false, not_false_eq_true, Int.reduceEq, Int.reduceLT, Int.reduceLE, Int.reduceToNat, Int.reduceAdd, Int.reduceMul, Int.reduceSub, Int.reduceMod, Int.reduceDiv, Int.reduceNeg, Nat.reduceEqDiff, sm_rd_ok, sm_rd_ok2, sm_wt_ok, sm_cp_ok, Option.isSome_some, Option.getD_some, w_cont, Option.toList_some, Option.toList_none, List.cons_append, List.nil_append]
  rw [b200_4]
  simp only [wr_id, wr_b2i, wr_wr, b2i_eq0, b2i_eq1, b2i_01, sm_rem_eq, sm_div_eq, wl_m2, wl_m1, wl_0, wl_1, wl_2, wl_3, wl_4, wl_5, wl_6, wl_7, wl_8, wl_9, wl_10, wl_12, wl_13, wl_14, wl_16, wl_20, wl_21, wl_22, wl_23, wl_32, wl_36, wl_40, wl_41, wl_42, wl_43, wl_44, wl_45, wl_46, wl_47, wl_48, wl_57, wl_59, wl_60, wl_61, wl_62, wl_65, wl_90, wl_97, wl_99, wl_100, wl_121, wl_122, wl_140, wl_142, wl_143, wl_145, wl_147, wl_160, wl_161, wl_162, wl_242, wl_380, wl_400, wl_420, wl_820, wl_1340, wl_5480, wl_9999, true_and, and_true, true_or, or_true, if_true, if_false, and_self, or_self, false_and, and_false, false_or, or_false, not_true_eq_false, not_false_eq_true, Int.reduceEq, Int.reduceLT, Int.reduceLE, Int.reduceToNat, Int.reduceAdd, Int.reduceMul, Int.reduceSub, Int.reduceMod, Int.reduceDiv, Int.reduceNeg, Nat.reduceEqDiff, sm_rd_ok, sm_rd_ok2, sm_wt_ok, sm_cp_ok, Option.isSome_some, Option.getD_some, w_cont, Option.toList_some, Option.toList_none, List.cons_append, List.nil_append]
  rw [b200_7, h1, h2]
  simp only [wr_id, wr_b2i, wr_wr, b2i_eq0, b2i_eq1, b2i_01, sm_rem_eq, sm_div_eq, wl_m2, wl_m1, wl_0, wl_1, wl_2, wl_3, wl_4, wl_5, wl_6, wl_7, wl_8, wl_9, wl_10, wl_12, wl_13, wl_14, wl_16, wl_20, wl_21, wl_22, wl_23, wl_32, wl_36, wl_40, wl_41, wl_42, wl_43, wl_44, wl_45, wl_46, wl_47, wl_48, wl_57, wl_59, wl_60, wl_61, wl_62, wl_65, wl_90, wl_97, wl_99, wl_100, wl_121, wl_122, wl_140, wl_142, wl_143, wl_145, wl_147, wl_160, wl_161, wl_162, wl_242, wl_380, wl_400, wl_420, wl_820, wl_1340, wl_5480, wl_9999, true_and, and_true, true_or, or_true, if_true, if_false, and_self, or_self, false_and, and_false, false_or, or_false, not_true_eq_false, not_false_eq_true, Int.reduceEq, Int.reduceLT, Int.reduceLE, Int.reduceToNat, Int.reduceAdd, Int.reduceMul, Int.reduceSub, Int.reduceMod, Int.reduceDiv, Int.reduceNeg, Nat.reduceEqDiff, sm_rd_ok, sm_rd_ok2, sm_wt_ok, sm_cp_ok, Option.isSome_some, Option.getD_some, w_cont, Option.toList_some, Option.toList_none, List.cons_append, List.nil_append]
  rw [ce204, b204_0, h3]
  simp only [wr_id, wr_b2i, wr_wr, b2i_eq0, b2i_eq1, b2i_01, sm_rem_eq, sm_div_eq, wl_m2, wl_m1, wl_0, wl_1, wl_2, wl_3, wl_4, wl_5, wl_6, wl_7, wl_8, wl_9, wl_10, wl_12, wl_13, wl_14, wl_16, wl_20, wl_21, wl_22, wl_23, wl_32, wl_36, wl_40, wl_41, wl_42, wl_43, wl_44, wl_45, wl_46, wl_47, wl_48, wl_57, wl_59, wl_60, wl_61, wl_62, wl_65, wl_90, wl_97, wl_99, wl_100, wl_121, wl_122, wl_140, wl_142, wl_143, wl_145, wl_147, wl_160, wl_161, wl_162, wl_242, wl_380, wl_400, wl_420, wl_820, wl_1340, wl_5480, wl_9999, true_and, and_true, true_or, or_true, if_true, if_false, and_self, or_self, false_and, and_false, false_or, or_false, not_true_eq_false, not_false_eq_true, Int.reduceEq, Int.reduceLT, Int.reduceLE, Int.reduceToNat, Int.reduceAdd, Int.reduceMul, Int.reduceSub, Int.reduceMod, Int.reduceDiv, Int.reduceNeg, Nat.reduceEqDiff, sm_rd_ok, sm_rd_ok2, sm_wt_ok, sm_cp_ok, Option.isSome_some, Option.getD_some, w_cont, Option.toList_some, Option.toList_none, List.cons_append, List.nil_append]
  rw [ce203, b203_0, ce207, b207_0, wr_id (by omega) (by omega), if_neg (by omega), b207_4, wr_id (by omega) (by omega), wr_id (by omega) (by omega), if_pos (by omega), b207_16, w_cont]
  simp only [wr_id, wr_b2i, wr_wr, b2i_eq0, b2i_eq1, b2i_01, sm_rem_eq, sm_div_eq, wl_m2, wl_m1, wl_0, wl_1, wl_2, wl_3, wl_4, wl_5, wl_6, wl_7, wl_8, wl_9, wl_10, wl_12, wl_13, wl_14, wl_16, wl_20, wl_21, wl_22, wl_23, wl_32, wl_36, wl_40, wl_41, wl_42, wl_43, wl_44, wl_45, wl_46, wl_47, wl_48, wl_57, wl_59, wl_60, wl_61, wl_62, wl_65, wl_90, wl_97, wl_99, wl_100, wl_121, wl_122, wl_140, wl_142, wl_143, wl_145, wl_147, wl_160, wl_161, wl_162, wl_242, wl_380, wl_400, wl_420, wl_820, wl_1340, wl_5480, wl_9999, true_and, and_true, true_or, or_true, if_true, if_false, and_self, or_self, false_and, and_false, false_or, or_false, not_true_eq_false, not_false_eq_true, Int.reduceEq, Int.reduceLT, Int.reduceLE, Int.reduceToNat, Int.reduceAdd, Int.reduceMul, Int.reduceSub, Int.reduceMod, Int.reduceDiv, Int.reduceNeg, Nat.reduceEqDiff, sm_rd_ok, sm_rd_ok2, sm_wt_ok, sm_cp_ok, Option.isSome_some, Option.getD_some, w_cont, Option.toList_some, Option.toList_none, List.cons_append, List.nil_append]
  rw [b203_8, w_cont]
  simp only [wr_id, wr_b2i, wr_wr, b2i_eq0, b2i_eq1, b2i_01, sm_rem_eq, sm_div_eq, wl_m2, wl_m1, wl_0, wl_1, wl_2, wl_3, wl_4, wl_5, wl_6, wl_7, wl_8, wl_9, wl_10, wl_12, wl_13, wl_14, wl_16, wl_20, wl_21, wl_22, wl_23, wl_32, wl_36, wl_40, wl_41, wl_42, wl_43, wl_44, wl_45, wl_46, wl_47, wl_48, wl_57, wl_59, wl_60, wl_61, wl_62, wl_65, wl_90, wl_97, wl_99, wl_100, wl_121, wl_122, wl_140, wl_142, wl_143, wl_145, wl_147, wl_160, wl_161, wl_162, wl_242, wl_380, wl_400, wl_420, wl_820, wl_1340, wl_5480, wl_9999, true_and, and_true, true_or, or_true, if_true, if_false, and_self, or_self, false_and, and_false, false_or, or_false, not_true_eq_false, not_false_eq_true, Int.reduceEq, Int.reduceLT, Int.reduceLE, Int.reduceToNat, Int.reduceAdd, Int.reduceMul, Int.reduceSub, Int.reduceMod, Int.reduceDiv, Int.reduceNeg, Nat.reduceEqDiff, sm_rd_ok, sm_rd_ok2, sm_wt_ok, sm_cp_ok, Option.isSome_some, Option.getD_some, w_cont, Option.toList_some, Option.toList_none, List.cons_append, List.nil_append]
  rw [b204_6, h3, wr_id (by omega) (by omega), Int.toNat_natCast, hzk, e, wr_id (by omega) (by omega)]
  simp only [eq_true (show (0 : Int) ≤ (k : Int) by omega), eq_true (show (k : Int) < (((tXl.getD i []).length : Nat) : Int) by omega), eq_true hb.1, eq_true (show (tXl.getD i []).getD k 0 < 65536 by omega), true_and]
  rw [w_cont]
  simp only [wr_id, wr_b2i, wr_wr, b2i_eq0, b2i_eq1, b2i_01, sm_rem_eq, sm_div_eq, wl_m2, wl_m1, wl_0, wl_1, wl_2, wl_3, wl_4, wl_5, wl_6, wl_7, wl_8, wl_9, wl_10, wl_12, wl_13, wl_14, wl_16, wl_20, wl_21, wl_22, wl_23, wl_32, wl_36, wl_40, wl_41, wl_42, wl_43, wl_44, wl_45, wl_46, wl_47, wl_48, wl_57, wl_59, wl_60, wl_61, wl_62, wl_65, wl_90, wl_97, wl_99, wl_100, wl_121, wl_122, wl_140, wl_142, wl_143, wl_145, wl_147, wl_160, wl_161, wl_162, wl_242, wl_380, wl_400, wl_420, wl_820, wl_1340, wl_5480, wl_9999, true_and, and_true, true_or, or_true, if_true, if_false, and_self, or_self, false_and, and_false, false_or, or_false, not_true_eq_false, not_false_eq_true, Int.reduceEq, Int.reduceLT, Int.reduceLE, Int.reduceToNat, Int.reduceAdd, Int.reduceMul, Int.reduceSub, Int.reduceMod, Int.reduceDiv, Int.reduceNeg, Nat.reduceEqDiff, sm_rd_ok, sm_rd_ok2, sm_wt_ok, sm_cp_ok, Option.isSome_some, Option.getD_some, w_cont, Option.toList_some, Option.toList_none, List.cons_append, List.nil_append]
  rw [b200_15, wr_id (by omega) (by omega)]
  simp only [eq_true hb.1, eq_true (show (tXl.getD i []).getD k 0 < 65536 by omega), true_and]
end LEX
