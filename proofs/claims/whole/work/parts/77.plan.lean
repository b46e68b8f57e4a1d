/-- a pond in thought -/
def pdS (M : Nat → Int) (c v : Int) : Nat → Int := if c = -1 then M else mU M (120 + c.toNat) v
theorem pdS_k {M : Nat → Int} {c v : Int} {k : Nat} : pdS M c v k = if ¬ c = -1 ∧ k = 120 + c.toNat then v else M k := by
  unfold pdS
  by_cases h : c = -1
  · rw [if_pos h, if_neg (fun g => g.1 h)]
  · rw [if_neg h]
    unfold mU
    by_cases hk : k = 120 + c.toNat
    · rw [if_pos hk, if_pos ⟨h, hk⟩]
    · rw [if_neg hk, if_neg (fun g => hk g.2)]
theorem pdS_o {M : Nat → Int} {c v : Int} {k : Nat} (hc : c < 100) (hk : k < 120 ∨ 220 ≤ k) : pdS M c v k = M k := by
  rw [pdS_k, if_neg (by omega)]
theorem pdS_undo {M : Nat → Int} {one other : Int} (h1 : one = -1 ∨ M (120 + one.toNat) = 0) (h2 : other = -1 ∨ M (120 + other.toNat) = 0) : pdS (pdS (pdS (pdS M one 1) other 1) one 0) other 0 = M := by
  funext k
  rw [pdS_k, pdS_k, pdS_k, pdS_k]
  by_cases A : ¬ other = -1 ∧ k = 120 + other.toNat
  · rw [if_pos A]
    rcases h2 with h | h
    · exact absurd h A.1
    · rw [A.2, h]
  · rw [if_neg A]
    by_cases B : ¬ one = -1 ∧ k = 120 + one.toNat
    · rw [if_pos B]
      rcases h1 with h | h
      · exact absurd h B.1
      · rw [B.2, h]
    · rw [if_neg B, if_neg A, if_neg B]
def prS (M : Nat → Int) (c : Int) : Int := if c = -1 then 0 else M (420 + c.toNat)
def mnS (a b : Int) : Int := (if a = -1 then 0 else 1) + (if b = -1 then 0 else 1)
/-- names of counties with two ponds more -/
def nmP (M : Nat → Int) (one other : Int) : Nat → Int := (nmS (allS true (pdS (pdS M one 1) other 1))).1
abbrev pnT : Type := Int × Int × Int × Int
def tp1 (M : Nat → Int) (a b one other : Int) (t : pnT) : pnT := if ¬ t.1 = -1 ∧ t.1 ≤ prS M one + prS M other then t else if nmP M one other a.toNat = nmP M one other b.toNat then (prS M one + prS M other, mnS one other, one, other) else t
def frL (M : Nat → Int) : Nat → Nat → List Nat
  | 0, _ => []
  | k + 1, i => if isC (M 0) (M 1) (i : Int) = true ∧ M (120 + i) = 0 then i :: frL M k (i + 1) else frL M k (i + 1)
def sgR (M : Nat → Int) (a b : Int) : List Nat → pnT → pnT
  | [], t => t
  | c :: l, t => sgR M a b l (tp1 M a b (c : Int) (-1) t)
def ipR (M : Nat → Int) (a b : Int) (c : Nat) : List Nat → pnT → pnT
  | [], t => t
  | e :: l, t => ipR M a b c l (tp1 M a b (c : Int) (e : Int) t)
def prR (M : Nat → Int) (a b : Int) : List Nat → pnT → pnT
  | [], t => t
  | c :: l, t => prR M a b l (ipR M a b c l t)
def frC1 (M : Nat → Int) (c : Nat) : Prop := isC (M 0) (M 1) (c : Int) = true ∧ M (120 + c) = 0
theorem frL_mem {M : Nat → Int} : ∀ (k i : Nat), ∀ c ∈ frL M k i, frC1 M c := by
  intro k
  induction k with
  | zero => intro i c hc; simp [frL] at hc
  | succ k ih =>
    intro i c hc
    simp only [frL] at hc
    split at hc
    · rename_i h
      rcases List.mem_cons.1 hc with rfl | h2
      · exact h
      · exact ih (i + 1) c h2
    · exact ih (i + 1) c hc
theorem frL_len {M : Nat → Int} : ∀ (k i : Nat), ((frL M k i).length : Int) ≤ cntR (fun c => isC (M 0) (M 1) (c : Int)) i k := by
  intro k
  induction k with
  | zero => intro i; simp [frL, cntR]
  | succ k ih =>
    intro i
    have := ih (i + 1)
    simp only [frL, cntR]
    by_cases h : isC (M 0) (M 1) (i : Int) = true
    · rw [if_pos h]
      split
      · rw [List.length_cons]
        omega
      · omega
    · rw [if_neg h, if_neg (fun g => h g.1)]
      omega
theorem land_le0 : ∀ w h : Fin 11, w.val * h.val ≤ 36 → cntR (fun c => isC ((w.val : Nat) : Int) ((h.val : Nat) : Int) (c : Int)) 0 100 ≤ 36 := by decide +kernel
theorem land_le {w h : Int} (hw : 2 ≤ w ∧ w ≤ 10) (hh : 2 ≤ h ∧ h ≤ 10) (hp : w * h ≤ 36) : cntR (fun c => isC w h (c : Int)) 0 100 ≤ 36 := by
  have e1 : w = ((w.toNat : Nat) : Int) := by omega
  have e2 : h = ((h.toNat : Nat) : Int) := by omega
  have := land_le0 ⟨w.toNat, by omega⟩ ⟨h.toNat, by omega⟩ (by
    show w.toNat * h.toNat ≤ 36
    rw [e1, e2, ← Int.natCast_mul] at hp
    omega)
  rw [e1, e2]
  exact this
/-- cells that stand in a row from a place on -/
def lsA (f : Nat → Int) : Nat → List Nat → Prop
  | _, [] => True
  | i, c :: l => f i = (c : Int) ∧ lsA f (i + 1) l
theorem lsA_cg {f g : Nat → Int} : ∀ (l : List Nat) (i : Nat), (∀ j, i ≤ j → g j = f j) → lsA f i l → lsA g i l := by
  intro l
  induction l with
  | nil => intro i _ _; trivial
  | cons c l ih =>
    intro i h hl
    exact ⟨by rw [h i (by omega)]; exact hl.1, ih (i + 1) (fun j hj => h j (by omega)) hl.2⟩
theorem tp1_bd {M : Nat → Int} {a b one other : Int} {t : pnT} (hp : 0 ≤ prS M one + prS M other ∧ prS M one + prS M other ≤ 198) (ht : t.1 = -1 ∨ (0 ≤ t.1 ∧ t.1 ≤ 198)) : (tp1 M a b one other t).1 = -1 ∨ (0 ≤ (tp1 M a b one other t).1 ∧ (tp1 M a b one other t).1 ≤ 198) := by
  unfold tp1
  split
  · exact ht
  · split
    · right; exact hp
    · exact ht
theorem prS_bd {M : Nat → Int} (hi : invD M) {c : Int} (hc : c < 100) : 0 ≤ prS M c ∧ prS M c ≤ 99 := by
  unfold prS
  split
  · omega
  · exact hi.2.2.2.2.2.1 c.toNat (by omega)
/-- the best as the class has it -/
def rPn (Z : Nat → Nat → Int) (t : pnT) : Prop := Z 63 7 = (if t.1 = -1 then 0 else 1) ∧ (¬ t.1 = -1 → Z 63 3 = t.1 ∧ Z 63 4 = t.2.1 ∧ Z 63 5 = t.2.2.1 ∧ Z 63 6 = t.2.2.2) ∧ (t.1 = -1 ∨ (0 ≤ t.1 ∧ t.1 ≤ 198))
theorem rPn_63 {Z Z' : Nat → Nat → Int} {t : pnT} (h : Z' 63 = Z 63) (hr : rPn Z t) : rPn Z' t := by
  unfold rPn at hr ⊢
  rw [h]
  exact hr
section PLAN
variable {d n z : Nat} {Rf : Nat → Nat → Option Nat} {K : Nat → Nat × Nat} {Z : Nat → Nat → Int} {Q : Option sm_V → sm_S → Prop}
/-- what stays all through a plan -/
def pnS (Z : Nat → Nat → Int) (Rf : Nat → Nat → Option Nat) (K : Nat → Nat × Nat) (M : Nat → Int) : Prop := sm_zs Z ∧ stI Z ∧ rD Z Rf K M 1 ∧ rSi Z M
theorem pnS_fr {Z Z' : Nat → Nat → Int} {M : Nat → Int} (h : pnS Z Rf K M) (hf : frT Z Z') (hs : rSi Z' M) : pnS Z' Rf K M := ⟨zs_frT hf h.1, stI_frT hf h.2.1, rD_frT hf h.2.2.1, hs⟩
def frN (M : Nat → Int) (c : Int) : Prop := c = -1 ∨ (isC (M 0) (M 1) c = true ∧ M (120 + c.toNat) = 0)
theorem frN_bd {M : Nat → Int} {c : Int} (h : frN M c) : -1 ≤ c ∧ c < 100 := by
  rcases h with h | h
  · omega
  · have := isC_bd h.1
    omega
theorem c_putP (H : sm_sh Rf K) (hz : sm_zs Z) {M : Nat → Int} (hs : szN M) (hw : Z 1 0 = M 0 ∧ Z 1 1 = M 1) (hsi : rSi Z M) {c v m : Int} (hc : c = -1 ∨ isC (M 0) (M 1) c = true) (hm : ¬ c = -1 → v - M (120 + c.toNat) = m) : ∃ Z', (∀ a, a ≠ 53 → a ≠ 54 → Z' a = Z a) ∧ rSi Z' (pdS M c v) ∧ ∀ Q, sm_call (d + 1) 58 [.inr (some 52), .inr (some 1), .inl c, .inl m] (Z, Rf, K, n, z) Q = Q none (Z', Rf, K, n, z) := by
  by_cases h1 : c = -1
  · refine ⟨Z, fun _ _ _ => rfl, ?_, fun Q => ?_⟩
    · unfold pdS
      rw [if_pos h1]
      exact hsi
    · refine c_putNone H ?_ ?_ ?_
      · unfold szC
        rw [hw.1, hw.2]
        exact hs
      · unfold aI
        omega
      · rw [h1]
        unfold isC
        rw [decide_eq_false_iff_not]
        omega
  · have hc1 : isC (M 0) (M 1) c = true := hc.resolve_left h1
    have hb := isC_bd hc1
    have hc2 := hc1
    simp only [isC, decide_eq_true_eq] at hc2
    obtain ⟨Z1, f1, g1, g2, q1⟩ := c_putPonds (d := d) (n := n) (z := z) (m := m) H hz hs hw hc1
    refine ⟨Z1, f1, ?_, q1⟩
    have e : (120 + 10 * (c / 10) + c % 10).toNat = 120 + c.toNat := by omega
    have hp : 0 ≤ c % 10 ∧ c % 10 < M 0 ∧ 0 ≤ c / 10 ∧ c / 10 < M 1 := by omega
    have := rSi_upd (v := v) hs hp hsi (m := m) (by
      unfold pondS
      rw [if_pos hp, e]
      exact hm h1) g1 g2
    unfold pdS
    rw [if_neg h1, ← e]
    exact this
theorem c_priceOf (H : sm_sh Rf K) {M : Nat → Int} (hs : szN M) (hw : Z 1 0 = M 0 ∧ Z 1 1 = M 1) (h3 : ∀ c, c < 100 → Z 3 c = M (420 + c)) {c : Int} (hc : frN M c) : sm_call (d + 1) 69 [.inr (some 1), .inl c] (Z, Rf, K, n, z) Q = Q (some (.inl (prS M c))) (Z, Rf, K, n, z) := by
  have hs' := hs
  unfold szN at hs'
  have hb := frN_bd hc
  unfold prS
  rw [ce69, b69_0, kk_1 H]
  simp only [wr_id, wr_b2i, wr_wr, b2i_eq0, b2i_eq1, b2i_01, sm_rem_eq, sm_div_eq, wl_m2, wl_m1, wl_0, wl_1, wl_2, wl_3, wl_4, wl_5, wl_6, wl_7, wl_8, wl_9, wl_10, wl_12, wl_13, wl_14, wl_16, wl_20, wl_21, wl_22, wl_23, wl_32, wl_36, wl_40, wl_41, wl_42, wl_43, wl_44, wl_45, wl_46, wl_47, wl_48, wl_57, wl_59, wl_60, wl_61, wl_62, wl_65, wl_90, wl_97, wl_99, wl_100, wl_121, wl_122, wl_140, wl_142, wl_143, wl_145, wl_147, wl_160, wl_161, wl_162, wl_242, wl_380, wl_400, wl_420, wl_820, wl_1340, wl_5480, wl_9999, true_and, and_true, true_or, or_true, if_true, if_false, and_self, or_self, false_and, and_false, false_or, or_false, not_true_eq_false, not_false_eq_true, Int.reduceEq, Int.reduceLT, Int.reduceLE, Int.reduceToNat, Int.reduceAdd, Int.reduceMul, Int.reduceSub, Int.reduceMod, Int.reduceDiv, Int.reduceNeg, Nat.reduceEqDiff, sm_rd_ok, sm_rd_ok2, sm_wt_ok, sm_cp_ok, Option.isSome_some, Option.getD_some, w_cont, Option.toList_some, Option.toList_none, List.cons_append, List.nil_append]
  rw [c_hasCell (by rw [kk_1 H]) (by rw [hw.1]; exact hs'.1) (by rw [hw.2]; exact hs'.2) (by omega), w_cont, hw.1, hw.2]
  simp only [wr_id, wr_b2i, wr_wr, b2i_eq0, b2i_eq1, b2i_01, sm_rem_eq, sm_div_eq, wl_m2, wl_m1, wl_0, wl_1, wl_2, wl_3, wl_4, wl_5, wl_6, wl_7, wl_8, wl_9, wl_10, wl_12, wl_13, wl_14, wl_16, wl_20, wl_21, wl_22, wl_23, wl_32, wl_36, wl_40, wl_41, wl_42, wl_43, wl_44, wl_45, wl_46, wl_47, wl_48, wl_57, wl_59, wl_60, wl_61, wl_62, wl_65, wl_90, wl_97, wl_99, wl_100, wl_121, wl_122, wl_140, wl_142, wl_143, wl_145, wl_147, wl_160, wl_161, wl_162, wl_242, wl_380, wl_400, wl_420, wl_820, wl_1340, wl_5480, wl_9999, true_and, and_true, true_or, or_true, if_true, if_false, and_self, or_self, false_and, and_false, false_or, or_false, not_true_eq_false, not_false_eq_true, Int.reduceEq, Int.reduceLT, Int.reduceLE, Int.reduceToNat, Int.reduceAdd, Int.reduceMul, Int.reduceSub, Int.reduceMod, Int.reduceDiv, Int.reduceNeg, Nat.reduceEqDiff, sm_rd_ok, sm_rd_ok2, sm_wt_ok, sm_cp_ok, Option.isSome_some, Option.getD_some, w_cont, Option.toList_some, Option.toList_none, List.cons_append, List.nil_append]
  rw [b69_5]
  simp only [wr_id, wr_b2i, wr_wr, b2i_eq0, b2i_eq1, b2i_01, sm_rem_eq, sm_div_eq, wl_m2, wl_m1, wl_0, wl_1, wl_2, wl_3, wl_4, wl_5, wl_6, wl_7, wl_8, wl_9, wl_10, wl_12, wl_13, wl_14, wl_16, wl_20, wl_21, wl_22, wl_23, wl_32, wl_36, wl_40, wl_41, wl_42, wl_43, wl_44, wl_45, wl_46, wl_47, wl_48, wl_57, wl_59, wl_60, wl_61, wl_62, wl_65, wl_90, wl_97, wl_99, wl_100, wl_121, wl_122, wl_140, wl_142, wl_143, wl_145, wl_147, wl_160, wl_161, wl_162, wl_242, wl_380, wl_400, wl_420, wl_820, wl_1340, wl_5480, wl_9999, true_and, and_true, true_or, or_true, if_true, if_false, and_self, or_self, false_and, and_false, false_or, or_false, not_true_eq_false, not_false_eq_true, Int.reduceEq, Int.reduceLT, Int.reduceLE, Int.reduceToNat, Int.reduceAdd, Int.reduceMul, Int.reduceSub, Int.reduceMod, Int.reduceDiv, Int.reduceNeg, Nat.reduceEqDiff, sm_rd_ok, sm_rd_ok2, sm_wt_ok, sm_cp_ok, Option.isSome_some, Option.getD_some, w_cont, Option.toList_some, Option.toList_none, List.cons_append, List.nil_append]
  by_cases h1 : c = -1
  · have hn : isC (M 0) (M 1) c = false := by
      rw [h1]
      unfold isC
      rw [decide_eq_false_iff_not]
      omega
    rw [if_pos h1, if_pos hn, b69_17, b69_18]
  · have hc1 : isC (M 0) (M 1) c = true := (hc.resolve_left h1).1
    rw [if_neg h1, if_neg (by rw [hc1]; decide), b69_8, kk_1 H, rr_1_5 H]
    simp (disch := omega) only [wr_id, wr_b2i, wr_wr, b2i_eq0, b2i_eq1, b2i_01, sm_rem_eq, sm_div_eq, wl_m2, wl_m1, wl_0, wl_1, wl_2, wl_3, wl_4, wl_5, wl_6, wl_7, wl_8, wl_9, wl_10, wl_12, wl_13, wl_14, wl_16, wl_20, wl_21, wl_22, wl_23, wl_32, wl_36, wl_40, wl_41, wl_42, wl_43, wl_44, wl_45, wl_46, wl_47, wl_48, wl_57, wl_59, wl_60, wl_61, wl_62, wl_65, wl_90, wl_97, wl_99, wl_100, wl_121, wl_122, wl_140, wl_142, wl_143, wl_145, wl_147, wl_160, wl_161, wl_162, wl_242, wl_380, wl_400, wl_420, wl_820, wl_1340, wl_5480, wl_9999, true_and, and_true, true_or, or_true, if_true, if_false, and_self, or_self, false_and, and_false, false_or, or_false, not_true_eq_false, not_false_eq_true, Int.reduceEq, Int.reduceLT, Int.reduceLE, Int.reduceToNat, Int.reduceAdd, Int.reduceMul, Int.reduceSub, Int.reduceMod, Int.reduceDiv, Int.reduceNeg, Nat.reduceEqDiff, sm_rd_ok, sm_rd_ok2, sm_wt_ok, sm_cp_ok, Option.isSome_some, Option.getD_some, w_cont, Option.toList_some, Option.toList_none, List.cons_append, List.nil_append, kk_3 H]
    rw [b69_18, h3 _ (by omega)]
theorem c_try (H : sm_sh Rf K) {M : Nat → Int} (hi : invD M) (hp : pnS Z Rf K M) {a b one other : Int} (ha : 0 ≤ a ∧ a < 100) (hb : 0 ≤ b ∧ b < 100) (h1 : frN M one) (h2 : frN M other) (hne : one = -1 ∨ ¬ one = other) {t : pnT} (ht : rPn Z t) : ∃ Z', rPn Z' (tp1 M a b one other t) ∧ frT Z Z' ∧ rSi Z' M ∧ Z' 63 2 = Z 63 2 ∧ Z' 69 = Z 69 ∧ ∀ Q, sm_call (d + 5) 68 [.inr (some 63), .inr (some 1), .inr (some 51), .inl one, .inl other, .inl a, .inl b] (Z, Rf, K, n, z) Q = Q none (Z', Rf, K, n, z) := by
  obtain ⟨hz, hst, hr, hsi⟩ := hp
  have b1 := frN_bd h1
  have b2 := frN_bd h2
  have p1 := prS_bd hi b1.2
  have p2 := prS_bd hi b2.2
  have h3 : ∀ c, c < 100 → Z 3 c = M (420 + c) := fun c hc => (hr.2.1 c hc).2.1
  have head : ∀ Q, sm_call (d + 5) 68 [.inr (some 63), .inr (some 1), .inr (some 51), .inl one, .inl other, .inl a, .inl b] (Z, Rf, K, n, z) Q = if ¬ t.1 = -1 ∧ t.1 ≤ prS M one + prS M other then Q none (Z, Rf, K, n, z) else sm_wp (d + 5) 68 31 [some (.inr (some 63)), some (.inr (some 1)), some (.inr (some 51)), some (.inl one), some (.inl other), some (.inl a), some (.inl b), some (.inl (prS M one + prS M other))] [] (Z, Rf, K, n, z) Q := by
    intro Q
    rw [ce68, b68_0, c_priceOf H hi.1.1 ⟨hr.1.1, hr.1.2.1⟩ h3 h1, w_cont]
    simp only [wr_id, wr_b2i, wr_wr, b2i_eq0, b2i_eq1, b2i_01, sm_rem_eq, sm_div_eq, wl_m2, wl_m1, wl_0, wl_1, wl_2, wl_3, wl_4, wl_5, wl_6, wl_7, wl_8, wl_9, wl_10, wl_12, wl_13, wl_14, wl_16, wl_20, wl_21, wl_22, wl_23, wl_32, wl_36, wl_40, wl_41, wl_42, wl_43, wl_44, wl_45, wl_46, wl_47, wl_48, wl_57, wl_59, wl_60, wl_61, wl_62, wl_65, wl_90, wl_97, wl_99, wl_100, wl_121, wl_122, wl_140, wl_142, wl_143, wl_145, wl_147, wl_160, wl_161, wl_162, wl_242, wl_380, wl_400, wl_420, wl_820, wl_1340, wl_5480, wl_9999, true_and, and_true, true_or, or_true, if_true, if_false, and_self, or_self, false_and, and_false, false_or, or_false, not_true_eq_false, not_false_eq_true, Int.reduceEq, Int.reduceLT, Int.reduceLE, Int.reduceToNat, Int.reduceAdd, Int.reduceMul, Int.reduceSub, Int.reduceMod, Int.reduceDiv, Int.reduceNeg, Nat.reduceEqDiff, sm_rd_ok, sm_rd_ok2, sm_wt_ok, sm_cp_ok, Option.isSome_some, Option.getD_some, w_cont, Option.toList_some, Option.toList_none, List.cons_append, List.nil_append]
    rw [b68_5, c_priceOf H hi.1.1 ⟨hr.1.1, hr.1.2.1⟩ h3 h2, w_cont]
    simp only [wr_id, wr_b2i, wr_wr, b2i_eq0, b2i_eq1, b2i_01, sm_rem_eq, sm_div_eq, wl_m2, wl_m1, wl_0, wl_1, wl_2, wl_3, wl_4, wl_5, wl_6, wl_7, wl_8, wl_9, wl_10, wl_12, wl_13, wl_14, wl_16, wl_20, wl_21, wl_22, wl_23, wl_32, wl_36, wl_40, wl_41, wl_42, wl_43, wl_44, wl_45, wl_46, wl_47, wl_48, wl_57, wl_59, wl_60, wl_61, wl_62, wl_65, wl_90, wl_97, wl_99, wl_100, wl_121, wl_122, wl_140, wl_142, wl_143, wl_145, wl_147, wl_160, wl_161, wl_162, wl_242, wl_380, wl_400, wl_420, wl_820, wl_1340, wl_5480, wl_9999, true_and, and_true, true_or, or_true, if_true, if_false, and_self, or_self, false_and, and_false, false_or, or_false, not_true_eq_false, not_false_eq_true, Int.reduceEq, Int.reduceLT, Int.reduceLE, Int.reduceToNat, Int.reduceAdd, Int.reduceMul, Int.reduceSub, Int.reduceMod, Int.reduceDiv, Int.reduceNeg, Nat.reduceEqDiff, sm_rd_ok, sm_rd_ok2, sm_wt_ok, sm_cp_ok, Option.isSome_some, Option.getD_some, w_cont, Option.toList_some, Option.toList_none, List.cons_append, List.nil_append]
    rw [b68_11, kk_63 H, ht.1]
    simp only [wr_id, wr_b2i, wr_wr, b2i_eq0, b2i_eq1, b2i_01, sm_rem_eq, sm_div_eq, wl_m2, wl_m1, wl_0, wl_1, wl_2, wl_3, wl_4, wl_5, wl_6, wl_7, wl_8, wl_9, wl_10, wl_12, wl_13, wl_14, wl_16, wl_20, wl_21, wl_22, wl_23, wl_32, wl_36, wl_40, wl_41, wl_42, wl_43, wl_44, wl_45, wl_46, wl_47, wl_48, wl_57, wl_59, wl_60, wl_61, wl_62, wl_65, wl_90, wl_97, wl_99, wl_100, wl_121, wl_122, wl_140, wl_142, wl_143, wl_145, wl_147, wl_160, wl_161, wl_162, wl_242, wl_380, wl_400, wl_420, wl_820, wl_1340, wl_5480, wl_9999, true_and, and_true, true_or, or_true, if_true, if_false, and_self, or_self, false_and, and_false, false_or, or_false, not_true_eq_false, not_false_eq_true, Int.reduceEq, Int.reduceLT, Int.reduceLE, Int.reduceToNat, Int.reduceAdd, Int.reduceMul, Int.reduceSub, Int.reduceMod, Int.reduceDiv, Int.reduceNeg, Nat.reduceEqDiff, sm_rd_ok, sm_rd_ok2, sm_wt_ok, sm_cp_ok, Option.isSome_some, Option.getD_some, w_cont, Option.toList_some, Option.toList_none, List.cons_append, List.nil_append]
    by_cases hf : t.1 = -1
    · rw [if_pos hf, wr_id (by omega) (by omega), if_pos rfl, if_neg (fun g => g.1 hf)]
    · obtain ⟨z3, _⟩ := ht.2.1 hf
      have hb3 := ht.2.2.resolve_left hf
      rw [if_neg hf, wr_id (by omega) (by omega), if_neg (by decide), b68_21, kk_63 H, z3]
      simp only [wr_id, wr_b2i, wr_wr, b2i_eq0, b2i_eq1, b2i_01, sm_rem_eq, sm_div_eq, wl_m2, wl_m1, wl_0, wl_1, wl_2, wl_3, wl_4, wl_5, wl_6, wl_7, wl_8, wl_9, wl_10, wl_12, wl_13, wl_14, wl_16, wl_20, wl_21, wl_22, wl_23, wl_32, wl_36, wl_40, wl_41, wl_42, wl_43, wl_44, wl_45, wl_46, wl_47, wl_48, wl_57, wl_59, wl_60, wl_61, wl_62, wl_65, wl_90, wl_97, wl_99, wl_100, wl_121, wl_122, wl_140, wl_142, wl_143, wl_145, wl_147, wl_160, wl_161, wl_162, wl_242, wl_380, wl_400, wl_420, wl_820, wl_1340, wl_5480, wl_9999, true_and, and_true, true_or, or_true, if_true, if_false, and_self, or_self, false_and, and_false, false_or, or_false, not_true_eq_false, not_false_eq_true, Int.reduceEq, Int.reduceLT, Int.reduceLE, Int.reduceToNat, Int.reduceAdd, Int.reduceMul, Int.reduceSub, Int.reduceMod, Int.reduceDiv, Int.reduceNeg, Nat.reduceEqDiff, sm_rd_ok, sm_rd_ok2, sm_wt_ok, sm_cp_ok, Option.isSome_some, Option.getD_some, w_cont, Option.toList_some, Option.toList_none, List.cons_append, List.nil_append]
      rw [wr_id (by omega) (by omega), wr_id (by omega) (by omega)]
      by_cases hle : t.1 ≤ prS M one + prS M other
      · rw [if_neg (by omega), if_pos ⟨hf, hle⟩, b68_30]
      · rw [if_pos (by omega), if_neg (fun g => hle g.2)]
  by_cases hq : ¬ t.1 = -1 ∧ t.1 ≤ prS M one + prS M other
  · refine ⟨Z, ?_, frT_refl Z, hsi, rfl, rfl, fun Q => by rw [head, if_pos hq]⟩
    unfold tp1
    rw [if_pos hq]
    exact ht
  · have hc1 : one = -1 ∨ isC (M 0) (M 1) one = true := h1.imp id (fun h => h.1)
    have hc2 : other = -1 ∨ isC (M 0) (M 1) other = true := h2.imp id (fun h => h.1)
    have w0 : Z 1 0 = M 0 ∧ Z 1 1 = M 1 := ⟨hr.1.1, hr.1.2.1⟩
    obtain ⟨Z1, f1, s1, q1⟩ := c_putP (d := d + 3) (n := n) (z := z) H hz hi.1.1 w0 hsi (c := one) (v := 1) (m := 1) hc1 (fun g => by rw [(h1.resolve_left g).2]; omega)
    have o1 : ∀ k, (k < 120 ∨ 220 ≤ k) → pdS M one 1 k = M k := fun k hk => pdS_o b1.2 hk
    have e1 : ¬ other = -1 → pdS M one 1 (120 + other.toNat) = 0 := fun g => by
      rw [pdS_k, if_neg]
      · exact (h2.resolve_left g).2
      · rintro ⟨g1, g2⟩
        rcases hne with h | h
        · exact g1 h
        · apply h
          omega
    have sz1 : szN (pdS M one 1) := by unfold szN; rw [o1 0 (by omega), o1 1 (by omega)]; exact hi.1.1
    have hz1 : sm_zs Z1 := zs_fr hz (fun a ha => f1 a (by omega) (by omega))
    obtain ⟨Z2, f2, s2, q2⟩ := c_putP (d := d + 3) (n := n) (z := z) H hz1 sz1 (by rw [o1 0 (by omega), o1 1 (by omega), f1 1 (by decide) (by decide)]; exact w0) s1 (c := other) (v := 1) (m := 1) (by rw [o1 0 (by omega), o1 1 (by omega)]; exact hc2) (fun g => by rw [e1 g]; omega)
    let M2 := pdS (pdS M one 1) other 1
    have o2 : ∀ k, (k < 120 ∨ 220 ≤ k) → M2 k = M k := fun k hk => by show pdS (pdS M one 1) other 1 k = _; rw [pdS_o b2.2 hk, o1 k hk]
    have i2 : invF M2 := invF_cg (fun k hk => o2 k (by omega)) hi.1
    have w2 : swS M2 := swS_cg (fun k hk => o2 k (by omega)) hi.2.1
    have fr2 : frT Z Z2 := ⟨fun a ha => by rw [f2 a (by omega) (by omega), f1 a (by omega) (by omega)], by rw [f2 59 (by decide) (by decide), f1 59 (by decide) (by decide)], by rw [f2 67 (by decide) (by decide), f1 67 (by decide) (by decide)]⟩
    have x2 : rFx Z2 Rf K M2 := rFx_cg (fun k hk => o2 k (by omega)) (rFx_fr fr2 (rFx_of hr hst.2.2.2.2.2.2.1))
    obtain ⟨Z3, t3, _, _, f3, e353, e354, e363, e369, q3⟩ := c_think1 (d := d) (n := n) (z := z) H (zs_frT fr2 hz) i2 w2 x2 s2 (by rw [fr2.2.2]; exact hst.2.2.2.2.2.2.2)
    have fr3 := frT_trans fr2 f3
    obtain ⟨Z4, t4, f4, e453, e454, e463, e469, q4⟩ := c_think2 (d := d + 1) (n := n) (z := z) H (zs_frT fr3 hz) i2 w2 (rFx_fr f3 x2) t3
    have fr4 := frT_trans fr3 f4
    have s4 : rSi Z4 M2 := by
      intro x y hxy
      rw [e453, e454, e353, e354]
      exact s2 x y hxy
    have w4 : Z4 1 0 = M2 0 ∧ Z4 1 1 = M2 1 := by
      rw [fr4.1 1 (by omega), o2 0 (by omega), o2 1 (by omega)]
      exact w0
    obtain ⟨Z5, f5, s5, q5⟩ := c_putP (d := d + 3) (n := n) (z := z) H (zs_frT fr4 hz) i2.1 w4 s4 (c := one) (v := 0) (m := -1) (by rw [o2 0 (by omega), o2 1 (by omega)]; exact hc1) (fun g => by
      show 0 - pdS (pdS M one 1) other 1 (120 + one.toNat) = -1
      rw [pdS_k, pdS_k]
      by_cases hh : ¬ other = -1 ∧ 120 + one.toNat = 120 + other.toNat
      · rw [if_pos hh]; omega
      · rw [if_neg hh, if_pos ⟨g, rfl⟩]; omega)
    have o5 : ∀ k, (k < 120 ∨ 220 ≤ k) → pdS M2 one 0 k = M k := fun k hk => by rw [pdS_o b1.2 hk, o2 k hk]
    have sz5 : szN (pdS M2 one 0) := by unfold szN; rw [o5 0 (by omega), o5 1 (by omega)]; exact hi.1.1
    have fr5 : frT Z Z5 := frT_trans fr4 ⟨fun a ha => f5 a (by omega) (by omega), by rw [f5 59 (by decide) (by decide)], by rw [f5 67 (by decide) (by decide)]⟩
    obtain ⟨Z6, f6, s6, q6⟩ := c_putP (d := d + 3) (n := n) (z := z) H (zs_frT fr5 hz) sz5 (by rw [fr5.1 1 (by omega), o5 0 (by omega), o5 1 (by omega)]; exact w0) s5 (c := other) (v := 0) (m := -1) (by rw [o5 0 (by omega), o5 1 (by omega)]; exact hc2) (fun g => by
      show 0 - pdS (pdS (pdS M one 1) other 1) one 0 (120 + other.toNat) = -1
      rw [pdS_k, pdS_k]
      by_cases hh : ¬ one = -1 ∧ 120 + other.toNat = 120 + one.toNat
      · exfalso
        rcases hne with h | h
        · exact hh.1 h
        · apply h
          omega
      · rw [if_neg hh, if_pos ⟨g, rfl⟩]; omega)
    rw [show pdS (pdS M2 one 0) other 0 = M from pdS_undo (h1.imp id (fun h => h.2)) (h2.imp id (fun h => h.2))] at s6
    have fr6 : frT Z Z6 := frT_trans fr5 ⟨fun a ha => f6 a (by omega) (by omega), by rw [f6 59 (by decide) (by decide)], by rw [f6 67 (by decide) (by decide)]⟩
    have e63 : Z6 63 = Z 63 := by rw [f6 63 (by decide) (by decide), f5 63 (by decide) (by decide), e463, e363, f2 63 (by decide) (by decide), f1 63 (by decide) (by decide)]
    have e69 : Z6 69 = Z 69 := by rw [f6 69 (by decide) (by decide), f5 69 (by decide) (by decide), e469, e369, f2 69 (by decide) (by decide), f1 69 (by decide) (by decide)]
    have t6 : ∀ k, k < 100 → Z6 56 k = nmP M one other k ∧ -1 ≤ nmP M one other k ∧ nmP M one other k < 100 := fun k hk => by
      rw [f6 56 (by decide) (by decide), f5 56 (by decide) (by decide)]
      exact t4 k hk
    have body : ∀ Q, sm_wp (d + 5) 68 31 [some (.inr (some 63)), some (.inr (some 1)), some (.inr (some 51)), some (.inl one), some (.inl other), some (.inl a), some (.inl b), some (.inl (prS M one + prS M other))] [] (Z, Rf, K, n, z) Q = if nmP M one other a.toNat = nmP M one other b.toNat then sm_wp (d + 5) 68 108 [some (.inr (some 63)), some (.inr (some 1)), some (.inr (some 51)), some (.inl one), some (.inl other), some (.inl a), some (.inl b), some (.inl (prS M one + prS M other))] [] (Z6, Rf, K, n, z) Q else Q none (Z6, Rf, K, n, z) := by
      intro Q
      rw [b68_31, kk_51 H, rr_51_0 H]
      simp only [wr_id, wr_b2i, wr_wr, b2i_eq0, b2i_eq1, b2i_01, sm_rem_eq, sm_div_eq, wl_m2, wl_m1, wl_0, wl_1, wl_2, wl_3, wl_4, wl_5, wl_6, wl_7, wl_8, wl_9, wl_10, wl_12, wl_13, wl_14, wl_16, wl_20, wl_21, wl_22, wl_23, wl_32, wl_36, wl_40, wl_41, wl_42, wl_43, wl_44, wl_45, wl_46, wl_47, wl_48, wl_57, wl_59, wl_60, wl_61, wl_62, wl_65, wl_90, wl_97, wl_99, wl_100, wl_121, wl_122, wl_140, wl_142, wl_143, wl_145, wl_147, wl_160, wl_161, wl_162, wl_242, wl_380, wl_400, wl_420, wl_820, wl_1340, wl_5480, wl_9999, true_and, and_true, true_or, or_true, if_true, if_false, and_self, or_self, false_and, and_false, false_or, or_false, not_true_eq_false, not_false_eq_true, Int.reduceEq, Int.reduceLT, Int.reduceLE, Int.reduceToNat, Int.reduceAdd, Int.reduceMul, Int.reduceSub, Int.reduceMod, Int.reduceDiv, Int.reduceNeg, Nat.reduceEqDiff, sm_rd_ok, sm_rd_ok2, sm_wt_ok, sm_cp_ok, Option.isSome_some, Option.getD_some, w_cont, Option.toList_some, Option.toList_none, List.cons_append, List.nil_append, kk_52 H]
      refine (q1 _).trans ?_
      rw [w_cont]
      simp only [wr_id, wr_b2i, wr_wr, b2i_eq0, b2i_eq1, b2i_01, sm_rem_eq, sm_div_eq, wl_m2, wl_m1, wl_0, wl_1, wl_2, wl_3, wl_4, wl_5, wl_6, wl_7, wl_8, wl_9, wl_10, wl_12, wl_13, wl_14, wl_16, wl_20, wl_21, wl_22, wl_23, wl_32, wl_36, wl_40, wl_41, wl_42, wl_43, wl_44, wl_45, wl_46, wl_47, wl_48, wl_57, wl_59, wl_60, wl_61, wl_62, wl_65, wl_90, wl_97, wl_99, wl_100, wl_121, wl_122, wl_140, wl_142, wl_143, wl_145, wl_147, wl_160, wl_161, wl_162, wl_242, wl_380, wl_400, wl_420, wl_820, wl_1340, wl_5480, wl_9999, true_and, and_true, true_or, or_true, if_true, if_false, and_self, or_self, false_and, and_false, false_or, or_false, not_true_eq_false, not_false_eq_true, Int.reduceEq, Int.reduceLT, Int.reduceLE, Int.reduceToNat, Int.reduceAdd, Int.reduceMul, Int.reduceSub, Int.reduceMod, Int.reduceDiv, Int.reduceNeg, Nat.reduceEqDiff, sm_rd_ok, sm_rd_ok2, sm_wt_ok, sm_cp_ok, Option.isSome_some, Option.getD_some, w_cont, Option.toList_some, Option.toList_none, List.cons_append, List.nil_append]
      rw [b68_41, kk_51 H, rr_51_0 H]
      simp only [wr_id, wr_b2i, wr_wr, b2i_eq0, b2i_eq1, b2i_01, sm_rem_eq, sm_div_eq, wl_m2, wl_m1, wl_0, wl_1, wl_2, wl_3, wl_4, wl_5, wl_6, wl_7, wl_8, wl_9, wl_10, wl_12, wl_13, wl_14, wl_16, wl_20, wl_21, wl_22, wl_23, wl_32, wl_36, wl_40, wl_41, wl_42, wl_43, wl_44, wl_45, wl_46, wl_47, wl_48, wl_57, wl_59, wl_60, wl_61, wl_62, wl_65, wl_90, wl_97, wl_99, wl_100, wl_121, wl_122, wl_140, wl_142, wl_143, wl_145, wl_147, wl_160, wl_161, wl_162, wl_242, wl_380, wl_400, wl_420, wl_820, wl_1340, wl_5480, wl_9999, true_and, and_true, true_or, or_true, if_true, if_false, and_self, or_self, false_and, and_false, false_or, or_false, not_true_eq_false, not_false_eq_true, Int.reduceEq, Int.reduceLT, Int.reduceLE, Int.reduceToNat, Int.reduceAdd, Int.reduceMul, Int.reduceSub, Int.reduceMod, Int.reduceDiv, Int.reduceNeg, Nat.reduceEqDiff, sm_rd_ok, sm_rd_ok2, sm_wt_ok, sm_cp_ok, Option.isSome_some, Option.getD_some, w_cont, Option.toList_some, Option.toList_none, List.cons_append, List.nil_append, kk_52 H]
      refine (q2 _).trans ?_
      rw [w_cont]
      simp only [wr_id, wr_b2i, wr_wr, b2i_eq0, b2i_eq1, b2i_01, sm_rem_eq, sm_div_eq, wl_m2, wl_m1, wl_0, wl_1, wl_2, wl_3, wl_4, wl_5, wl_6, wl_7, wl_8, wl_9, wl_10, wl_12, wl_13, wl_14, wl_16, wl_20, wl_21, wl_22, wl_23, wl_32, wl_36, wl_40, wl_41, wl_42, wl_43, wl_44, wl_45, wl_46, wl_47, wl_48, wl_57, wl_59, wl_60, wl_61, wl_62, wl_65, wl_90, wl_97, wl_99, wl_100, wl_121, wl_122, wl_140, wl_142, wl_143, wl_145, wl_147, wl_160, wl_161, wl_162, wl_242, wl_380, wl_400, wl_420, wl_820, wl_1340, wl_5480, wl_9999, true_and, and_true, true_or, or_true, if_true, if_false, and_self, or_self, false_and, and_false, false_or, or_false, not_true_eq_false, not_false_eq_true, Int.reduceEq, Int.reduceLT, Int.reduceLE, Int.reduceToNat, Int.reduceAdd, Int.reduceMul, Int.reduceSub, Int.reduceMod, Int.reduceDiv, Int.reduceNeg, Nat.reduceEqDiff, sm_rd_ok, sm_rd_ok2, sm_wt_ok, sm_cp_ok, Option.isSome_some, Option.getD_some, w_cont, Option.toList_some, Option.toList_none, List.cons_append, List.nil_append]
      rw [b68_52, kk_63 H, rr_63_0 H, kk_51 H]
      simp only [wr_id, wr_b2i, wr_wr, b2i_eq0, b2i_eq1, b2i_01, sm_rem_eq, sm_div_eq, wl_m2, wl_m1, wl_0, wl_1, wl_2, wl_3, wl_4, wl_5, wl_6, wl_7, wl_8, wl_9, wl_10, wl_12, wl_13, wl_14, wl_16, wl_20, wl_21, wl_22, wl_23, wl_32, wl_36, wl_40, wl_41, wl_42, wl_43, wl_44, wl_45, wl_46, wl_47, wl_48, wl_57, wl_59, wl_60, wl_61, wl_62, wl_65, wl_90, wl_97, wl_99, wl_100, wl_121, wl_122, wl_140, wl_142, wl_143, wl_145, wl_147, wl_160, wl_161, wl_162, wl_242, wl_380, wl_400, wl_420, wl_820, wl_1340, wl_5480, wl_9999, true_and, and_true, true_or, or_true, if_true, if_false, and_self, or_self, false_and, and_false, false_or, or_false, not_true_eq_false, not_false_eq_true, Int.reduceEq, Int.reduceLT, Int.reduceLE, Int.reduceToNat, Int.reduceAdd, Int.reduceMul, Int.reduceSub, Int.reduceMod, Int.reduceDiv, Int.reduceNeg, Nat.reduceEqDiff, sm_rd_ok, sm_rd_ok2, sm_wt_ok, sm_cp_ok, Option.isSome_some, Option.getD_some, w_cont, Option.toList_some, Option.toList_none, List.cons_append, List.nil_append]
      refine (q3 _).trans ?_
      rw [w_cont]
      simp only [wr_id, wr_b2i, wr_wr, b2i_eq0, b2i_eq1, b2i_01, sm_rem_eq, sm_div_eq, wl_m2, wl_m1, wl_0, wl_1, wl_2, wl_3, wl_4, wl_5, wl_6, wl_7, wl_8, wl_9, wl_10, wl_12, wl_13, wl_14, wl_16, wl_20, wl_21, wl_22, wl_23, wl_32, wl_36, wl_40, wl_41, wl_42, wl_43, wl_44, wl_45, wl_46, wl_47, wl_48, wl_57, wl_59, wl_60, wl_61, wl_62, wl_65, wl_90, wl_97, wl_99, wl_100, wl_121, wl_122, wl_140, wl_142, wl_143, wl_145, wl_147, wl_160, wl_161, wl_162, wl_242, wl_380, wl_400, wl_420, wl_820, wl_1340, wl_5480, wl_9999, true_and, and_true, true_or, or_true, if_true, if_false, and_self, or_self, false_and, and_false, false_or, or_false, not_true_eq_false, not_false_eq_true, Int.reduceEq, Int.reduceLT, Int.reduceLE, Int.reduceToNat, Int.reduceAdd, Int.reduceMul, Int.reduceSub, Int.reduceMod, Int.reduceDiv, Int.reduceNeg, Nat.reduceEqDiff, sm_rd_ok, sm_rd_ok2, sm_wt_ok, sm_cp_ok, Option.isSome_some, Option.getD_some, w_cont, Option.toList_some, Option.toList_none, List.cons_append, List.nil_append]
      rw [b68_61, kk_63 H, rr_63_0 H, kk_51 H, rr_51_1 H]
      simp only [wr_id, wr_b2i, wr_wr, b2i_eq0, b2i_eq1, b2i_01, sm_rem_eq, sm_div_eq, wl_m2, wl_m1, wl_0, wl_1, wl_2, wl_3, wl_4, wl_5, wl_6, wl_7, wl_8, wl_9, wl_10, wl_12, wl_13, wl_14, wl_16, wl_20, wl_21, wl_22, wl_23, wl_32, wl_36, wl_40, wl_41, wl_42, wl_43, wl_44, wl_45, wl_46, wl_47, wl_48, wl_57, wl_59, wl_60, wl_61, wl_62, wl_65, wl_90, wl_97, wl_99, wl_100, wl_121, wl_122, wl_140, wl_142, wl_143, wl_145, wl_147, wl_160, wl_161, wl_162, wl_242, wl_380, wl_400, wl_420, wl_820, wl_1340, wl_5480, wl_9999, true_and, and_true, true_or, or_true, if_true, if_false, and_self, or_self, false_and, and_false, false_or, or_false, not_true_eq_false, not_false_eq_true, Int.reduceEq, Int.reduceLT, Int.reduceLE, Int.reduceToNat, Int.reduceAdd, Int.reduceMul, Int.reduceSub, Int.reduceMod, Int.reduceDiv, Int.reduceNeg, Nat.reduceEqDiff, sm_rd_ok, sm_rd_ok2, sm_wt_ok, sm_cp_ok, Option.isSome_some, Option.getD_some, w_cont, Option.toList_some, Option.toList_none, List.cons_append, List.nil_append, kk_55 H]
      refine (q4 _).trans ?_
      rw [w_cont]
      simp only [wr_id, wr_b2i, wr_wr, b2i_eq0, b2i_eq1, b2i_01, sm_rem_eq, sm_div_eq, wl_m2, wl_m1, wl_0, wl_1, wl_2, wl_3, wl_4, wl_5, wl_6, wl_7, wl_8, wl_9, wl_10, wl_12, wl_13, wl_14, wl_16, wl_20, wl_21, wl_22, wl_23, wl_32, wl_36, wl_40, wl_41, wl_42, wl_43, wl_44, wl_45, wl_46, wl_47, wl_48, wl_57, wl_59, wl_60, wl_61, wl_62, wl_65, wl_90, wl_97, wl_99, wl_100, wl_121, wl_122, wl_140, wl_142, wl_143, wl_145, wl_147, wl_160, wl_161, wl_162, wl_242, wl_380, wl_400, wl_420, wl_820, wl_1340, wl_5480, wl_9999, true_and, and_true, true_or, or_true, if_true, if_false, and_self, or_self, false_and, and_false, false_or, or_false, not_true_eq_false, not_false_eq_true, Int.reduceEq, Int.reduceLT, Int.reduceLE, Int.reduceToNat, Int.reduceAdd, Int.reduceMul, Int.reduceSub, Int.reduceMod, Int.reduceDiv, Int.reduceNeg, Nat.reduceEqDiff, sm_rd_ok, sm_rd_ok2, sm_wt_ok, sm_cp_ok, Option.isSome_some, Option.getD_some, w_cont, Option.toList_some, Option.toList_none, List.cons_append, List.nil_append]
      rw [b68_73, kk_51 H, rr_51_0 H]
      simp only [wr_id, wr_b2i, wr_wr, b2i_eq0, b2i_eq1, b2i_01, sm_rem_eq, sm_div_eq, wl_m2, wl_m1, wl_0, wl_1, wl_2, wl_3, wl_4, wl_5, wl_6, wl_7, wl_8, wl_9, wl_10, wl_12, wl_13, wl_14, wl_16, wl_20, wl_21, wl_22, wl_23, wl_32, wl_36, wl_40, wl_41, wl_42, wl_43, wl_44, wl_45, wl_46, wl_47, wl_48, wl_57, wl_59, wl_60, wl_61, wl_62, wl_65, wl_90, wl_97, wl_99, wl_100, wl_121, wl_122, wl_140, wl_142, wl_143, wl_145, wl_147, wl_160, wl_161, wl_162, wl_242, wl_380, wl_400, wl_420, wl_820, wl_1340, wl_5480, wl_9999, true_and, and_true, true_or, or_true, if_true, if_false, and_self, or_self, false_and, and_false, false_or, or_false, not_true_eq_false, not_false_eq_true, Int.reduceEq, Int.reduceLT, Int.reduceLE, Int.reduceToNat, Int.reduceAdd, Int.reduceMul, Int.reduceSub, Int.reduceMod, Int.reduceDiv, Int.reduceNeg, Nat.reduceEqDiff, sm_rd_ok, sm_rd_ok2, sm_wt_ok, sm_cp_ok, Option.isSome_some, Option.getD_some, w_cont, Option.toList_some, Option.toList_none, List.cons_append, List.nil_append, kk_52 H]
      refine (q5 _).trans ?_
      rw [w_cont]
      simp only [wr_id, wr_b2i, wr_wr, b2i_eq0, b2i_eq1, b2i_01, sm_rem_eq, sm_div_eq, wl_m2, wl_m1, wl_0, wl_1, wl_2, wl_3, wl_4, wl_5, wl_6, wl_7, wl_8, wl_9, wl_10, wl_12, wl_13, wl_14, wl_16, wl_20, wl_21, wl_22, wl_23, wl_32, wl_36, wl_40, wl_41, wl_42, wl_43, wl_44, wl_45, wl_46, wl_47, wl_48, wl_57, wl_59, wl_60, wl_61, wl_62, wl_65, wl_90, wl_97, wl_99, wl_100, wl_121, wl_122, wl_140, wl_142, wl_143, wl_145, wl_147, wl_160, wl_161, wl_162, wl_242, wl_380, wl_400, wl_420, wl_820, wl_1340, wl_5480, wl_9999, true_and, and_true, true_or, or_true, if_true, if_false, and_self, or_self, false_and, and_false, false_or, or_false, not_true_eq_false, not_false_eq_true, Int.reduceEq, Int.reduceLT, Int.reduceLE, Int.reduceToNat, Int.reduceAdd, Int.reduceMul, Int.reduceSub, Int.reduceMod, Int.reduceDiv, Int.reduceNeg, Nat.reduceEqDiff, sm_rd_ok, sm_rd_ok2, sm_wt_ok, sm_cp_ok, Option.isSome_some, Option.getD_some, w_cont, Option.toList_some, Option.toList_none, List.cons_append, List.nil_append]
      rw [b68_83, kk_51 H, rr_51_0 H]
      simp only [wr_id, wr_b2i, wr_wr, b2i_eq0, b2i_eq1, b2i_01, sm_rem_eq, sm_div_eq, wl_m2, wl_m1, wl_0, wl_1, wl_2, wl_3, wl_4, wl_5, wl_6, wl_7, wl_8, wl_9, wl_10, wl_12, wl_13, wl_14, wl_16, wl_20, wl_21, wl_22, wl_23, wl_32, wl_36, wl_40, wl_41, wl_42, wl_43, wl_44, wl_45, wl_46, wl_47, wl_48, wl_57, wl_59, wl_60, wl_61, wl_62, wl_65, wl_90, wl_97, wl_99, wl_100, wl_121, wl_122, wl_140, wl_142, wl_143, wl_145, wl_147, wl_160, wl_161, wl_162, wl_242, wl_380, wl_400, wl_420, wl_820, wl_1340, wl_5480, wl_9999, true_and, and_true, true_or, or_true, if_true, if_false, and_self, or_self, false_and, and_false, false_or, or_false, not_true_eq_false, not_false_eq_true, Int.reduceEq, Int.reduceLT, Int.reduceLE, Int.reduceToNat, Int.reduceAdd, Int.reduceMul, Int.reduceSub, Int.reduceMod, Int.reduceDiv, Int.reduceNeg, Nat.reduceEqDiff, sm_rd_ok, sm_rd_ok2, sm_wt_ok, sm_cp_ok, Option.isSome_some, Option.getD_some, w_cont, Option.toList_some, Option.toList_none, List.cons_append, List.nil_append, kk_52 H]
      refine (q6 _).trans ?_
      rw [w_cont]
      simp only [wr_id, wr_b2i, wr_wr, b2i_eq0, b2i_eq1, b2i_01, sm_rem_eq, sm_div_eq, wl_m2, wl_m1, wl_0, wl_1, wl_2, wl_3, wl_4, wl_5, wl_6, wl_7, wl_8, wl_9, wl_10, wl_12, wl_13, wl_14, wl_16, wl_20, wl_21, wl_22, wl_23, wl_32, wl_36, wl_40, wl_41, wl_42, wl_43, wl_44, wl_45, wl_46, wl_47, wl_48, wl_57, wl_59, wl_60, wl_61, wl_62, wl_65, wl_90, wl_97, wl_99, wl_100, wl_121, wl_122, wl_140, wl_142, wl_143, wl_145, wl_147, wl_160, wl_161, wl_162, wl_242, wl_380, wl_400, wl_420, wl_820, wl_1340, wl_5480, wl_9999, true_and, and_true, true_or, or_true, if_true, if_false, and_self, or_self, false_and, and_false, false_or, or_false, not_true_eq_false, not_false_eq_true, Int.reduceEq, Int.reduceLT, Int.reduceLE, Int.reduceToNat, Int.reduceAdd, Int.reduceMul, Int.reduceSub, Int.reduceMod, Int.reduceDiv, Int.reduceNeg, Nat.reduceEqDiff, sm_rd_ok, sm_rd_ok2, sm_wt_ok, sm_cp_ok, Option.isSome_some, Option.getD_some, w_cont, Option.toList_some, Option.toList_none, List.cons_append, List.nil_append]
      rw [b68_94, kk_51 H, rr_51_1 H]
      simp only [wr_id, wr_b2i, wr_wr, b2i_eq0, b2i_eq1, b2i_01, sm_rem_eq, sm_div_eq, wl_m2, wl_m1, wl_0, wl_1, wl_2, wl_3, wl_4, wl_5, wl_6, wl_7, wl_8, wl_9, wl_10, wl_12, wl_13, wl_14, wl_16, wl_20, wl_21, wl_22, wl_23, wl_32, wl_36, wl_40, wl_41, wl_42, wl_43, wl_44, wl_45, wl_46, wl_47, wl_48, wl_57, wl_59, wl_60, wl_61, wl_62, wl_65, wl_90, wl_97, wl_99, wl_100, wl_121, wl_122, wl_140, wl_142, wl_143, wl_145, wl_147, wl_160, wl_161, wl_162, wl_242, wl_380, wl_400, wl_420, wl_820, wl_1340, wl_5480, wl_9999, true_and, and_true, true_or, or_true, if_true, if_false, and_self, or_self, false_and, and_false, false_or, or_false, not_true_eq_false, not_false_eq_true, Int.reduceEq, Int.reduceLT, Int.reduceLE, Int.reduceToNat, Int.reduceAdd, Int.reduceMul, Int.reduceSub, Int.reduceMod, Int.reduceDiv, Int.reduceNeg, Nat.reduceEqDiff, sm_rd_ok, sm_rd_ok2, sm_wt_ok, sm_cp_ok, Option.isSome_some, Option.getD_some, w_cont, Option.toList_some, Option.toList_none, List.cons_append, List.nil_append, kk_55 H]
      rw [c_areOne (nm := nmP M one other) H t6 ha hb, w_cont]
      simp only [wr_id, wr_b2i, wr_wr, b2i_eq0, b2i_eq1, b2i_01, sm_rem_eq, sm_div_eq, wl_m2, wl_m1, wl_0, wl_1, wl_2, wl_3, wl_4, wl_5, wl_6, wl_7, wl_8, wl_9, wl_10, wl_12, wl_13, wl_14, wl_16, wl_20, wl_21, wl_22, wl_23, wl_32, wl_36, wl_40, wl_41, wl_42, wl_43, wl_44, wl_45, wl_46, wl_47, wl_48, wl_57, wl_59, wl_60, wl_61, wl_62, wl_65, wl_90, wl_97, wl_99, wl_100, wl_121, wl_122, wl_140, wl_142, wl_143, wl_145, wl_147, wl_160, wl_161, wl_162, wl_242, wl_380, wl_400, wl_420, wl_820, wl_1340, wl_5480, wl_9999, true_and, and_true, true_or, or_true, if_true, if_false, and_self, or_self, false_and, and_false, false_or, or_false, not_true_eq_false, not_false_eq_true, Int.reduceEq, Int.reduceLT, Int.reduceLE, Int.reduceToNat, Int.reduceAdd, Int.reduceMul, Int.reduceSub, Int.reduceMod, Int.reduceDiv, Int.reduceNeg, Nat.reduceEqDiff, sm_rd_ok, sm_rd_ok2, sm_wt_ok, sm_cp_ok, Option.isSome_some, Option.getD_some, w_cont, Option.toList_some, Option.toList_none, List.cons_append, List.nil_append]
      rw [b68_105]
      simp only [wr_id, wr_b2i, wr_wr, b2i_eq0, b2i_eq1, b2i_01, sm_rem_eq, sm_div_eq, wl_m2, wl_m1, wl_0, wl_1, wl_2, wl_3, wl_4, wl_5, wl_6, wl_7, wl_8, wl_9, wl_10, wl_12, wl_13, wl_14, wl_16, wl_20, wl_21, wl_22, wl_23, wl_32, wl_36, wl_40, wl_41, wl_42, wl_43, wl_44, wl_45, wl_46, wl_47, wl_48, wl_57, wl_59, wl_60, wl_61, wl_62, wl_65, wl_90, wl_97, wl_99, wl_100, wl_121, wl_122, wl_140, wl_142, wl_143, wl_145, wl_147, wl_160, wl_161, wl_162, wl_242, wl_380, wl_400, wl_420, wl_820, wl_1340, wl_5480, wl_9999, true_and, and_true, true_or, or_true, if_true, if_false, and_self, or_self, false_and, and_false, false_or, or_false, not_true_eq_false, not_false_eq_true, Int.reduceEq, Int.reduceLT, Int.reduceLE, Int.reduceToNat, Int.reduceAdd, Int.reduceMul, Int.reduceSub, Int.reduceMod, Int.reduceDiv, Int.reduceNeg, Nat.reduceEqDiff, sm_rd_ok, sm_rd_ok2, sm_wt_ok, sm_cp_ok, Option.isSome_some, Option.getD_some, w_cont, Option.toList_some, Option.toList_none, List.cons_append, List.nil_append, decide_eq_false_iff_not]
      by_cases hn : nmP M one other a.toNat = nmP M one other b.toNat
      · rw [if_neg (fun g => g hn), if_pos hn]
      · rw [if_pos hn, if_neg hn, b68_156]
    by_cases hn : nmP M one other a.toNat = nmP M one other b.toNat
    · have et : tp1 M a b one other t = (prS M one + prS M other, mnS one other, one, other) := by unfold tp1; rw [if_neg hq, if_pos hn]
      rw [et]
      refine ⟨sm_u (sm_u (sm_u (sm_u (sm_u Z6 63 7 1) 63 3 (prS M one + prS M other)) 63 4 (mnS one other)) 63 5 one) 63 6 other, ⟨?_, fun _ => ⟨?_, ?_, ?_, ?_⟩, Or.inr (by show 0 ≤ prS M one + prS M other ∧ prS M one + prS M other ≤ 198; omega)⟩, frT_trans fr6 ⟨fun a ha => ?_, ?_, ?_⟩, ?_, ?_, ?_, fun Q => ?_⟩
      · show _ = if prS M one + prS M other = -1 then (0 : Int) else 1
        rw [if_neg (by omega)]
        simp [sm_u]
      · simp [sm_u]
      · simp [sm_u]
      · simp [sm_u]
      · simp [sm_u]
      · rw [sm_u_row (by omega), sm_u_row (by omega), sm_u_row (by omega), sm_u_row (by omega), sm_u_row (by omega)]
      · rw [sm_u_row (by decide), sm_u_row (by decide), sm_u_row (by decide), sm_u_row (by decide), sm_u_row (by decide)]
      · rw [sm_u_row (by decide), sm_u_row (by decide), sm_u_row (by decide), sm_u_row (by decide), sm_u_row (by decide)]
      · intro x y hxy
        rw [sm_u_row (b := 53) (by decide), sm_u_row (b := 53) (by decide), sm_u_row (b := 53) (by decide), sm_u_row (b := 53) (by decide), sm_u_row (b := 53) (by decide), sm_u_row (b := 54) (by decide), sm_u_row (b := 54) (by decide), sm_u_row (b := 54) (by decide), sm_u_row (b := 54) (by decide), sm_u_row (b := 54) (by decide)]
        exact s6 x y hxy
      · rw [← e63]
        simp [sm_u]
      · rw [sm_u_row (by decide), sm_u_row (by decide), sm_u_row (by decide), sm_u_row (by decide), sm_u_row (by decide), e69]
      · rw [head, if_neg hq, body, if_pos hn, b68_108, kk_63 H]
        simp only [wr_id, wr_b2i, wr_wr, b2i_eq0, b2i_eq1, b2i_01, sm_rem_eq, sm_div_eq, wl_m2, wl_m1, wl_0, wl_1, wl_2, wl_3, wl_4, wl_5, wl_6, wl_7, wl_8, wl_9, wl_10, wl_12, wl_13, wl_14, wl_16, wl_20, wl_21, wl_22, wl_23, wl_32, wl_36, wl_40, wl_41, wl_42, wl_43, wl_44, wl_45, wl_46, wl_47, wl_48, wl_57, wl_59, wl_60, wl_61, wl_62, wl_65, wl_90, wl_97, wl_99, wl_100, wl_121, wl_122, wl_140, wl_142, wl_143, wl_145, wl_147, wl_160, wl_161, wl_162, wl_242, wl_380, wl_400, wl_420, wl_820, wl_1340, wl_5480, wl_9999, true_and, and_true, true_or, or_true, if_true, if_false, and_self, or_self, false_and, and_false, false_or, or_false, not_true_eq_false, not_false_eq_true, Int.reduceEq, Int.reduceLT, Int.reduceLE, Int.reduceToNat, Int.reduceAdd, Int.reduceMul, Int.reduceSub, Int.reduceMod, Int.reduceDiv, Int.reduceNeg, Nat.reduceEqDiff, sm_rd_ok, sm_rd_ok2, sm_wt_ok, sm_cp_ok, Option.isSome_some, Option.getD_some, w_cont, Option.toList_some, Option.toList_none, List.cons_append, List.nil_append]
        rw [wr_id (by omega) (by omega)]
        have fin : ∀ v w : Int, v + w = mnS one other → sm_wp (d + 5) 68 141 [some (.inr (some 63)), some (.inr (some 1)), some (.inr (some 51)), some (.inl one), some (.inl other), some (.inl a), some (.inl b), some (.inl (prS M one + prS M other))] [.inl w, .inl v, .inr (some 63)] (sm_u (sm_u Z6 63 7 1) 63 3 (prS M one + prS M other), Rf, K, n, z) Q = Q none (sm_u (sm_u (sm_u (sm_u (sm_u Z6 63 7 1) 63 3 (prS M one + prS M other)) 63 4 (mnS one other)) 63 5 one) 63 6 other, Rf, K, n, z) := by
          intro v w hvw
          rw [b68_141, kk_63 H, hvw]
          simp only [wr_id, wr_b2i, wr_wr, b2i_eq0, b2i_eq1, b2i_01, sm_rem_eq, sm_div_eq, wl_m2, wl_m1, wl_0, wl_1, wl_2, wl_3, wl_4, wl_5, wl_6, wl_7, wl_8, wl_9, wl_10, wl_12, wl_13, wl_14, wl_16, wl_20, wl_21, wl_22, wl_23, wl_32, wl_36, wl_40, wl_41, wl_42, wl_43, wl_44, wl_45, wl_46, wl_47, wl_48, wl_57, wl_59, wl_60, wl_61, wl_62, wl_65, wl_90, wl_97, wl_99, wl_100, wl_121, wl_122, wl_140, wl_142, wl_143, wl_145, wl_147, wl_160, wl_161, wl_162, wl_242, wl_380, wl_400, wl_420, wl_820, wl_1340, wl_5480, wl_9999, true_and, and_true, true_or, or_true, if_true, if_false, and_self, or_self, false_and, and_false, false_or, or_false, not_true_eq_false, not_false_eq_true, Int.reduceEq, Int.reduceLT, Int.reduceLE, Int.reduceToNat, Int.reduceAdd, Int.reduceMul, Int.reduceSub, Int.reduceMod, Int.reduceDiv, Int.reduceNeg, Nat.reduceEqDiff, sm_rd_ok, sm_rd_ok2, sm_wt_ok, sm_cp_ok, Option.isSome_some, Option.getD_some, w_cont, Option.toList_some, Option.toList_none, List.cons_append, List.nil_append]
          rw [b68_156]
        have snd : ∀ v : Int, v = (if one = -1 then 0 else 1) → sm_wp (d + 5) 68 130 [some (.inr (some 63)), some (.inr (some 1)), some (.inr (some 51)), some (.inl one), some (.inl other), some (.inl a), some (.inl b), some (.inl (prS M one + prS M other))] [.inl v, .inr (some 63)] (sm_u (sm_u Z6 63 7 1) 63 3 (prS M one + prS M other), Rf, K, n, z) Q = Q none (sm_u (sm_u (sm_u (sm_u (sm_u Z6 63 7 1) 63 3 (prS M one + prS M other)) 63 4 (mnS one other)) 63 5 one) 63 6 other, Rf, K, n, z) := by
          intro v hv
          rw [b68_130, wr_id (by omega) (by omega)]
          by_cases ho : other = -1
          · rw [if_pos ho, b68_136]
            exact fin _ _ (by unfold mnS; rw [hv, if_pos ho])
          · rw [if_neg ho, b68_140]
            exact fin _ _ (by unfold mnS; rw [hv, if_neg ho])
        by_cases ho : one = -1
        · rw [if_pos ho, b68_125]
          exact snd _ (by rw [if_pos ho])
        · rw [if_neg ho, b68_129]
          exact snd _ (by rw [if_neg ho])
    · have et : tp1 M a b one other t = t := by unfold tp1; rw [if_neg hq, if_neg hn]
      rw [et]
      refine ⟨Z6, rPn_63 e63 ht, fr6, s6, by rw [e63], e69, fun Q => ?_⟩
      rw [head, if_neg hq, body, if_neg hn]
end PLAN
