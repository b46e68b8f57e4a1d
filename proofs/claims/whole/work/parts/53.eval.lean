theorem sm_u_row {α : Type} {f : Nat → Nat → α} {a i b : Nat} {v : α} (h : b ≠ a) : sm_u f a i v b = f b := by
  funext j
  simp [sm_u, h]
/-- a row holds a stack, its top last -/
def stk (f : Nat → Int) : List Int → Prop
  | [] => True
  | a :: r => f r.length = a ∧ stk f r
theorem stk_congr {f g : Nat → Int} : ∀ {st : List Int}, (∀ j, j < st.length → f j = g j) → stk f st → stk g st := by
  intro st
  induction st with
  | nil => intro _ _; trivial
  | cons a r ih =>
    intro h hs
    refine ⟨?_, ih (fun j hj => h j (by simp only [List.length_cons]; omega)) hs.2⟩
    rw [← h r.length (by simp only [List.length_cons]; omega)]
    exact hs.1
theorem stk_put {Z : Nat → Nat → Int} {q : Nat} {r : List Int} {v : Int} (h : stk (Z q) r) : stk (sm_u Z q r.length v q) (v :: r) := by
  refine ⟨by simp [sm_u], stk_congr ?_ h⟩
  intro j hj
  simp only [sm_u]
  rw [if_neg (by omega)]
/-- values as their types say: a condition's is 0 or 1 -/
def tyO : List Bool → List Int → Prop
  | [], [] => True
  | b :: t, a :: r => (b = true → a = 0 ∨ a = 1) ∧ tyO t r
  | _, _ => False
theorem tyO_len : ∀ {t : List Bool} {st : List Int}, tyO t st → t.length = st.length := by
  intro t
  induction t with
  | nil => intro st h; cases st with
    | nil => rfl
    | cons a r => exact h.elim
  | cons b t ih => intro st h; cases st with
    | nil => exact h.elim
    | cons a r => simp only [List.length_cons]; rw [ih h.2]
theorem tyO_cons {b : Bool} {t : List Bool} {st : List Int} (h : tyO (b :: t) st) : ∃ a r, st = a :: r ∧ (b = true → a = 0 ∨ a = 1) ∧ tyO t r := by
  cases st with
  | nil => exact h.elim
  | cons a r => exact ⟨a, r, rfl, h.1, h.2⟩
/-- what a step does to the types of the stack -/
def tyS (s v : Int) (t t' : List Bool) : Prop :=
  (s = 0 ∧ t.length < 32 ∧ (0 ≤ v ∧ v ≤ 9999) ∧ t' = false :: t) ∨ ((1 ≤ s ∧ s ≤ 9) ∧ t.length < 32 ∧ t' = false :: t) ∨ (s = 16 ∧ (0 < v ∧ v ≤ 9999) ∧ (∃ r, t = false :: r) ∧ t' = t) ∨ (s = 20 ∧ (∃ r, t = true :: r) ∧ t' = t) ∨ (∃ b r c, t = b :: b :: r ∧ t' = c :: r ∧ (((s = 13 ∨ s = 14 ∨ s = 15) ∧ b = false ∧ c = false) ∨ ((s = 17 ∨ s = 18 ∨ s = 19) ∧ b = false ∧ c = true) ∨ ((s = 21 ∨ s = 22) ∧ b = true ∧ c = true)))
def tyR (A B : Nat → Int) : Nat → Nat → List Bool → List Bool → Prop
  | 0, _, t, t' => t = t'
  | k + 1, i, t, t' => ∃ t1, tyS (A i) (B i) t t1 ∧ tyR A B k (i + 1) t1 t'
theorem tyR_add {A B : Nat → Int} : ∀ {k l i : Nat} {t t1 t2 : List Bool}, tyR A B k i t t1 → tyR A B l (i + k) t1 t2 → tyR A B (k + l) i t t2 := by
  intro k
  induction k with
  | zero => intro l i t t1 t2 h1 h2; rw [h1, Nat.zero_add]; exact h2
  | succ k ih =>
    intro l i t t1 t2 h1 h2
    obtain ⟨t3, h3, h4⟩ := h1
    rw [show k + 1 + l = (k + l) + 1 by omega]
    exact ⟨t3, h3, ih h4 (by rw [show i + 1 + k = i + (k + 1) by omega]; exact h2)⟩
theorem tyR_congr {A B A' B' : Nat → Int} : ∀ {k i : Nat} {t t' : List Bool}, (∀ j, i ≤ j → j < i + k → A' j = A j ∧ B' j = B j) → tyR A B k i t t' → tyR A' B' k i t t' := by
  intro k
  induction k with
  | zero => intro i t t' _ h; exact h
  | succ k ih =>
    intro i t t' hc h
    obtain ⟨t3, h3, h4⟩ := h
    refine ⟨t3, ?_, ih (fun j h1 h2 => hc j (by omega) (by omega)) h4⟩
    rw [(hc i (by omega) (by omega)).1, (hc i (by omega) (by omega)).2]
    exact h3
def evS (F : Int → Int) (s v : Int) (st : List Int) : List Int := if s < 13 then (if s = 0 then v else F s) :: st else if s = 16 then (match st with | a :: r => sm_div a v :: r | [] => []) else if s = 20 then (match st with | a :: r => (1 - a) :: r | [] => []) else (match st with | b :: a :: r => joS (kiS s) a b :: r | _ => [])
def evR (A B : Nat → Int) (F : Int → Int) : Nat → Nat → List Int → List Int
  | 0, _, st => st
  | k + 1, i, st => evR A B F k (i + 1) (evS F (A i) (B i) st)
theorem tyS_ev {F : Int → Int} {s v : Int} {t t' : List Bool} {st : List Int} (h : tyS s v t t') (ho : tyO t st) : tyO t' (evS F s v st) := by
  rcases h with ⟨rfl, _, _, rfl⟩ | ⟨hs, _, rfl⟩ | ⟨rfl, _, ⟨r, rfl⟩, rfl⟩ | ⟨rfl, ⟨r, rfl⟩, rfl⟩ | ⟨b, r, c, rfl, rfl, hs⟩
  · exact ⟨fun h => (Bool.noConfusion h), ho⟩
  · unfold evS
    rw [if_pos (by omega)]
    exact ⟨fun h => (Bool.noConfusion h), ho⟩
  · obtain ⟨a, r', rfl, h1, h2⟩ := tyO_cons ho
    exact ⟨fun h => (Bool.noConfusion h), h2⟩
  · obtain ⟨a, r', rfl, h1, h2⟩ := tyO_cons ho
    refine ⟨fun h => ?_, h2⟩
    have := h1 rfl
    show 1 - a = 0 ∨ 1 - a = 1
    omega
  · obtain ⟨x, r1, rfl, h1, h2⟩ := tyO_cons ho
    obtain ⟨y, r2, rfl, h3, h4⟩ := tyO_cons h2
    have e : evS F s v (x :: y :: r2) = joS (kiS s) y x :: r2 := by
      unfold evS
      rw [if_neg (by omega), if_neg (by omega), if_neg (by omega)]
    rw [e]
    refine ⟨fun h => ?_, h4⟩
    rcases hs with ⟨_, _, rfl⟩ | ⟨hs, rfl, rfl⟩ | ⟨hs, rfl, rfl⟩
    · cases h
    · rcases hs with rfl | rfl | rfl
      · show (if wr y < wr x then (1 : Int) else 0) = 0 ∨ (if wr y < wr x then (1 : Int) else 0) = 1
        split <;> simp
      · show (if wr y = wr x then (1 : Int) else 0) = 0 ∨ (if wr y = wr x then (1 : Int) else 0) = 1
        split <;> simp
      · show (if wr x < wr y then (1 : Int) else 0) = 0 ∨ (if wr x < wr y then (1 : Int) else 0) = 1
        split <;> simp
    · have hx := h1 rfl
      have hy := h3 rfl
      rcases hs with rfl | rfl
      · show sm_and y x = 0 ∨ sm_and y x = 1
        rcases hx with rfl | rfl <;> rcases hy with rfl | rfl <;> decide
      · show sm_or y x = 0 ∨ sm_or y x = 1
        rcases hx with rfl | rfl <;> rcases hy with rfl | rfl <;> decide
/-- a step as the class's order -/
def cOrd (s v : Int) : Int := if s = 0 then 16 * v else if s < 13 then 16 * (s - 1) + 1 else if s = 16 then 16 * v + 2 else if s = 20 then 3 else kiS s
def cW (w : Int) : Int := if w = 1 then 2 else if w = 2 then 3 else if w = 3 then 1 else w
section EVAL
variable {d n z : Nat} {Rf : Nat → Nat → Option Nat} {K : Nat → Nat × Nat} {A B : Nat → Int} {F : Int → Int}
set_option maxHeartbeats 1000000 in
theorem m_ev1 (H : sm_sh Rf K) {k i : Nat} (hk : k < 4) (hi : i < 400) {e : Int} (hie : (i : Int) < e) (he : e ≤ 400) {t t' : List Bool} {st : List Int} {Z : Nat → Nat → Int} (l2 l6 l7 : Option sm_V) (hA : Z 80 (2200 + 820 * k + 2 * i) = A i) (hB : Z 80 (2201 + 820 * k + 2 * i) = B i) (hF : ∀ s, 1 ≤ s → s ≤ 9 → Z 88 s.toNat = F s) (hty : tyS (A i) (B i) t t') (ho : tyO t st) (hst : stk (Z 87) st) (hle : st.length ≤ 32) : ∃ Z' l6' l7', stk (Z' 87) (evS F (A i) (B i) st) ∧ (∀ a, a ≠ 87 → Z' a = Z a) ∧ (evS F (A i) (B i) st).length ≤ 32 ∧ ∀ Q, sm_wp (d + 1) 159 6 [some (.inr (some 79)), some (.inl (k : Int)), l2, some (.inl e), some (.inl (st.length : Int)), some (.inl (i : Int)), l6, l7] [] (Z, Rf, K, n, z) Q = sm_wp (d + 1) 159 6 [some (.inr (some 79)), some (.inl (k : Int)), l2, some (.inl e), some (.inl ((evS F (A i) (B i) st).length : Int)), some (.inl ((i + 1 : Nat) : Int)), l6', l7'] [] (Z', Rf, K, n, z) Q := by
  have hlen := tyO_len ho
  have n1 : (2200 + 820 * (k : Int) + 2 * (i : Int)).toNat = 2200 + 820 * k + 2 * i := by omega
  have n2 : (2200 + 820 * (k : Int) + 2 * (i : Int) + 1).toNat = 2201 + 820 * k + 2 * i := by omega
  have hs' : -2147483648 ≤ A i ∧ A i < 2147483648 := by
    rcases hty with ⟨h, _⟩ | ⟨h, _⟩ | ⟨h, _⟩ | ⟨h, _⟩ | ⟨b, r, c, _, _, h⟩ <;> omega
  have head : ∀ Q, sm_wp (d + 1) 159 6 [some (.inr (some 79)), some (.inl (k : Int)), l2, some (.inl e), some (.inl (st.length : Int)), some (.inl (i : Int)), l6, l7] [] (Z, Rf, K, n, z) Q = if 13 ≤ A i then sm_wp (d + 1) 159 93 [some (.inr (some 79)), some (.inl (k : Int)), l2, some (.inl e), some (.inl (st.length : Int)), some (.inl (i : Int)), some (.inl (A i)), some (.inl (B i))] [] (Z, Rf, K, n, z) Q else sm_wp (d + 1) 159 63 [some (.inr (some 79)), some (.inl (k : Int)), l2, some (.inl e), some (.inl (st.length : Int)), some (.inl (i : Int)), some (.inl (A i)), some (.inl (B i))] [] (Z, Rf, K, n, z) Q := by
    intro Q
    rw [b159_6, wr_id (by omega) (by omega), wr_id (by omega) (by omega), if_neg (by omega), b159_12, kk_79 H, rr_79_0 H]
    simp (disch := omega) only [wr_id, wr_b2i, wr_wr, b2i_eq0, b2i_eq1, b2i_01, sm_rem_eq, sm_div_eq, wl_m2, wl_m1, wl_0, wl_1, wl_2, wl_3, wl_4, wl_5, wl_6, wl_7, wl_8, wl_9, wl_10, wl_12, wl_13, wl_14, wl_16, wl_20, wl_21, wl_22, wl_23, wl_32, wl_36, wl_40, wl_41, wl_42, wl_43, wl_44, wl_45, wl_46, wl_47, wl_48, wl_57, wl_59, wl_60, wl_61, wl_62, wl_65, wl_90, wl_97, wl_99, wl_100, wl_121, wl_122, wl_140, wl_142, wl_143, wl_145, wl_147, wl_160, wl_161, wl_162, wl_242, wl_380, wl_400, wl_420, wl_820, wl_1340, wl_5480, wl_9999, true_and, and_true, true_or, or_true, if_true, if_false, and_self, or_self, false_and, and_false, false_or, or_false, not_true_eq_false, not_false_eq_true, Int.reduceEq, Int.reduceLT, Int.reduceLE, Int.reduceToNat, Int.reduceAdd, Int.reduceMul, Int.reduceSub, Int.reduceMod, Int.reduceDiv, Int.reduceNeg, Nat.reduceEqDiff, sm_rd_ok, sm_rd_ok2, sm_wt_ok, sm_cp_ok, Option.isSome_some, Option.getD_some, w_cont, Option.toList_some, Option.toList_none, List.cons_append, List.nil_append, kk_80 H, n1, n2, hA, hB]
  rcases hty with ⟨h0, hl, hv, rfl⟩ | ⟨h0, hl, rfl⟩ | ⟨h0, hv, ⟨r, rfl⟩, rfl⟩ | ⟨h0, ⟨r, rfl⟩, rfl⟩ | ⟨b, r, c, rfl, rfl, h0⟩
  · have ev : evS F (A i) (B i) st = B i :: st := by unfold evS; rw [if_pos (by omega), if_pos h0]
    refine ⟨sm_u Z 87 st.length (B i), some (.inl (A i)), some (.inl (B i)), ?_, fun a ha => sm_u_row ha, ?_, ?_⟩
    · rw [ev]; exact stk_put hst
    · rw [ev, List.length_cons]; omega
    · intro Q
      rw [head, if_neg (by omega), b159_63, kk_79 H, rr_79_10 H, wr_id hs'.1 hs'.2, if_pos h0, b159_74, b159_86]
      simp (disch := omega) only [wr_id, wr_b2i, wr_wr, b2i_eq0, b2i_eq1, b2i_01, sm_rem_eq, sm_div_eq, wl_m2, wl_m1, wl_0, wl_1, wl_2, wl_3, wl_4, wl_5, wl_6, wl_7, wl_8, wl_9, wl_10, wl_12, wl_13, wl_14, wl_16, wl_20, wl_21, wl_22, wl_23, wl_32, wl_36, wl_40, wl_41, wl_42, wl_43, wl_44, wl_45, wl_46, wl_47, wl_48, wl_57, wl_59, wl_60, wl_61, wl_62, wl_65, wl_90, wl_97, wl_99, wl_100, wl_121, wl_122, wl_140, wl_142, wl_143, wl_145, wl_147, wl_160, wl_161, wl_162, wl_242, wl_380, wl_400, wl_420, wl_820, wl_1340, wl_5480, wl_9999, true_and, and_true, true_or, or_true, if_true, if_false, and_self, or_self, false_and, and_false, false_or, or_false, not_true_eq_false, not_false_eq_true, Int.reduceEq, Int.reduceLT, Int.reduceLE, Int.reduceToNat, Int.reduceAdd, Int.reduceMul, Int.reduceSub, Int.reduceMod, Int.reduceDiv, Int.reduceNeg, Nat.reduceEqDiff, sm_rd_ok, sm_rd_ok2, sm_wt_ok, sm_cp_ok, Option.isSome_some, Option.getD_some, w_cont, Option.toList_some, Option.toList_none, List.cons_append, List.nil_append, kk_87 H]
      rw [b159_180, ev, List.length_cons]
      simp only [Int.toNat_natCast]
      rfl
  · have ev : evS F (A i) (B i) st = F (A i) :: st := by unfold evS; rw [if_pos (by omega), if_neg (by omega)]
    refine ⟨sm_u Z 87 st.length (F (A i)), some (.inl (A i)), some (.inl (B i)), ?_, fun a ha => sm_u_row ha, ?_, ?_⟩
    · rw [ev]; exact stk_put hst
    · rw [ev, List.length_cons]; omega
    · intro Q
      rw [head, if_neg (by omega), b159_63, kk_79 H, rr_79_10 H, wr_id hs'.1 hs'.2, if_neg (by omega), b159_79, kk_79 H, rr_79_11 H, wr_id hs'.1 hs'.2]
      simp (disch := omega) only [wr_id, wr_b2i, wr_wr, b2i_eq0, b2i_eq1, b2i_01, sm_rem_eq, sm_div_eq, wl_m2, wl_m1, wl_0, wl_1, wl_2, wl_3, wl_4, wl_5, wl_6, wl_7, wl_8, wl_9, wl_10, wl_12, wl_13, wl_14, wl_16, wl_20, wl_21, wl_22, wl_23, wl_32, wl_36, wl_40, wl_41, wl_42, wl_43, wl_44, wl_45, wl_46, wl_47, wl_48, wl_57, wl_59, wl_60, wl_61, wl_62, wl_65, wl_90, wl_97, wl_99, wl_100, wl_121, wl_122, wl_140, wl_142, wl_143, wl_145, wl_147, wl_160, wl_161, wl_162, wl_242, wl_380, wl_400, wl_420, wl_820, wl_1340, wl_5480, wl_9999, true_and, and_true, true_or, or_true, if_true, if_false, and_self, or_self, false_and, and_false, false_or, or_false, not_true_eq_false, not_false_eq_true, Int.reduceEq, Int.reduceLT, Int.reduceLE, Int.reduceToNat, Int.reduceAdd, Int.reduceMul, Int.reduceSub, Int.reduceMod, Int.reduceDiv, Int.reduceNeg, Nat.reduceEqDiff, sm_rd_ok, sm_rd_ok2, sm_wt_ok, sm_cp_ok, Option.isSome_some, Option.getD_some, w_cont, Option.toList_some, Option.toList_none, List.cons_append, List.nil_append, kk_88 H]
      rw [hF _ h0.1 h0.2, b159_86]
      simp (disch := omega) only [wr_id, wr_b2i, wr_wr, b2i_eq0, b2i_eq1, b2i_01, sm_rem_eq, sm_div_eq, wl_m2, wl_m1, wl_0, wl_1, wl_2, wl_3, wl_4, wl_5, wl_6, wl_7, wl_8, wl_9, wl_10, wl_12, wl_13, wl_14, wl_16, wl_20, wl_21, wl_22, wl_23, wl_32, wl_36, wl_40, wl_41, wl_42, wl_43, wl_44, wl_45, wl_46, wl_47, wl_48, wl_57, wl_59, wl_60, wl_61, wl_62, wl_65, wl_90, wl_97, wl_99, wl_100, wl_121, wl_122, wl_140, wl_142, wl_143, wl_145, wl_147, wl_160, wl_161, wl_162, wl_242, wl_380, wl_400, wl_420, wl_820, wl_1340, wl_5480, wl_9999, true_and, and_true, true_or, or_true, if_true, if_false, and_self, or_self, false_and, and_false, false_or, or_false, not_true_eq_false, not_false_eq_true, Int.reduceEq, Int.reduceLT, Int.reduceLE, Int.reduceToNat, Int.reduceAdd, Int.reduceMul, Int.reduceSub, Int.reduceMod, Int.reduceDiv, Int.reduceNeg, Nat.reduceEqDiff, sm_rd_ok, sm_rd_ok2, sm_wt_ok, sm_cp_ok, Option.isSome_some, Option.getD_some, w_cont, Option.toList_some, Option.toList_none, List.cons_append, List.nil_append, kk_87 H]
      rw [b159_180, ev, List.length_cons]
      simp only [Int.toNat_natCast]
      rfl
  · obtain ⟨a, r', rfl, h1, h2⟩ := tyO_cons ho
    have ev : evS F (A i) (B i) (a :: r') = sm_div a (B i) :: r' := by unfold evS; rw [if_neg (by omega), if_pos h0]
    have hz : Z 87 r'.length = a := hst.1
    simp only [List.length_cons] at head hle ⊢
    have n3 : (((r'.length + 1 : Nat) : Int) - 1) = (r'.length : Int) := by omega
    refine ⟨sm_u Z 87 r'.length (sm_div a (B i)), some (.inl (A i)), some (.inl (B i)), ?_, fun a ha => sm_u_row ha, ?_, ?_⟩
    · rw [ev]; exact stk_put hst.2
    · rw [ev, List.length_cons]; omega
    · intro Q
      rw [head, if_pos (by omega), b159_93, wr_id hs'.1 hs'.2, if_pos h0, b159_100, kk_79 H, rr_79_10 H, n3]
      simp (disch := omega) only [wr_id, wr_b2i, wr_wr, b2i_eq0, b2i_eq1, b2i_01, sm_rem_eq, sm_div_eq, wl_m2, wl_m1, wl_0, wl_1, wl_2, wl_3, wl_4, wl_5, wl_6, wl_7, wl_8, wl_9, wl_10, wl_12, wl_13, wl_14, wl_16, wl_20, wl_21, wl_22, wl_23, wl_32, wl_36, wl_40, wl_41, wl_42, wl_43, wl_44, wl_45, wl_46, wl_47, wl_48, wl_57, wl_59, wl_60, wl_61, wl_62, wl_65, wl_90, wl_97, wl_99, wl_100, wl_121, wl_122, wl_140, wl_142, wl_143, wl_145, wl_147, wl_160, wl_161, wl_162, wl_242, wl_380, wl_400, wl_420, wl_820, wl_1340, wl_5480, wl_9999, true_and, and_true, true_or, or_true, if_true, if_false, and_self, or_self, false_and, and_false, false_or, or_false, not_true_eq_false, not_false_eq_true, Int.reduceEq, Int.reduceLT, Int.reduceLE, Int.reduceToNat, Int.reduceAdd, Int.reduceMul, Int.reduceSub, Int.reduceMod, Int.reduceDiv, Int.reduceNeg, Nat.reduceEqDiff, sm_rd_ok, sm_rd_ok2, sm_wt_ok, sm_cp_ok, Option.isSome_some, Option.getD_some, w_cont, Option.toList_some, Option.toList_none, List.cons_append, List.nil_append, kk_87 H, Int.toNat_natCast, hz]
      rw [b159_180, ev, List.length_cons, eq_true (show ¬ B i = 0 by omega)]
      simp only [true_and]
      rfl
  · obtain ⟨a, r', rfl, h1, h2⟩ := tyO_cons ho
    have ev : evS F (A i) (B i) (a :: r') = (1 - a) :: r' := by unfold evS; rw [if_neg (by omega), if_neg (by omega), if_pos h0]
    have hz : Z 87 r'.length = a := hst.1
    simp only [List.length_cons] at head hle ⊢
    have n3 : (((r'.length + 1 : Nat) : Int) - 1) = (r'.length : Int) := by omega
    refine ⟨sm_u Z 87 r'.length (1 - a), some (.inl (A i)), some (.inl (B i)), ?_, fun a ha => sm_u_row ha, ?_, ?_⟩
    · rw [ev]; exact stk_put hst.2
    · rw [ev, List.length_cons]; omega
    · intro Q
      rw [head, if_pos (by omega), b159_93, wr_id hs'.1 hs'.2, if_neg (by omega), b159_117, wr_id hs'.1 hs'.2, if_pos h0, b159_124, kk_79 H, rr_79_10 H, n3]
      simp (disch := omega) only [wr_id, wr_b2i, wr_wr, b2i_eq0, b2i_eq1, b2i_01, sm_rem_eq, sm_div_eq, wl_m2, wl_m1, wl_0, wl_1, wl_2, wl_3, wl_4, wl_5, wl_6, wl_7, wl_8, wl_9, wl_10, wl_12, wl_13, wl_14, wl_16, wl_20, wl_21, wl_22, wl_23, wl_32, wl_36, wl_40, wl_41, wl_42, wl_43, wl_44, wl_45, wl_46, wl_47, wl_48, wl_57, wl_59, wl_60, wl_61, wl_62, wl_65, wl_90, wl_97, wl_99, wl_100, wl_121, wl_122, wl_140, wl_142, wl_143, wl_145, wl_147, wl_160, wl_161, wl_162, wl_242, wl_380, wl_400, wl_420, wl_820, wl_1340, wl_5480, wl_9999, true_and, and_true, true_or, or_true, if_true, if_false, and_self, or_self, false_and, and_false, false_or, or_false, not_true_eq_false, not_false_eq_true, Int.reduceEq, Int.reduceLT, Int.reduceLE, Int.reduceToNat, Int.reduceAdd, Int.reduceMul, Int.reduceSub, Int.reduceMod, Int.reduceDiv, Int.reduceNeg, Nat.reduceEqDiff, sm_rd_ok, sm_rd_ok2, sm_wt_ok, sm_cp_ok, Option.isSome_some, Option.getD_some, w_cont, Option.toList_some, Option.toList_none, List.cons_append, List.nil_append, kk_87 H, Int.toNat_natCast, hz]
      rw [b159_180, ev, List.length_cons]
      rfl
  · obtain ⟨x, r1, rfl, h1, h2⟩ := tyO_cons ho
    obtain ⟨y, r2, rfl, h3, h4⟩ := tyO_cons h2
    have ev : evS F (A i) (B i) (x :: y :: r2) = joS (kiS (A i)) y x :: r2 := by
      unfold evS
      rw [if_neg (by omega), if_neg (by omega), if_neg (by omega)]
    have hz1 : Z 87 (r2.length + 1) = x := hst.1
    have hz2 : Z 87 r2.length = y := hst.2.1
    simp only [List.length_cons] at head hle ⊢
    have n3 : (((r2.length + 1 + 1 : Nat) : Int) + -1 - 1) = (r2.length : Int) := by omega
    have n4 : (((r2.length + 1 + 1 : Nat) : Int) + -1) = ((r2.length + 1 : Nat) : Int) := by omega
    refine ⟨sm_u Z 87 r2.length (joS (kiS (A i)) y x), some (.inl (A i)), some (.inl (B i)), ?_, fun a ha => sm_u_row ha, ?_, ?_⟩
    · rw [ev]; exact stk_put hst.2.2
    · rw [ev, List.length_cons]; omega
    · intro Q
      rw [head, if_pos (by omega), b159_93, wr_id hs'.1 hs'.2, if_neg (by omega), b159_117, wr_id hs'.1 hs'.2, if_neg (by omega), b159_147, kk_79 H, rr_79_10 H, n3, n4]
      simp (disch := omega) only [wr_id, wr_b2i, wr_wr, b2i_eq0, b2i_eq1, b2i_01, sm_rem_eq, sm_div_eq, wl_m2, wl_m1, wl_0, wl_1, wl_2, wl_3, wl_4, wl_5, wl_6, wl_7, wl_8, wl_9, wl_10, wl_12, wl_13, wl_14, wl_16, wl_20, wl_21, wl_22, wl_23, wl_32, wl_36, wl_40, wl_41, wl_42, wl_43, wl_44, wl_45, wl_46, wl_47, wl_48, wl_57, wl_59, wl_60, wl_61, wl_62, wl_65, wl_90, wl_97, wl_99, wl_100, wl_121, wl_122, wl_140, wl_142, wl_143, wl_145, wl_147, wl_160, wl_161, wl_162, wl_242, wl_380, wl_400, wl_420, wl_820, wl_1340, wl_5480, wl_9999, true_and, and_true, true_or, or_true, if_true, if_false, and_self, or_self, false_and, and_false, false_or, or_false, not_true_eq_false, not_false_eq_true, Int.reduceEq, Int.reduceLT, Int.reduceLE, Int.reduceToNat, Int.reduceAdd, Int.reduceMul, Int.reduceSub, Int.reduceMod, Int.reduceDiv, Int.reduceNeg, Nat.reduceEqDiff, sm_rd_ok, sm_rd_ok2, sm_wt_ok, sm_cp_ok, Option.isSome_some, Option.getD_some, w_cont, Option.toList_some, Option.toList_none, List.cons_append, List.nil_append, kk_87 H, Int.toNat_natCast, hz1, hz2]
      rw [m_both (by omega)]
      simp only [wr_id, wr_b2i, wr_wr, b2i_eq0, b2i_eq1, b2i_01, sm_rem_eq, sm_div_eq, wl_m2, wl_m1, wl_0, wl_1, wl_2, wl_3, wl_4, wl_5, wl_6, wl_7, wl_8, wl_9, wl_10, wl_12, wl_13, wl_14, wl_16, wl_20, wl_21, wl_22, wl_23, wl_32, wl_36, wl_40, wl_41, wl_42, wl_43, wl_44, wl_45, wl_46, wl_47, wl_48, wl_57, wl_59, wl_60, wl_61, wl_62, wl_65, wl_90, wl_97, wl_99, wl_100, wl_121, wl_122, wl_140, wl_142, wl_143, wl_145, wl_147, wl_160, wl_161, wl_162, wl_242, wl_380, wl_400, wl_420, wl_820, wl_1340, wl_5480, wl_9999, true_and, and_true, true_or, or_true, if_true, if_false, and_self, or_self, false_and, and_false, false_or, or_false, not_true_eq_false, not_false_eq_true, Int.reduceEq, Int.reduceLT, Int.reduceLE, Int.reduceToNat, Int.reduceAdd, Int.reduceMul, Int.reduceSub, Int.reduceMod, Int.reduceDiv, Int.reduceNeg, Nat.reduceEqDiff, sm_rd_ok, sm_rd_ok2, sm_wt_ok, sm_cp_ok, Option.isSome_some, Option.getD_some, w_cont, Option.toList_some, Option.toList_none, List.cons_append, List.nil_append]
      rw [b159_179]
      simp (disch := omega) only [wr_id, wr_b2i, wr_wr, b2i_eq0, b2i_eq1, b2i_01, sm_rem_eq, sm_div_eq, wl_m2, wl_m1, wl_0, wl_1, wl_2, wl_3, wl_4, wl_5, wl_6, wl_7, wl_8, wl_9, wl_10, wl_12, wl_13, wl_14, wl_16, wl_20, wl_21, wl_22, wl_23, wl_32, wl_36, wl_40, wl_41, wl_42, wl_43, wl_44, wl_45, wl_46, wl_47, wl_48, wl_57, wl_59, wl_60, wl_61, wl_62, wl_65, wl_90, wl_97, wl_99, wl_100, wl_121, wl_122, wl_140, wl_142, wl_143, wl_145, wl_147, wl_160, wl_161, wl_162, wl_242, wl_380, wl_400, wl_420, wl_820, wl_1340, wl_5480, wl_9999, true_and, and_true, true_or, or_true, if_true, if_false, and_self, or_self, false_and, and_false, false_or, or_false, not_true_eq_false, not_false_eq_true, Int.reduceEq, Int.reduceLT, Int.reduceLE, Int.reduceToNat, Int.reduceAdd, Int.reduceMul, Int.reduceSub, Int.reduceMod, Int.reduceDiv, Int.reduceNeg, Nat.reduceEqDiff, sm_rd_ok, sm_rd_ok2, sm_wt_ok, sm_cp_ok, Option.isSome_some, Option.getD_some, w_cont, Option.toList_some, Option.toList_none, List.cons_append, List.nil_append, kk_87 H, Int.toNat_natCast]
      rw [b159_180, ev, List.length_cons]
      rfl
theorem m_ev (H : sm_sh Rf K) {k : Nat} (hk : k < 4) {e : Nat} (he : e ≤ 400) (l2 : Option sm_V) : ∀ (m i : Nat) (t t' : List Bool) (st : List Int) (Z : Nat → Nat → Int) (l6 l7 : Option sm_V), i + m = e → (∀ j, i ≤ j → j < e → Z 80 (2200 + 820 * k + 2 * j) = A j ∧ Z 80 (2201 + 820 * k + 2 * j) = B j) → (∀ s, 1 ≤ s → s ≤ 9 → Z 88 s.toNat = F s) → tyR A B m i t t' → tyO t st → stk (Z 87) st → st.length ≤ 32 → ∃ Z' l6' l7', stk (Z' 87) (evR A B F m i st) ∧ tyO t' (evR A B F m i st) ∧ (∀ a, a ≠ 87 → Z' a = Z a) ∧ ∀ Q, sm_wp (d + 1) 159 6 [some (.inr (some 79)), some (.inl (k : Int)), l2, some (.inl (e : Int)), some (.inl (st.length : Int)), some (.inl (i : Int)), l6, l7] [] (Z, Rf, K, n, z) Q = sm_wp (d + 1) 159 186 [some (.inr (some 79)), some (.inl (k : Int)), l2, some (.inl (e : Int)), some (.inl ((evR A B F m i st).length : Int)), some (.inl (e : Int)), l6', l7'] [] (Z', Rf, K, n, z) Q := by
  intro m
  induction m with
  | zero =>
    intro i t t' st Z l6 l7 hie hAB hF hty ho hst hle
    have hi : i = e := by omega
    subst hi
    refine ⟨Z, l6, l7, hst, ?_, fun a _ => rfl, ?_⟩
    · have : t = t' := hty
      rw [← this]; exact ho
    · intro Q
      rw [b159_6, wr_id (by omega) (by omega), if_pos (by omega)]
      rfl
  | succ m ih =>
    intro i t t' st Z l6 l7 hie hAB hF hty ho hst hle
    obtain ⟨t1, h1, h2⟩ := hty
    obtain ⟨Z1, l6a, l7a, e1, e2, e3, e4⟩ := m_ev1 (d := d) (n := n) (z := z) (A := A) (B := B) (F := F) H (k := k) (i := i) hk (by omega) (e := (e : Int)) (by omega) (by omega) l2 l6 l7 (hAB i (by omega) (by omega)).1 (hAB i (by omega) (by omega)).2 hF h1 ho hst hle
    obtain ⟨Z2, l6b, l7b, f1, f2, f3, f4⟩ := ih (i + 1) t1 t' (evS F (A i) (B i) st) Z1 l6a l7a (by omega) (fun j hj1 hj2 => by rw [e2 80 (by decide)]; exact hAB j (by omega) hj2) (fun s h1 h2 => by rw [e2 88 (by decide)]; exact hF s h1 h2) h2 (tyS_ev h1 ho) e1 e3
    refine ⟨Z2, l6b, l7b, f1, f2, fun a ha => by rw [f3 a ha, e2 a ha], ?_⟩
    intro Q
    rw [e4, f4]
    rfl
theorem m_comesTo (H : sm_sh Rf K) {k : Nat} (hk : k < 4) {i e : Nat} (he : e ≤ 400) (hie : i ≤ e) {Z : Nat → Nat → Int} (hAB : ∀ j, i ≤ j → j < e → Z 80 (2200 + 820 * k + 2 * j) = A j ∧ Z 80 (2201 + 820 * k + 2 * j) = B j) (hF : ∀ s, 1 ≤ s → s ≤ 9 → Z 88 s.toNat = F s) (hty : tyR A B (e - i) i [] [true]) : ∃ Z' v, (∀ a, a ≠ 87 → Z' a = Z a) ∧ (v = 0 ∨ v = 1) ∧ evR A B F (e - i) i [] = [v] ∧ ∀ Q, sm_call (d + 1) 159 [.inr (some 79), .inl (k : Int), .inl (i : Int), .inl (e : Int)] (Z, Rf, K, n, z) Q = Q (some (.inl v)) (Z', Rf, K, n, z) := by
  obtain ⟨Z1, l6a, l7a, e1, e2, e3, e4⟩ := m_ev (d := d) (n := n) (z := z) (A := A) (B := B) (F := F) H hk he (some (.inl (i : Int))) (e - i) i [] [true] [] Z none none (by omega) hAB hF hty trivial trivial (by simp)
  obtain ⟨v, r, hv, hv1, hr⟩ := tyO_cons e2
  have hr0 : r = [] := by cases r with
    | nil => rfl
    | cons a b => exact hr.elim
  subst hr0
  rw [hv] at e1 e4
  refine ⟨Z1, v, e3, hv1 rfl, hv, ?_⟩
  intro Q
  have e5 := e4 Q
  rw [ce159, b159_0]
  refine Eq.trans e5 ?_
  have hz : Z1 87 0 = v := e1.1
  rw [b159_186, kk_79 H, rr_79_10 H]
  simp (disch := omega) only [wr_id, wr_b2i, wr_wr, b2i_eq0, b2i_eq1, b2i_01, sm_rem_eq, sm_div_eq, wl_m2, wl_m1, wl_0, wl_1, wl_2, wl_3, wl_4, wl_5, wl_6, wl_7, wl_8, wl_9, wl_10, wl_12, wl_13, wl_14, wl_16, wl_20, wl_21, wl_22, wl_23, wl_32, wl_36, wl_40, wl_41, wl_42, wl_43, wl_44, wl_45, wl_46, wl_47, wl_48, wl_57, wl_59, wl_60, wl_61, wl_62, wl_65, wl_90, wl_97, wl_99, wl_100, wl_121, wl_122, wl_140, wl_142, wl_143, wl_145, wl_147, wl_160, wl_161, wl_162, wl_242, wl_380, wl_400, wl_420, wl_820, wl_1340, wl_5480, wl_9999, true_and, and_true, true_or, or_true, if_true, if_false, and_self, or_self, false_and, and_false, false_or, or_false, not_true_eq_false, not_false_eq_true, Int.reduceEq, Int.reduceLT, Int.reduceLE, Int.reduceToNat, Int.reduceAdd, Int.reduceMul, Int.reduceSub, Int.reduceMod, Int.reduceDiv, Int.reduceNeg, Nat.reduceEqDiff, sm_rd_ok, sm_rd_ok2, sm_wt_ok, sm_cp_ok, Option.isSome_some, Option.getD_some, w_cont, Option.toList_some, Option.toList_none, List.cons_append, List.nil_append, kk_87 H, hz]
end EVAL
