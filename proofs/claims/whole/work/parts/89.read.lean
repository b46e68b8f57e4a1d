/-! The class's reader: what it does with a token. -/
theorem shl4 {x : Int} (h : 0 ≤ x ∧ x < 100000) : sm_shl x 4 = 16 * x := by
  have e2 : (((zI 4 &&& 31).toBitVec.smod 32#32)).toNat = 4 := by decide
  have e1 : (zI x <<< (zI 4 &&& 31)).toBitVec = (zI x).toBitVec <<< (((zI 4 &&& 31).toBitVec.smod 32#32)).toNat := rfl
  have h1 : (zI x <<< (zI 4 &&& 31)).toBitVec.toNat = (zI x).toBitVec.toNat * 16 % 2 ^ 32 := by
    rw [e1, e2, BitVec.toNat_shiftLeft, Nat.shiftLeft_eq]
  have h3 := bv_toInt (zI x <<< (zI 4 &&& 31))
  have h4 := bv_cases x
  rw [wr_id (by omega) (by omega)] at h4
  unfold sm_shl
  omega
theorem ord_eq {x k : Int} (h : 0 ≤ x ∧ x < 100000) (hk : 0 ≤ k ∧ k < 16) : sm_or (sm_shl x 4) k = 16 * x + k := by
  rw [shl4 h]
  have h1 := or_nat (16 * x) k
  have h2 := bv_cases (16 * x)
  rw [wr_id (by omega) (by omega)] at h2
  have h3 := bv_cases k
  rw [wr_id (by omega) (by omega)] at h3
  have h4 := bv_toInt (zI (16 * x) ||| zI k)
  have e16 : (zI (16 * x)).toBitVec.toNat = 2 ^ 4 * x.toNat := by omega
  have ek : (zI k).toBitVec.toNat = k.toNat := by omega
  rw [e16, ek, ← Nat.two_pow_add_eq_or_of_lt (i := 4) (by omega)] at h1
  unfold sm_or
  omega
def stg (k : Int) : Int := if k = 3 then 3 else if k = 4 then 6 else if k = 5 ∨ k = 6 then 5 else if k = 7 ∨ k = 8 ∨ k = 9 then 4 else if k = 10 then 2 else if k = 11 then 1 else 0
theorem stg_z {Z : Nat → Nat → Int} (hz : sm_zs Z) {k : Int} (hk : 0 ≤ k ∧ k < 15) : Z 1000004 k.toNat = stg k := by
  rw [hz.1 4 k.toNat (by omega) (by omega)]
  have : ∀ t : Fin 15, (zSl.getD 4 []).getD (t : Nat) 0 = stg ((t : Nat) : Int) := by decide
  have h := this ⟨k.toNat, by omega⟩
  rw [show (((⟨k.toNat, by omega⟩ : Fin 15) : Nat) : Int) = k from (by show ((k.toNat : Nat) : Int) = k; omega)] at h
  exact h
theorem stg_bd (k : Int) : 0 ≤ stg k ∧ stg k ≤ 6 := by
  unfold stg
  repeat' split
  all_goals omega
/-- orders kept back that bind no weaker are carried out -/
def stl (s : Int) : List Int → List Int → Int → List Int × List Int × Int
  | [], rc, op => ([], rc, op)
  | k :: pd, rc, op => if s ≤ stg k then stl s pd (k :: rc) (if k = 3 then op - 1 else op) else (k :: pd, rc, op)
theorem stl_len (s : Int) : ∀ (pd rc : List Int) (op : Int), (stl s pd rc op).1.length + (stl s pd rc op).2.1.length = pd.length + rc.length ∧ (stl s pd rc op).1.length ≤ pd.length := by
  intro pd
  induction pd with
  | nil => intro rc op; simp [stl]
  | cons k pd ih =>
    intro rc op
    simp only [stl]
    split
    · have := ih (k :: rc) (if k = 3 then op - 1 else op)
      rw [List.length_cons] at this ⊢
      omega
    · simp
theorem stl_pd (s : Int) : ∀ (pd rc : List Int) (op : Int), (∀ k ∈ pd, 0 ≤ k ∧ k < 15) → ∀ k ∈ (stl s pd rc op).1, 0 ≤ k ∧ k < 15 := by
  intro pd
  induction pd with
  | nil => intro rc op _ k hk; simp [stl] at hk
  | cons k0 pd ih =>
    intro rc op h k hk
    simp only [stl] at hk
    split at hk
    · exact ih _ _ (fun x hx => h x (List.mem_cons_of_mem _ hx)) k hk
    · exact h k hk
theorem stl_op (s : Int) : ∀ (pd rc : List Int) (op : Int), op - pd.length ≤ (stl s pd rc op).2.2 ∧ (stl s pd rc op).2.2 ≤ op := by
  intro pd
  induction pd with
  | nil => intro rc op; simp [stl]
  | cons k pd ih =>
    intro rc op
    rw [List.length_cons]
    by_cases hs : s ≤ stg k
    · have e : stl s (k :: pd) rc op = stl s pd (k :: rc) (if k = 3 then op - 1 else op) := by simp only [stl]; rw [if_pos hs]
      rw [e]
      have := ih (k :: rc) (if k = 3 then op - 1 else op)
      by_cases hk : k = 3
      · rw [if_pos hk] at this ⊢
        omega
      · rw [if_neg hk] at this ⊢
        omega
    · have e : stl s (k :: pd) rc op = (k :: pd, rc, op) := by simp only [stl]; rw [if_neg hs]
      rw [e]
      show op - ((pd.length + 1 : Nat) : Int) ≤ op ∧ op ≤ op
      omega
/-- code (latest first), orders kept back (latest first), state, lines, turn, open, brackets, right -/
abbrev rdT : Type := List Int × List Int × Int × Int × Int × Int × Int × Int
def jnT (k s : Int) : rdT → rdT
  | (rc, pd, _, ln, tn, op, br, rt) => ((stl (stg k) pd rc op).2.1, k :: (stl (stg k) pd rc op).1, s, ln, tn, (stl (stg k) pd rc op).2.2, br, rt)
def tkLine (t : Int) : rdT → Int × rdT
  | (rc, pd, st, ln, tn, op, br, rt) => if 20 ≤ t ∧ t ≤ 24 then (if ln < 16 then (0, rc, pd, 1, ln + 1, cW (t - 20), op, br, rt) else (3, rc, pd, st, ln, tn, op, br, rt)) else (1, rc, pd, st, ln, tn, op, br, rt)
def tkWhen (t : Int) : rdT → Int × rdT
  | (rc, pd, st, ln, tn, op, br, rt) => if t = 159 then (0, (16 * tn + 12) :: rc, pd, 0, ln, tn, op, br, rt) else if t = 3 then (0, rc, pd, 2, ln, tn, op, br, rt) else (1, rc, pd, st, ln, tn, op, br, rt)
def tkUnit (t v : Int) : rdT → Int × rdT
  | (rc, pd, st, ln, tn, op, br, rt) => if t = 2 then (0, (16 * v + 0) :: rc, pd, 5, ln, tn, op, br, rt) else if 41 ≤ t ∧ t ≤ 49 then (0, (16 * (t - 41) + 1) :: rc, pd, 5, ln, tn, op, br, rt) else (1, rc, pd, st, ln, tn, op, br, rt)
def tkCond (t v : Int) : rdT → Int × rdT
  | (rc, pd, st, ln, tn, op, br, rt) => if t = 6 then (if op < 8 then (0, rc, 3 :: pd, st, ln, tn, op + 1, br, rt) else (3, rc, pd, st, ln, tn, op, br, rt)) else if t = 140 then (if op < 8 then (0, rc, 14 :: pd, st, ln, tn, op + 1, br + 1, rt) else (3, rc, pd, st, ln, tn, op, br, rt)) else tkUnit t v (rc, pd, st, ln, tn, op, br, 0)
def tkDiv (t v : Int) : rdT → Int × rdT
  | (rc, pd, st, ln, tn, op, br, rt) => if t = 2 then (if v = 0 then (2, rc, pd, st, ln, tn, op, br, rt) else (0, (16 * v + 2) :: rc, pd, 5, ln, tn, op, br, rt)) else (1, rc, pd, st, ln, tn, op, br, rt)
def tkAC (t : Int) : rdT → Int × rdT
  | (rc, pd, st, ln, tn, op, br, rt) => if t = 4 then (0, jnT 11 2 (rc, pd, st, ln, tn, op, br, rt)) else if t = 5 then (0, jnT 10 2 (rc, pd, st, ln, tn, op, br, rt)) else if t = 141 ∧ 0 < br then (if (stl 1 pd rc op).1 = [] then (9, rc, pd, st, ln, tn, op, br, rt) else (0, (stl 1 pd rc op).2.1, (stl 1 pd rc op).1.tail, 6, ln, tn, (stl 1 pd rc op).2.2 - 1, br - 1, rt)) else if t = 159 ∧ br = 0 then (0, (16 * tn + 13) :: (stl 1 pd rc op).2.1, (stl 1 pd rc op).1, 0, ln, tn, (stl 1 pd rc op).2.2, br, rt) else (1, rc, pd, st, ln, tn, op, br, rt)
def tkAU (t : Int) : rdT → Int × rdT
  | (rc, pd, st, ln, tn, op, br, rt) => if t = 142 then (0, jnT 4 3 (rc, pd, st, ln, tn, op, br, rt)) else if t = 147 then (0, (stl 6 pd rc op).2.1, (stl 6 pd rc op).1, 4, ln, tn, (stl 6 pd rc op).2.2, br, rt) else if t = 143 then (0, jnT 5 3 (rc, pd, st, ln, tn, op, br, rt)) else if t = 145 then (0, jnT 6 3 (rc, pd, st, ln, tn, op, br, rt)) else if 160 ≤ t ∧ t ≤ 162 then (if rt = 0 then (0, jnT (t - 153) 3 (rc, pd, st, ln, tn, op, br, 1)) else (1, rc, pd, st, ln, tn, op, br, rt)) else if rt = 0 then (1, rc, pd, st, ln, tn, op, br, rt) else tkAC t (rc, pd, st, ln, tn, op, br, rt)
def rdS (t v : Int) : rdT → Int × rdT
  | (rc, pd, st, ln, tn, op, br, rt) => if rc.length + pd.length < 400 ∧ pd.length < 40 then (if st = 0 then tkLine t (rc, pd, st, ln, tn, op, br, rt) else if st = 1 then tkWhen t (rc, pd, st, ln, tn, op, br, rt) else if st = 2 then tkCond t v (rc, pd, st, ln, tn, op, br, rt) else if st = 3 then tkUnit t v (rc, pd, st, ln, tn, op, br, rt) else if st = 4 then tkDiv t v (rc, pd, st, ln, tn, op, br, rt) else if st = 5 then tkAU t (rc, pd, st, ln, tn, op, br, rt) else tkAC t (rc, pd, st, ln, tn, op, br, rt)) else (9, rc, pd, st, ln, tn, op, br, rt)
/-- what the reader has -/
def rRd (Z : Nat → Nat → Int) : rdT → Prop
  | (rc, pd, st, ln, tn, op, br, rt) => (Z 74 3 = (rc.length : Int) ∧ stk (Z 75) rc) ∧ (Z 74 5 = (pd.length : Int) ∧ stk (Z 76) pd) ∧ Z 74 6 = st ∧ Z 74 7 = ln ∧ Z 74 8 = tn ∧ Z 74 9 = op ∧ Z 74 10 = br ∧ Z 74 11 = rt
def frR (Z Z' : Nat → Nat → Int) : Prop := (∀ a, a ≠ 74 → a ≠ 75 → a ≠ 76 → Z' a = Z a) ∧ ∀ j, (j = 0 ∨ j = 1 ∨ 12 ≤ j) → Z' 74 j = Z 74 j
theorem frR_refl (Z : Nat → Nat → Int) : frR Z Z := ⟨fun _ _ _ _ => rfl, fun _ _ => rfl⟩
theorem frR_trans {Z Z' Z'' : Nat → Nat → Int} (h1 : frR Z Z') (h2 : frR Z' Z'') : frR Z Z'' := ⟨fun a q1 q2 q3 => by rw [h2.1 a q1 q2 q3, h1.1 a q1 q2 q3], fun j hj => by rw [h2.2 j hj, h1.2 j hj]⟩
theorem frR_u {Z : Nat → Nat → Int} {j : Nat} {v : Int} (hj : 2 ≤ j ∧ j < 12) : frR Z (sm_u Z 74 j v) := ⟨fun a q1 _ _ => sm_u_row q1, fun i hi => by rw [sm_u_eq, if_neg (by omega)]⟩
theorem zs_frR {Z Z' : Nat → Nat → Int} (h : frR Z Z') (hz : sm_zs Z) : sm_zs Z' := zs_fr hz (fun a ha => h.1 a (by omega) (by omega) (by omega))
section READ
variable {d n z : Nat} {Rf : Nat → Nat → Option Nat} {K : Nat → Nat × Nat} {Z : Nat → Nat → Int} {rc pd : List Int} {st ln tn op br rt : Int}
theorem c_emit (H : sm_sh Rf K) (hr : rRd Z (rc, pd, st, ln, tn, op, br, rt)) (hl : rc.length < 400) {x k : Int} (hx : 0 ≤ x ∧ x < 100000) (hk : 0 ≤ k ∧ k < 16) : ∃ Z', rRd Z' ((16 * x + k) :: rc, pd, st, ln, tn, op, br, rt) ∧ frR Z Z' ∧ ∀ Q, sm_call d 50 [.inr (some 74), .inl k, .inl x] (Z, Rf, K, n, z) Q = Q none (Z', Rf, K, n, z) := by
  obtain ⟨⟨r1, r2⟩, ⟨r3, r4⟩, r5⟩ := hr
  refine ⟨sm_u (sm_u Z 75 rc.length (16 * x + k)) 74 3 ((rc.length : Int) + 1), ⟨⟨?_, ?_⟩, ⟨?_, ?_⟩, ?_⟩, ⟨fun a q1 q2 _ => by rw [sm_u_row q1, sm_u_row q2], fun j hj => by rw [sm_u_eq, if_neg (by omega), sm_u_ne (by decide)]⟩, fun Q => ?_⟩
  · rw [sm_u_self, List.length_cons]
    omega
  · rw [sm_u_row (by decide)]
    exact stk_put r2
  · rw [sm_u_eq, if_neg (by decide), sm_u_ne (by decide)]
    exact r3
  · rw [sm_u_row (by decide), sm_u_row (by decide)]
    exact r4
  · rw [sm_u_eq, if_neg (by decide), sm_u_ne (by decide), sm_u_eq, if_neg (by decide), sm_u_ne (by decide), sm_u_eq, if_neg (by decide), sm_u_ne (by decide), sm_u_eq, if_neg (by decide), sm_u_ne (by decide), sm_u_eq, if_neg (by decide), sm_u_ne (by decide), sm_u_eq, if_neg (by decide), sm_u_ne (by decide)]
    exact r5
  · rw [ce50, b50_0, kk_74 H, rr_74_2 H, r1]
    simp only [wr_id, wr_b2i, wr_wr, b2i_eq0, b2i_eq1, b2i_01, sm_rem_eq, sm_div_eq, wl_m2, wl_m1, wl_0, wl_1, wl_2, wl_3, wl_4, wl_5, wl_6, wl_7, wl_8, wl_9, wl_10, wl_12, wl_13, wl_14, wl_16, wl_20, wl_21, wl_22, wl_23, wl_32, wl_36, wl_40, wl_41, wl_42, wl_43, wl_44, wl_45, wl_46, wl_47, wl_48, wl_57, wl_59, wl_60, wl_61, wl_62, wl_65, wl_90, wl_97, wl_99, wl_100, wl_121, wl_122, wl_140, wl_142, wl_143, wl_145, wl_147, wl_160, wl_161, wl_162, wl_242, wl_380, wl_400, wl_420, wl_820, wl_1340, wl_5480, wl_9999, true_and, and_true, true_or, or_true, if_true, if_false, and_self, or_self, false_and, and_false, false_or, or_false, not_true_eq_false, not_false_eq_true, Int.reduceEq, Int.reduceLT, Int.reduceLE, Int.reduceToNat, Int.reduceAdd, Int.reduceMul, Int.reduceSub, Int.reduceMod, Int.reduceDiv, Int.reduceNeg, Nat.reduceEqDiff, sm_rd_ok, sm_rd_ok2, sm_wt_ok, sm_cp_ok, Option.isSome_some, Option.getD_some, w_cont, Option.toList_some, Option.toList_none, List.cons_append, List.nil_append, kk_75 H]
    rw [wr_id (by omega) (by omega), wr_id (by omega) (by omega), if_neg (by omega), b50_12, kk_74 H, rr_74_2 H, r1]
    simp (disch := omega) only [wr_id, wr_b2i, wr_wr, b2i_eq0, b2i_eq1, b2i_01, sm_rem_eq, sm_div_eq, wl_m2, wl_m1, wl_0, wl_1, wl_2, wl_3, wl_4, wl_5, wl_6, wl_7, wl_8, wl_9, wl_10, wl_12, wl_13, wl_14, wl_16, wl_20, wl_21, wl_22, wl_23, wl_32, wl_36, wl_40, wl_41, wl_42, wl_43, wl_44, wl_45, wl_46, wl_47, wl_48, wl_57, wl_59, wl_60, wl_61, wl_62, wl_65, wl_90, wl_97, wl_99, wl_100, wl_121, wl_122, wl_140, wl_142, wl_143, wl_145, wl_147, wl_160, wl_161, wl_162, wl_242, wl_380, wl_400, wl_420, wl_820, wl_1340, wl_5480, wl_9999, true_and, and_true, true_or, or_true, if_true, if_false, and_self, or_self, false_and, and_false, false_or, or_false, not_true_eq_false, not_false_eq_true, Int.reduceEq, Int.reduceLT, Int.reduceLE, Int.reduceToNat, Int.reduceAdd, Int.reduceMul, Int.reduceSub, Int.reduceMod, Int.reduceDiv, Int.reduceNeg, Nat.reduceEqDiff, sm_rd_ok, sm_rd_ok2, sm_wt_ok, sm_cp_ok, Option.isSome_some, Option.getD_some, w_cont, Option.toList_some, Option.toList_none, List.cons_append, List.nil_append, kk_75 H, Int.toNat_natCast]
    rw [ord_eq hx hk, sm_u_ne (by decide), r1, b50_36]
theorem c_hold (H : sm_sh Rf K) (hr : rRd Z (rc, pd, st, ln, tn, op, br, rt)) (hl : pd.length < 40) {k : Int} : ∃ Z', rRd Z' (rc, k :: pd, st, ln, tn, op, br, rt) ∧ frR Z Z' ∧ ∀ Q, sm_call d 49 [.inr (some 74), .inl k] (Z, Rf, K, n, z) Q = Q none (Z', Rf, K, n, z) := by
  obtain ⟨⟨r1, r2⟩, ⟨r3, r4⟩, r5⟩ := hr
  refine ⟨sm_u (sm_u Z 76 pd.length k) 74 5 ((pd.length : Int) + 1), ⟨⟨?_, ?_⟩, ⟨?_, ?_⟩, ?_⟩, ⟨fun a q1 _ q2 => by rw [sm_u_row q1, sm_u_row q2], fun j hj => by rw [sm_u_eq, if_neg (by omega), sm_u_ne (by decide)]⟩, fun Q => ?_⟩
  · rw [sm_u_eq, if_neg (by decide), sm_u_ne (by decide)]
    exact r1
  · rw [sm_u_row (by decide), sm_u_row (by decide)]
    exact r2
  · rw [sm_u_self, List.length_cons]
    omega
  · rw [sm_u_row (by decide)]
    exact stk_put r4
  · rw [sm_u_eq, if_neg (by decide), sm_u_ne (by decide), sm_u_eq, if_neg (by decide), sm_u_ne (by decide), sm_u_eq, if_neg (by decide), sm_u_ne (by decide), sm_u_eq, if_neg (by decide), sm_u_ne (by decide), sm_u_eq, if_neg (by decide), sm_u_ne (by decide), sm_u_eq, if_neg (by decide), sm_u_ne (by decide)]
    exact r5
  · rw [ce49, b49_0, kk_74 H, r3]
    simp only [wr_id, wr_b2i, wr_wr, b2i_eq0, b2i_eq1, b2i_01, sm_rem_eq, sm_div_eq, wl_m2, wl_m1, wl_0, wl_1, wl_2, wl_3, wl_4, wl_5, wl_6, wl_7, wl_8, wl_9, wl_10, wl_12, wl_13, wl_14, wl_16, wl_20, wl_21, wl_22, wl_23, wl_32, wl_36, wl_40, wl_41, wl_42, wl_43, wl_44, wl_45, wl_46, wl_47, wl_48, wl_57, wl_59, wl_60, wl_61, wl_62, wl_65, wl_90, wl_97, wl_99, wl_100, wl_121, wl_122, wl_140, wl_142, wl_143, wl_145, wl_147, wl_160, wl_161, wl_162, wl_242, wl_380, wl_400, wl_420, wl_820, wl_1340, wl_5480, wl_9999, true_and, and_true, true_or, or_true, if_true, if_false, and_self, or_self, false_and, and_false, false_or, or_false, not_true_eq_false, not_false_eq_true, Int.reduceEq, Int.reduceLT, Int.reduceLE, Int.reduceToNat, Int.reduceAdd, Int.reduceMul, Int.reduceSub, Int.reduceMod, Int.reduceDiv, Int.reduceNeg, Nat.reduceEqDiff, sm_rd_ok, sm_rd_ok2, sm_wt_ok, sm_cp_ok, Option.isSome_some, Option.getD_some, w_cont, Option.toList_some, Option.toList_none, List.cons_append, List.nil_append]
    rw [wr_id (by omega) (by omega), if_neg (by omega), b49_9, kk_74 H, rr_74_4 H, r3]
    simp (disch := omega) only [wr_id, wr_b2i, wr_wr, b2i_eq0, b2i_eq1, b2i_01, sm_rem_eq, sm_div_eq, wl_m2, wl_m1, wl_0, wl_1, wl_2, wl_3, wl_4, wl_5, wl_6, wl_7, wl_8, wl_9, wl_10, wl_12, wl_13, wl_14, wl_16, wl_20, wl_21, wl_22, wl_23, wl_32, wl_36, wl_40, wl_41, wl_42, wl_43, wl_44, wl_45, wl_46, wl_47, wl_48, wl_57, wl_59, wl_60, wl_61, wl_62, wl_65, wl_90, wl_97, wl_99, wl_100, wl_121, wl_122, wl_140, wl_142, wl_143, wl_145, wl_147, wl_160, wl_161, wl_162, wl_242, wl_380, wl_400, wl_420, wl_820, wl_1340, wl_5480, wl_9999, true_and, and_true, true_or, or_true, if_true, if_false, and_self, or_self, false_and, and_false, false_or, or_false, not_true_eq_false, not_false_eq_true, Int.reduceEq, Int.reduceLT, Int.reduceLE, Int.reduceToNat, Int.reduceAdd, Int.reduceMul, Int.reduceSub, Int.reduceMod, Int.reduceDiv, Int.reduceNeg, Nat.reduceEqDiff, sm_rd_ok, sm_rd_ok2, sm_wt_ok, sm_cp_ok, Option.isSome_some, Option.getD_some, w_cont, Option.toList_some, Option.toList_none, List.cons_append, List.nil_append, kk_76 H, Int.toNat_natCast]
    rw [sm_u_ne (by decide), r3, b49_29]
theorem c_settle_loop (H : sm_sh Rf K) {s : Int} (hs : 0 ≤ s ∧ s ≤ 6) : ∀ (pd rc : List Int) (op : Int) (Z : Nat → Nat → Int) (l2 : Option sm_V), sm_zs Z → rRd Z (rc, pd, st, ln, tn, op, br, rt) → rc.length + pd.length ≤ 400 → pd.length ≤ 40 → (∀ k ∈ pd, 0 ≤ k ∧ k < 15) → ∃ Z', rRd Z' ((stl s pd rc op).2.1, (stl s pd rc op).1, st, ln, tn, (stl s pd rc op).2.2, br, rt) ∧ frR Z Z' ∧ ∀ Q, sm_wp (d + 1) 48 0 [some (.inr (some 74)), some (.inl s), l2] [] (Z, Rf, K, n, z) Q = Q none (Z', Rf, K, n, z) := by
  intro pd
  induction pd with
  | nil =>
    intro rc op Z l2 hz hr hl hp hk
    refine ⟨Z, hr, frR_refl Z, fun Q => ?_⟩
    have r3 : Z 74 5 = 0 := hr.2.1.1
    rw [b48_0, kk_74 H, r3]
    simp only [wr_id, wr_b2i, wr_wr, b2i_eq0, b2i_eq1, b2i_01, sm_rem_eq, sm_div_eq, wl_m2, wl_m1, wl_0, wl_1, wl_2, wl_3, wl_4, wl_5, wl_6, wl_7, wl_8, wl_9, wl_10, wl_12, wl_13, wl_14, wl_16, wl_20, wl_21, wl_22, wl_23, wl_32, wl_36, wl_40, wl_41, wl_42, wl_43, wl_44, wl_45, wl_46, wl_47, wl_48, wl_57, wl_59, wl_60, wl_61, wl_62, wl_65, wl_90, wl_97, wl_99, wl_100, wl_121, wl_122, wl_140, wl_142, wl_143, wl_145, wl_147, wl_160, wl_161, wl_162, wl_242, wl_380, wl_400, wl_420, wl_820, wl_1340, wl_5480, wl_9999, true_and, and_true, true_or, or_true, if_true, if_false, and_self, or_self, false_and, and_false, false_or, or_false, not_true_eq_false, not_false_eq_true, Int.reduceEq, Int.reduceLT, Int.reduceLE, Int.reduceToNat, Int.reduceAdd, Int.reduceMul, Int.reduceSub, Int.reduceMod, Int.reduceDiv, Int.reduceNeg, Nat.reduceEqDiff, sm_rd_ok, sm_rd_ok2, sm_wt_ok, sm_cp_ok, Option.isSome_some, Option.getD_some, w_cont, Option.toList_some, Option.toList_none, List.cons_append, List.nil_append]
    rw [b48_70]
  | cons k pd ih =>
    intro rc op Z l2 hz hr hl hp hk
    rw [List.length_cons] at hl hp
    have hk0 := hk k List.mem_cons_self
    have hsb := stg_bd k
    have r3 : Z 74 5 = (((k :: pd).length : Nat) : Int) := hr.2.1.1
    rw [List.length_cons] at r3
    have r4 : Z 76 pd.length = k := hr.2.1.2.1
    have head : ∀ Q, sm_wp (d + 1) 48 0 [some (.inr (some 74)), some (.inl s), l2] [] (Z, Rf, K, n, z) Q = if s ≤ stg k then sm_wp (d + 1) 48 26 [some (.inr (some 74)), some (.inl s), l2] [] (Z, Rf, K, n, z) Q else Q none (Z, Rf, K, n, z) := by
      intro Q
      rw [b48_0, kk_74 H, r3]
      simp only [wr_id, wr_b2i, wr_wr, b2i_eq0, b2i_eq1, b2i_01, sm_rem_eq, sm_div_eq, wl_m2, wl_m1, wl_0, wl_1, wl_2, wl_3, wl_4, wl_5, wl_6, wl_7, wl_8, wl_9, wl_10, wl_12, wl_13, wl_14, wl_16, wl_20, wl_21, wl_22, wl_23, wl_32, wl_36, wl_40, wl_41, wl_42, wl_43, wl_44, wl_45, wl_46, wl_47, wl_48, wl_57, wl_59, wl_60, wl_61, wl_62, wl_65, wl_90, wl_97, wl_99, wl_100, wl_121, wl_122, wl_140, wl_142, wl_143, wl_145, wl_147, wl_160, wl_161, wl_162, wl_242, wl_380, wl_400, wl_420, wl_820, wl_1340, wl_5480, wl_9999, true_and, and_true, true_or, or_true, if_true, if_false, and_self, or_self, false_and, and_false, false_or, or_false, not_true_eq_false, not_false_eq_true, Int.reduceEq, Int.reduceLT, Int.reduceLE, Int.reduceToNat, Int.reduceAdd, Int.reduceMul, Int.reduceSub, Int.reduceMod, Int.reduceDiv, Int.reduceNeg, Nat.reduceEqDiff, sm_rd_ok, sm_rd_ok2, sm_wt_ok, sm_cp_ok, Option.isSome_some, Option.getD_some, w_cont, Option.toList_some, Option.toList_none, List.cons_append, List.nil_append]
      rw [wr_id (by omega) (by omega), if_neg (by omega), b48_7, kk_74 H, rr_74_4 H, r3, show ((pd.length + 1 : Nat) : Int) - 1 = (pd.length : Int) by omega]
      simp (disch := omega) only [wr_id, wr_b2i, wr_wr, b2i_eq0, b2i_eq1, b2i_01, sm_rem_eq, sm_div_eq, wl_m2, wl_m1, wl_0, wl_1, wl_2, wl_3, wl_4, wl_5, wl_6, wl_7, wl_8, wl_9, wl_10, wl_12, wl_13, wl_14, wl_16, wl_20, wl_21, wl_22, wl_23, wl_32, wl_36, wl_40, wl_41, wl_42, wl_43, wl_44, wl_45, wl_46, wl_47, wl_48, wl_57, wl_59, wl_60, wl_61, wl_62, wl_65, wl_90, wl_97, wl_99, wl_100, wl_121, wl_122, wl_140, wl_142, wl_143, wl_145, wl_147, wl_160, wl_161, wl_162, wl_242, wl_380, wl_400, wl_420, wl_820, wl_1340, wl_5480, wl_9999, true_and, and_true, true_or, or_true, if_true, if_false, and_self, or_self, false_and, and_false, false_or, or_false, not_true_eq_false, not_false_eq_true, Int.reduceEq, Int.reduceLT, Int.reduceLE, Int.reduceToNat, Int.reduceAdd, Int.reduceMul, Int.reduceSub, Int.reduceMod, Int.reduceDiv, Int.reduceNeg, Nat.reduceEqDiff, sm_rd_ok, sm_rd_ok2, sm_wt_ok, sm_cp_ok, Option.isSome_some, Option.getD_some, w_cont, Option.toList_some, Option.toList_none, List.cons_append, List.nil_append, kk_76 H, Int.toNat_natCast, r4, ks_4 H]
      rw [stg_z hz hk0, wr_id (by omega) (by omega)]
      by_cases hq : s ≤ stg k
      · rw [if_neg (by omega), if_pos hq]
      · rw [if_pos (by omega), if_neg hq, b48_70]
    simp only [stl]
    by_cases hq : s ≤ stg k
    · rw [if_pos hq]
      have hr1 : rRd (sm_u Z 74 5 (pd.length : Int)) (rc, pd, st, ln, tn, op, br, rt) := by
        obtain ⟨⟨q1, q2⟩, ⟨q3, q4⟩, q5⟩ := hr
        refine ⟨⟨?_, ?_⟩, ⟨?_, ?_⟩, ?_⟩
        · rw [sm_u_eq, if_neg (by decide)]; exact q1
        · rw [sm_u_row (by decide)]; exact q2
        · rw [sm_u_self]
        · rw [sm_u_row (by decide)]; exact q4.2
        · rw [sm_u_eq, if_neg (by decide), sm_u_eq, if_neg (by decide), sm_u_eq, if_neg (by decide), sm_u_eq, if_neg (by decide), sm_u_eq, if_neg (by decide), sm_u_eq, if_neg (by decide)]
          exact q5
      obtain ⟨Z1, e1, e2, e3⟩ := c_emit (d := d) (n := n) (z := z) H hr1 (by omega) (x := 0) (k := k) (by omega) (by omega)
      have e0 : (16 * 0 + k : Int) = k := by omega
      rw [e0] at e1
      have f1 : frR Z Z1 := frR_trans (frR_u (by omega)) e2
      have r9 : Z1 74 9 = op := e1.2.2.2.2.2.1
      have body : ∀ Q, sm_wp (d + 1) 48 26 [some (.inr (some 74)), some (.inl s), l2] [] (Z, Rf, K, n, z) Q = sm_wp (d + 1) 48 52 [some (.inr (some 74)), some (.inl s), some (.inl k)] [] (Z1, Rf, K, n, z) Q := by
        intro Q
        rw [b48_26, kk_74 H, rr_74_4 H, r3, show ((pd.length + 1 : Nat) : Int) - 1 = (pd.length : Int) by omega, sm_u_self]
        have r4' : sm_u Z 74 5 (pd.length : Int) 76 pd.length = k := by rw [sm_u_ne (by decide)]; exact r4
        simp (disch := omega) only [wr_id, wr_b2i, wr_wr, b2i_eq0, b2i_eq1, b2i_01, sm_rem_eq, sm_div_eq, wl_m2, wl_m1, wl_0, wl_1, wl_2, wl_3, wl_4, wl_5, wl_6, wl_7, wl_8, wl_9, wl_10, wl_12, wl_13, wl_14, wl_16, wl_20, wl_21, wl_22, wl_23, wl_32, wl_36, wl_40, wl_41, wl_42, wl_43, wl_44, wl_45, wl_46, wl_47, wl_48, wl_57, wl_59, wl_60, wl_61, wl_62, wl_65, wl_90, wl_97, wl_99, wl_100, wl_121, wl_122, wl_140, wl_142, wl_143, wl_145, wl_147, wl_160, wl_161, wl_162, wl_242, wl_380, wl_400, wl_420, wl_820, wl_1340, wl_5480, wl_9999, true_and, and_true, true_or, or_true, if_true, if_false, and_self, or_self, false_and, and_false, false_or, or_false, not_true_eq_false, not_false_eq_true, Int.reduceEq, Int.reduceLT, Int.reduceLE, Int.reduceToNat, Int.reduceAdd, Int.reduceMul, Int.reduceSub, Int.reduceMod, Int.reduceDiv, Int.reduceNeg, Nat.reduceEqDiff, sm_rd_ok, sm_rd_ok2, sm_wt_ok, sm_cp_ok, Option.isSome_some, Option.getD_some, w_cont, Option.toList_some, Option.toList_none, List.cons_append, List.nil_append, kk_76 H, Int.toNat_natCast, r4']
        refine (e3 _).trans ?_
        rw [w_cont]
        simp only [wr_id, wr_b2i, wr_wr, b2i_eq0, b2i_eq1, b2i_01, sm_rem_eq, sm_div_eq, wl_m2, wl_m1, wl_0, wl_1, wl_2, wl_3, wl_4, wl_5, wl_6, wl_7, wl_8, wl_9, wl_10, wl_12, wl_13, wl_14, wl_16, wl_20, wl_21, wl_22, wl_23, wl_32, wl_36, wl_40, wl_41, wl_42, wl_43, wl_44, wl_45, wl_46, wl_47, wl_48, wl_57, wl_59, wl_60, wl_61, wl_62, wl_65, wl_90, wl_97, wl_99, wl_100, wl_121, wl_122, wl_140, wl_142, wl_143, wl_145, wl_147, wl_160, wl_161, wl_162, wl_242, wl_380, wl_400, wl_420, wl_820, wl_1340, wl_5480, wl_9999, true_and, and_true, true_or, or_true, if_true, if_false, and_self, or_self, false_and, and_false, false_or, or_false, not_true_eq_false, not_false_eq_true, Int.reduceEq, Int.reduceLT, Int.reduceLE, Int.reduceToNat, Int.reduceAdd, Int.reduceMul, Int.reduceSub, Int.reduceMod, Int.reduceDiv, Int.reduceNeg, Nat.reduceEqDiff, sm_rd_ok, sm_rd_ok2, sm_wt_ok, sm_cp_ok, Option.isSome_some, Option.getD_some, w_cont, Option.toList_some, Option.toList_none, List.cons_append, List.nil_append]
      by_cases h3 : k = 3
      · rw [if_pos h3]
        have hr2 : rRd (sm_u Z1 74 9 (op - 1)) (k :: rc, pd, st, ln, tn, op - 1, br, rt) := by
          obtain ⟨⟨q1, q2⟩, ⟨q3, q4⟩, q5, q6, q7, q8, q9, q10⟩ := e1
          refine ⟨⟨?_, ?_⟩, ⟨?_, ?_⟩, ?_, ?_, ?_, ?_, ?_, ?_⟩
          · rw [sm_u_eq, if_neg (by decide)]; exact q1
          · rw [sm_u_row (by decide)]; exact q2
          · rw [sm_u_eq, if_neg (by decide)]; exact q3
          · rw [sm_u_row (by decide)]; exact q4
          · rw [sm_u_eq, if_neg (by decide)]; exact q5
          · rw [sm_u_eq, if_neg (by decide)]; exact q6
          · rw [sm_u_eq, if_neg (by decide)]; exact q7
          · rw [sm_u_self]
          · rw [sm_u_eq, if_neg (by decide)]; exact q9
          · rw [sm_u_eq, if_neg (by decide)]; exact q10
        have f2 : frR Z (sm_u Z1 74 9 (op - 1)) := frR_trans f1 (frR_u (by omega))
        obtain ⟨Z2, g1, g2, g3⟩ := ih (k :: rc) (op - 1) _ (some (.inl k)) (zs_frR f2 hz) hr2 (by rw [List.length_cons]; omega) (by omega) (fun x hx => hk x (List.mem_cons_of_mem _ hx))
        refine ⟨Z2, g1, frR_trans f2 g2, fun Q => ?_⟩
        rw [head, if_pos hq, body, b48_52, wr_id (by omega) (by omega), if_pos h3, b48_57, kk_74 H, r9]
        simp only [wr_id, wr_b2i, wr_wr, b2i_eq0, b2i_eq1, b2i_01, sm_rem_eq, sm_div_eq, wl_m2, wl_m1, wl_0, wl_1, wl_2, wl_3, wl_4, wl_5, wl_6, wl_7, wl_8, wl_9, wl_10, wl_12, wl_13, wl_14, wl_16, wl_20, wl_21, wl_22, wl_23, wl_32, wl_36, wl_40, wl_41, wl_42, wl_43, wl_44, wl_45, wl_46, wl_47, wl_48, wl_57, wl_59, wl_60, wl_61, wl_62, wl_65, wl_90, wl_97, wl_99, wl_100, wl_121, wl_122, wl_140, wl_142, wl_143, wl_145, wl_147, wl_160, wl_161, wl_162, wl_242, wl_380, wl_400, wl_420, wl_820, wl_1340, wl_5480, wl_9999, true_and, and_true, true_or, or_true, if_true, if_false, and_self, or_self, false_and, and_false, false_or, or_false, not_true_eq_false, not_false_eq_true, Int.reduceEq, Int.reduceLT, Int.reduceLE, Int.reduceToNat, Int.reduceAdd, Int.reduceMul, Int.reduceSub, Int.reduceMod, Int.reduceDiv, Int.reduceNeg, Nat.reduceEqDiff, sm_rd_ok, sm_rd_ok2, sm_wt_ok, sm_cp_ok, Option.isSome_some, Option.getD_some, w_cont, Option.toList_some, Option.toList_none, List.cons_append, List.nil_append]
        rw [b48_67]
        exact g3 Q
      · rw [if_neg h3]
        obtain ⟨Z2, g1, g2, g3⟩ := ih (k :: rc) op Z1 (some (.inl k)) (zs_frR f1 hz) e1 (by rw [List.length_cons]; omega) (by omega) (fun x hx => hk x (List.mem_cons_of_mem _ hx))
        refine ⟨Z2, g1, frR_trans f1 g2, fun Q => ?_⟩
        rw [head, if_pos hq, body, b48_52, wr_id (by omega) (by omega), if_neg h3, b48_67]
        exact g3 Q
    · rw [if_neg hq]
      refine ⟨Z, hr, frR_refl Z, fun Q => ?_⟩
      rw [head, if_neg hq]
theorem c_settle (H : sm_sh Rf K) (hz : sm_zs Z) {s : Int} (hs : 0 ≤ s ∧ s ≤ 6) (hr : rRd Z (rc, pd, st, ln, tn, op, br, rt)) (hl : rc.length + pd.length ≤ 400) (hp : pd.length ≤ 40) (hk : ∀ k ∈ pd, 0 ≤ k ∧ k < 15) : ∃ Z', rRd Z' ((stl s pd rc op).2.1, (stl s pd rc op).1, st, ln, tn, (stl s pd rc op).2.2, br, rt) ∧ frR Z Z' ∧ ∀ Q, sm_call (d + 1) 48 [.inr (some 74), .inl s] (Z, Rf, K, n, z) Q = Q none (Z', Rf, K, n, z) := by
  obtain ⟨Z', h1, h2, h3⟩ := c_settle_loop (d := d) (n := n) (z := z) (st := st) (ln := ln) (tn := tn) (br := br) (rt := rt) H hs pd rc op Z none hz hr hl hp hk
  exact ⟨Z', h1, h2, fun Q => by rw [ce48]; exact h3 Q⟩
theorem rRd_6 {v : Int} (hr : rRd Z (rc, pd, st, ln, tn, op, br, rt)) : rRd (sm_u Z 74 6 v) (rc, pd, v, ln, tn, op, br, rt) := by
  obtain ⟨⟨q1, q2⟩, ⟨q3, q4⟩, q5, q6, q7, q8, q9, q10⟩ := hr
  refine ⟨⟨?_, ?_⟩, ⟨?_, ?_⟩, ?_, ?_, ?_, ?_, ?_, ?_⟩
  · rw [sm_u_eq, if_neg (by decide)]; exact q1
  · rw [sm_u_row (by decide)]; exact q2
  · rw [sm_u_eq, if_neg (by decide)]; exact q3
  · rw [sm_u_row (by decide)]; exact q4
  · rw [sm_u_self]
  · rw [sm_u_eq, if_neg (by decide)]; exact q6
  · rw [sm_u_eq, if_neg (by decide)]; exact q7
  · rw [sm_u_eq, if_neg (by decide)]; exact q8
  · rw [sm_u_eq, if_neg (by decide)]; exact q9
  · rw [sm_u_eq, if_neg (by decide)]; exact q10
theorem c_join2 (H : sm_sh Rf K) (hz : sm_zs Z) {k s : Int} (hk15 : 0 ≤ k ∧ k < 15) (hr : rRd Z (rc, pd, st, ln, tn, op, br, rt)) (hl : rc.length + pd.length < 400) (hp : pd.length < 40) (hk : ∀ k ∈ pd, 0 ≤ k ∧ k < 15) : ∃ Z', rRd Z' (jnT k s (rc, pd, st, ln, tn, op, br, rt)) ∧ frR Z Z' ∧ ∀ Q, sm_call (d + 2) 47 [.inr (some 74), .inl k, .inl s] (Z, Rf, K, n, z) Q = Q (some (.inl 0)) (Z', Rf, K, n, z) := by
  have hsb := stg_bd k
  obtain ⟨Z1, a1, a2, a3⟩ := c_settle (d := d) (n := n) (z := z) H hz (s := stg k) hsb hr (by omega) (by omega) hk
  have hlen := stl_len (stg k) pd rc op
  obtain ⟨Z2, b1, b2, b3⟩ := c_hold (d := d + 1) (n := n) (z := z) H a1 (by omega) (k := k)
  refine ⟨sm_u Z2 74 6 s, rRd_6 b1, frR_trans a2 (frR_trans b2 (frR_u (by omega))), fun Q => ?_⟩
  rw [ce47, b47_0]
  simp (disch := omega) only [wr_id, wr_b2i, wr_wr, b2i_eq0, b2i_eq1, b2i_01, sm_rem_eq, sm_div_eq, wl_m2, wl_m1, wl_0, wl_1, wl_2, wl_3, wl_4, wl_5, wl_6, wl_7, wl_8, wl_9, wl_10, wl_12, wl_13, wl_14, wl_16, wl_20, wl_21, wl_22, wl_23, wl_32, wl_36, wl_40, wl_41, wl_42, wl_43, wl_44, wl_45, wl_46, wl_47, wl_48, wl_57, wl_59, wl_60, wl_61, wl_62, wl_65, wl_90, wl_97, wl_99, wl_100, wl_121, wl_122, wl_140, wl_142, wl_143, wl_145, wl_147, wl_160, wl_161, wl_162, wl_242, wl_380, wl_400, wl_420, wl_820, wl_1340, wl_5480, wl_9999, true_and, and_true, true_or, or_true, if_true, if_false, and_self, or_self, false_and, and_false, false_or, or_false, not_true_eq_false, not_false_eq_true, Int.reduceEq, Int.reduceLT, Int.reduceLE, Int.reduceToNat, Int.reduceAdd, Int.reduceMul, Int.reduceSub, Int.reduceMod, Int.reduceDiv, Int.reduceNeg, Nat.reduceEqDiff, sm_rd_ok, sm_rd_ok2, sm_wt_ok, sm_cp_ok, Option.isSome_some, Option.getD_some, w_cont, Option.toList_some, Option.toList_none, List.cons_append, List.nil_append, ks_4 H, kk_74 H]
  rw [stg_z hz hk15]
  refine (a3 _).trans ?_
  rw [w_cont]
  simp only [wr_id, wr_b2i, wr_wr, b2i_eq0, b2i_eq1, b2i_01, sm_rem_eq, sm_div_eq, wl_m2, wl_m1, wl_0, wl_1, wl_2, wl_3, wl_4, wl_5, wl_6, wl_7, wl_8, wl_9, wl_10, wl_12, wl_13, wl_14, wl_16, wl_20, wl_21, wl_22, wl_23, wl_32, wl_36, wl_40, wl_41, wl_42, wl_43, wl_44, wl_45, wl_46, wl_47, wl_48, wl_57, wl_59, wl_60, wl_61, wl_62, wl_65, wl_90, wl_97, wl_99, wl_100, wl_121, wl_122, wl_140, wl_142, wl_143, wl_145, wl_147, wl_160, wl_161, wl_162, wl_242, wl_380, wl_400, wl_420, wl_820, wl_1340, wl_5480, wl_9999, true_and, and_true, true_or, or_true, if_true, if_false, and_self, or_self, false_and, and_false, false_or, or_false, not_true_eq_false, not_false_eq_true, Int.reduceEq, Int.reduceLT, Int.reduceLE, Int.reduceToNat, Int.reduceAdd, Int.reduceMul, Int.reduceSub, Int.reduceMod, Int.reduceDiv, Int.reduceNeg, Nat.reduceEqDiff, sm_rd_ok, sm_rd_ok2, sm_wt_ok, sm_cp_ok, Option.isSome_some, Option.getD_some, w_cont, Option.toList_some, Option.toList_none, List.cons_append, List.nil_append]
  rw [b47_9, kk_74 H]
  simp only [wr_id, wr_b2i, wr_wr, b2i_eq0, b2i_eq1, b2i_01, sm_rem_eq, sm_div_eq, wl_m2, wl_m1, wl_0, wl_1, wl_2, wl_3, wl_4, wl_5, wl_6, wl_7, wl_8, wl_9, wl_10, wl_12, wl_13, wl_14, wl_16, wl_20, wl_21, wl_22, wl_23, wl_32, wl_36, wl_40, wl_41, wl_42, wl_43, wl_44, wl_45, wl_46, wl_47, wl_48, wl_57, wl_59, wl_60, wl_61, wl_62, wl_65, wl_90, wl_97, wl_99, wl_100, wl_121, wl_122, wl_140, wl_142, wl_143, wl_145, wl_147, wl_160, wl_161, wl_162, wl_242, wl_380, wl_400, wl_420, wl_820, wl_1340, wl_5480, wl_9999, true_and, and_true, true_or, or_true, if_true, if_false, and_self, or_self, false_and, and_false, false_or, or_false, not_true_eq_false, not_false_eq_true, Int.reduceEq, Int.reduceLT, Int.reduceLE, Int.reduceToNat, Int.reduceAdd, Int.reduceMul, Int.reduceSub, Int.reduceMod, Int.reduceDiv, Int.reduceNeg, Nat.reduceEqDiff, sm_rd_ok, sm_rd_ok2, sm_wt_ok, sm_cp_ok, Option.isSome_some, Option.getD_some, w_cont, Option.toList_some, Option.toList_none, List.cons_append, List.nil_append]
  refine (b3 _).trans ?_
  rw [w_cont]
  simp only [wr_id, wr_b2i, wr_wr, b2i_eq0, b2i_eq1, b2i_01, sm_rem_eq, sm_div_eq, wl_m2, wl_m1, wl_0, wl_1, wl_2, wl_3, wl_4, wl_5, wl_6, wl_7, wl_8, wl_9, wl_10, wl_12, wl_13, wl_14, wl_16, wl_20, wl_21, wl_22, wl_23, wl_32, wl_36, wl_40, wl_41, wl_42, wl_43, wl_44, wl_45, wl_46, wl_47, wl_48, wl_57, wl_59, wl_60, wl_61, wl_62, wl_65, wl_90, wl_97, wl_99, wl_100, wl_121, wl_122, wl_140, wl_142, wl_143, wl_145, wl_147, wl_160, wl_161, wl_162, wl_242, wl_380, wl_400, wl_420, wl_820, wl_1340, wl_5480, wl_9999, true_and, and_true, true_or, or_true, if_true, if_false, and_self, or_self, false_and, and_false, false_or, or_false, not_true_eq_false, not_false_eq_true, Int.reduceEq, Int.reduceLT, Int.reduceLE, Int.reduceToNat, Int.reduceAdd, Int.reduceMul, Int.reduceSub, Int.reduceMod, Int.reduceDiv, Int.reduceNeg, Nat.reduceEqDiff, sm_rd_ok, sm_rd_ok2, sm_wt_ok, sm_cp_ok, Option.isSome_some, Option.getD_some, w_cont, Option.toList_some, Option.toList_none, List.cons_append, List.nil_append]
  rw [b47_14, kk_74 H]
  simp only [wr_id, wr_b2i, wr_wr, b2i_eq0, b2i_eq1, b2i_01, sm_rem_eq, sm_div_eq, wl_m2, wl_m1, wl_0, wl_1, wl_2, wl_3, wl_4, wl_5, wl_6, wl_7, wl_8, wl_9, wl_10, wl_12, wl_13, wl_14, wl_16, wl_20, wl_21, wl_22, wl_23, wl_32, wl_36, wl_40, wl_41, wl_42, wl_43, wl_44, wl_45, wl_46, wl_47, wl_48, wl_57, wl_59, wl_60, wl_61, wl_62, wl_65, wl_90, wl_97, wl_99, wl_100, wl_121, wl_122, wl_140, wl_142, wl_143, wl_145, wl_147, wl_160, wl_161, wl_162, wl_242, wl_380, wl_400, wl_420, wl_820, wl_1340, wl_5480, wl_9999, true_and, and_true, true_or, or_true, if_true, if_false, and_self, or_self, false_and, and_false, false_or, or_false, not_true_eq_false, not_false_eq_true, Int.reduceEq, Int.reduceLT, Int.reduceLE, Int.reduceToNat, Int.reduceAdd, Int.reduceMul, Int.reduceSub, Int.reduceMod, Int.reduceDiv, Int.reduceNeg, Nat.reduceEqDiff, sm_rd_ok, sm_rd_ok2, sm_wt_ok, sm_cp_ok, Option.isSome_some, Option.getD_some, w_cont, Option.toList_some, Option.toList_none, List.cons_append, List.nil_append]
theorem c_isWord (H : sm_sh Rf K) {tok val w : Int} (h12 : Z 74 12 = tok) (h13 : Z 74 13 = val) (ht : 0 ≤ tok ∧ tok ≤ 255) (hv : tok = 3 → 0 ≤ val ∧ val ≤ 17) (hw : 0 ≤ w ∧ w ≤ 17) {Q : Option sm_V → sm_S → Prop} : sm_call d 38 [.inr (some 74), .inl w] (Z, Rf, K, n, z) Q = Q (some (.inl (b2i (decide (tok = 3 ∧ val = w))))) (Z, Rf, K, n, z) := by
  rw [ce38, b38_0, kk_74 H, h12]
  simp only [wr_id, wr_b2i, wr_wr, b2i_eq0, b2i_eq1, b2i_01, sm_rem_eq, sm_div_eq, wl_m2, wl_m1, wl_0, wl_1, wl_2, wl_3, wl_4, wl_5, wl_6, wl_7, wl_8, wl_9, wl_10, wl_12, wl_13, wl_14, wl_16, wl_20, wl_21, wl_22, wl_23, wl_32, wl_36, wl_40, wl_41, wl_42, wl_43, wl_44, wl_45, wl_46, wl_47, wl_48, wl_57, wl_59, wl_60, wl_61, wl_62, wl_65, wl_90, wl_97, wl_99, wl_100, wl_121, wl_122, wl_140, wl_142, wl_143, wl_145, wl_147, wl_160, wl_161, wl_162, wl_242, wl_380, wl_400, wl_420, wl_820, wl_1340, wl_5480, wl_9999, true_and, and_true, true_or, or_true, if_true, if_false, and_self, or_self, false_and, and_false, false_or, or_false, not_true_eq_false, not_false_eq_true, Int.reduceEq, Int.reduceLT, Int.reduceLE, Int.reduceToNat, Int.reduceAdd, Int.reduceMul, Int.reduceSub, Int.reduceMod, Int.reduceDiv, Int.reduceNeg, Nat.reduceEqDiff, sm_rd_ok, sm_rd_ok2, sm_wt_ok, sm_cp_ok, Option.isSome_some, Option.getD_some, w_cont, Option.toList_some, Option.toList_none, List.cons_append, List.nil_append]
  rw [wr_id (by omega) (by omega)]
  by_cases h3 : tok = 3
  · have := hv h3
    rw [if_pos h3, b38_8, kk_74 H, h13]
    simp only [wr_id, wr_b2i, wr_wr, b2i_eq0, b2i_eq1, b2i_01, sm_rem_eq, sm_div_eq, wl_m2, wl_m1, wl_0, wl_1, wl_2, wl_3, wl_4, wl_5, wl_6, wl_7, wl_8, wl_9, wl_10, wl_12, wl_13, wl_14, wl_16, wl_20, wl_21, wl_22, wl_23, wl_32, wl_36, wl_40, wl_41, wl_42, wl_43, wl_44, wl_45, wl_46, wl_47, wl_48, wl_57, wl_59, wl_60, wl_61, wl_62, wl_65, wl_90, wl_97, wl_99, wl_100, wl_121, wl_122, wl_140, wl_142, wl_143, wl_145, wl_147, wl_160, wl_161, wl_162, wl_242, wl_380, wl_400, wl_420, wl_820, wl_1340, wl_5480, wl_9999, true_and, and_true, true_or, or_true, if_true, if_false, and_self, or_self, false_and, and_false, false_or, or_false, not_true_eq_false, not_false_eq_true, Int.reduceEq, Int.reduceLT, Int.reduceLE, Int.reduceToNat, Int.reduceAdd, Int.reduceMul, Int.reduceSub, Int.reduceMod, Int.reduceDiv, Int.reduceNeg, Nat.reduceEqDiff, sm_rd_ok, sm_rd_ok2, sm_wt_ok, sm_cp_ok, Option.isSome_some, Option.getD_some, w_cont, Option.toList_some, Option.toList_none, List.cons_append, List.nil_append]
    rw [wr_id (by omega) (by omega), wr_id (by omega) (by omega)]
    by_cases hvw : val = w
    · rw [if_pos hvw, b38_16, b38_21, decide_eq_true ⟨h3, hvw⟩]
      simp only [wr_id, wr_b2i, wr_wr, b2i_eq0, b2i_eq1, b2i_01, sm_rem_eq, sm_div_eq, wl_m2, wl_m1, wl_0, wl_1, wl_2, wl_3, wl_4, wl_5, wl_6, wl_7, wl_8, wl_9, wl_10, wl_12, wl_13, wl_14, wl_16, wl_20, wl_21, wl_22, wl_23, wl_32, wl_36, wl_40, wl_41, wl_42, wl_43, wl_44, wl_45, wl_46, wl_47, wl_48, wl_57, wl_59, wl_60, wl_61, wl_62, wl_65, wl_90, wl_97, wl_99, wl_100, wl_121, wl_122, wl_140, wl_142, wl_143, wl_145, wl_147, wl_160, wl_161, wl_162, wl_242, wl_380, wl_400, wl_420, wl_820, wl_1340, wl_5480, wl_9999, true_and, and_true, true_or, or_true, if_true, if_false, and_self, or_self, false_and, and_false, false_or, or_false, not_true_eq_false, not_false_eq_true, Int.reduceEq, Int.reduceLT, Int.reduceLE, Int.reduceToNat, Int.reduceAdd, Int.reduceMul, Int.reduceSub, Int.reduceMod, Int.reduceDiv, Int.reduceNeg, Nat.reduceEqDiff, sm_rd_ok, sm_rd_ok2, sm_wt_ok, sm_cp_ok, Option.isSome_some, Option.getD_some, w_cont, Option.toList_some, Option.toList_none, List.cons_append, List.nil_append]
      rfl
    · rw [if_neg hvw, b38_20, b38_21, decide_eq_false (fun g => hvw g.2)]
      simp only [wr_id, wr_b2i, wr_wr, b2i_eq0, b2i_eq1, b2i_01, sm_rem_eq, sm_div_eq, wl_m2, wl_m1, wl_0, wl_1, wl_2, wl_3, wl_4, wl_5, wl_6, wl_7, wl_8, wl_9, wl_10, wl_12, wl_13, wl_14, wl_16, wl_20, wl_21, wl_22, wl_23, wl_32, wl_36, wl_40, wl_41, wl_42, wl_43, wl_44, wl_45, wl_46, wl_47, wl_48, wl_57, wl_59, wl_60, wl_61, wl_62, wl_65, wl_90, wl_97, wl_99, wl_100, wl_121, wl_122, wl_140, wl_142, wl_143, wl_145, wl_147, wl_160, wl_161, wl_162, wl_242, wl_380, wl_400, wl_420, wl_820, wl_1340, wl_5480, wl_9999, true_and, and_true, true_or, or_true, if_true, if_false, and_self, or_self, false_and, and_false, false_or, or_false, not_true_eq_false, not_false_eq_true, Int.reduceEq, Int.reduceLT, Int.reduceLE, Int.reduceToNat, Int.reduceAdd, Int.reduceMul, Int.reduceSub, Int.reduceMod, Int.reduceDiv, Int.reduceNeg, Nat.reduceEqDiff, sm_rd_ok, sm_rd_ok2, sm_wt_ok, sm_cp_ok, Option.isSome_some, Option.getD_some, w_cont, Option.toList_some, Option.toList_none, List.cons_append, List.nil_append]
      rfl
  · rw [if_neg h3, b38_20, b38_21, decide_eq_false (fun g => h3 g.1)]
    simp only [wr_id, wr_b2i, wr_wr, b2i_eq0, b2i_eq1, b2i_01, sm_rem_eq, sm_div_eq, wl_m2, wl_m1, wl_0, wl_1, wl_2, wl_3, wl_4, wl_5, wl_6, wl_7, wl_8, wl_9, wl_10, wl_12, wl_13, wl_14, wl_16, wl_20, wl_21, wl_22, wl_23, wl_32, wl_36, wl_40, wl_41, wl_42, wl_43, wl_44, wl_45, wl_46, wl_47, wl_48, wl_57, wl_59, wl_60, wl_61, wl_62, wl_65, wl_90, wl_97, wl_99, wl_100, wl_121, wl_122, wl_140, wl_142, wl_143, wl_145, wl_147, wl_160, wl_161, wl_162, wl_242, wl_380, wl_400, wl_420, wl_820, wl_1340, wl_5480, wl_9999, true_and, and_true, true_or, or_true, if_true, if_false, and_self, or_self, false_and, and_false, false_or, or_false, not_true_eq_false, not_false_eq_true, Int.reduceEq, Int.reduceLT, Int.reduceLE, Int.reduceToNat, Int.reduceAdd, Int.reduceMul, Int.reduceSub, Int.reduceMod, Int.reduceDiv, Int.reduceNeg, Nat.reduceEqDiff, sm_rd_ok, sm_rd_ok2, sm_wt_ok, sm_cp_ok, Option.isSome_some, Option.getD_some, w_cont, Option.toList_some, Option.toList_none, List.cons_append, List.nil_append]
    rfl
end READ
