/-! Products and sums. -/
theorem outc_pre {T : Nat → Int} {len s s1 : Nat} {Z Z1 Z' : Nat → Nat → Int} {ms a : List (Int × Int)} {D : Int} {c c1 : rdT} {G1 G : Nat → List (Int × Int) → rdT → Prop} {r : Bool} (h1 : frP Z Z1) (h2 : rch T len s c s1 c1) (h3 : a.length + s ≤ s1) (h4 : outc T len Z1 Z' s1 (a ++ ms) D c1 G1 r) (h5 : ∀ s' new c', G1 s' new c' → G s' (new ++ a) c') : outc T len Z Z' s ms D c G r := by
  obtain ⟨f1, f2, f3⟩ := h4
  refine ⟨frP_trans h1 f1, fun hr => ?_, fun hr => ?_⟩
  · obtain ⟨s', new, c', e1, e2, e3, e4, e5⟩ := f2 hr
    refine ⟨s', new ++ a, c', rch_trans h2 e1, by rw [List.length_append]; omega, e3, by rw [List.append_assoc]; exact e4, h5 _ _ _ e5⟩
  · obtain ⟨k, s', e1, e2, e3⟩ := f3 hr
    exact ⟨k, s', e1, rch_flt h2 e2, e3⟩
theorem outc_fail {T : Nat → Int} {len s s1 : Nat} {Z Z1 Z' : Nat → Nat → Int} {ms ms1 : List (Int × Int)} {D D1 : Int} {c c1 : rdT} {G1 G : Nat → List (Int × Int) → rdT → Prop} (h1 : frP Z Z1) (h2 : rch T len s c s1 c1) (h4 : outc T len Z1 Z' s1 ms1 D1 c1 G1 false) : outc T len Z Z' s ms D c G false := by
  obtain ⟨f1, _, f3⟩ := h4
  refine ⟨frP_trans h1 f1, fun hr => Bool.noConfusion hr, fun hr => ?_⟩
  obtain ⟨k, s', e1, e2, e3⟩ := f3 hr
  exact ⟨k, s', e1, rch_flt h2 e2, e3⟩
theorem outc_bad {T : Nat → Int} {len s : Nat} {Z Z1 : Nat → Nat → Int} {ms : List (Int × Int)} {D k : Int} {c : rdT} {G : Nat → List (Int × Int) → rdT → Prop} (h1 : frP Z Z1) (hk : 0 < k ∧ k < 9) (h2 : flt T len s c k s) (h3 : Z1 79 19 = k ∧ Z1 79 20 = (s : Int)) : outc T len Z Z1 s ms D c G false :=
  ⟨h1, fun hr => Bool.noConfusion hr, fun _ => ⟨k, s, hk, h2, h3⟩⟩
theorem outc_end {T : Nat → Int} {len s : Nat} {Z : Nat → Nat → Int} {ms : List (Int × Int)} {D : Int} {c : rdT} {G : Nat → List (Int × Int) → rdT → Prop} (hs : s ≤ len) (hp : pM Z T len s ms D) (h : G s [] c) : outc T len Z Z s ms D c G true :=
  ⟨frP_refl Z, fun _ => ⟨s, [], c, rch_refl, by rw [List.length_nil]; omega, hs, hp, h⟩, fun hr => Bool.noConfusion hr⟩
/-- some orders are kept back above others -/
def GG (lo : Int) (L : Nat) (rc pd : List Int) (ln tn op br rt : Int) (TY : List (Int × Int) → Prop) (NT : Nat → Prop) : Nat → List (Int × Int) → rdT → Prop := fun s' new c' => ∃ ops rc', ((∀ k ∈ ops, lo ≤ stg k) ∧ ops.length ≤ L) ∧ c' = (rc', ops ++ pd, 5, ln, tn, op, br, rt) ∧ ops.reverse ++ rc' = new.map cO ++ rc ∧ TY new ∧ NT s'
def n6 (T : Nat → Int) (len s : Nat) : Prop := ¬ tkS T len s = 142 ∧ ¬ tkS T len s = 147
def n5 (T : Nat → Int) (len s : Nat) : Prop := n6 T len s ∧ ¬ tkS T len s = 143 ∧ ¬ tkS T len s = 145
def ty1 (N : Nat) (new : List (Int × Int)) : Prop := ∀ tt : List Bool, tt.length ≤ N → tyV new tt (false :: tt)
def ty2 (N : Nat) (new : List (Int × Int)) : Prop := ∀ tt : List Bool, tt.length ≤ N → tyV new (false :: tt) (false :: tt)
theorem cn3_0 {lo : Int} (hlo : 4 ≤ lo) : ∀ (ops : List Int), (∀ k ∈ ops, lo ≤ stg k) → cn3 ops = 0 := by
  intro ops
  induction ops with
  | nil => intro _; rfl
  | cons k r ih =>
    intro h
    have h1 := h k List.mem_cons_self
    have hk : ¬ k = 3 := by
      intro g
      rw [g] at h1
      have : stg 3 = 3 := by decide
      omega
    simp only [cn3]
    rw [if_neg hk, ih (fun x hx => h x (List.mem_cons_of_mem _ hx))]
    rfl
theorem stl_o {s lo : Int} {pd : List Int} (hd : hdL s pd) (hl : 4 ≤ lo ∧ s ≤ lo) {ops rc : List Int} {op : Int} (h : ∀ k ∈ ops, lo ≤ stg k) : stl s (ops ++ pd) rc op = (pd, ops.reverse ++ rc, op) := by
  rw [stl_ops hd ops rc op (fun k hk => by have := h k hk; omega), cn3_0 hl.1 ops h, Int.sub_zero]
section SUMS
variable {d n z : Nat} {Rf : Nat → Nat → Option Nat} {K : Nat → Nat × Nat} {T : Nat → Int} {len : Nat} {D : Int}
theorem m_prod_loop (H : sm_sh Rf K) {pd : List Int} {ln tn op br rt : Int} (hpd : pd.length + 1 < 40) (hd : hdL 6 pd) : ∀ (f s : Nat) (ms : List (Int × Int)) (Z : Nat → Nat → Int) (rc ops : List Int) (l1 l2 : Option sm_V), len < s + f → s ≤ len → pM Z T len s ms D → ms.length ≤ s → (∀ k ∈ ops, 6 ≤ stg k) → ops.length ≤ 1 → rc.length + ops.length + pd.length + 1 ≤ s → ∃ Z' r, outc T len Z Z' s ms D (rc, ops ++ pd, 5, ln, tn, op, br, rt) (GG 6 1 (ops.reverse ++ rc) pd ln tn op br rt (ty2 30) (n6 T len)) r ∧ ∀ Q, sm_wp (d + 9) 150 9 [some (.inr (some 79)), l1, l2] [] (Z, Rf, K, n, z) Q = Q (some (.inl (b2i r))) (Z', Rf, K, n, z) := by
  intro f
  induction f with
  | zero => intro s ms Z rc ops l1 l2 hf hs; omega
  | succ f ih =>
    intro s ms Z rc ops l1 l2 hf hs hp hms ho hol hcap
    have h4 := hp.2.1.2.2.2
    have h16 := hp.2.2.1.2.1
    have ht0 := tkS_0 (len := len) (s := s) hp.2.1.2.1
    have hb : rc.length + (ops ++ pd).length < 400 ∧ (ops ++ pd).length < 40 := by
      rw [List.length_append]
      omega
    have e := rdS_st (t := tkS T len s) (v := vlS T len s) (st := 5) (ln := ln) (tn := tn) (op := op) (br := br) (rt := rt) hb
    rw [if_neg (by decide), if_neg (by decide), if_neg (by decide), if_neg (by decide), if_neg (by decide), if_pos rfl] at e
    have eS := stl_o (op := op) (rc := rc) hd (lo := 6) (by decide) ho
    simp only [tkAU] at e
    by_cases h1 : tkS T len s = 142
    · have hlt : s < len := by
        rcases Nat.lt_or_ge s len with h | h
        · exact h
        · have := ht0.2.2.2 h; omega
      have hns := nsS_bd (T := T) hlt
      rw [if_pos h1] at e
      simp only [jnT, show stg 4 = 6 by decide, eS] at e
      obtain ⟨Z1, a1, a2, a3⟩ := m_nx (d := d + 1) (n := n) (z := z) H hp hlt
      obtain ⟨Z2, r2, b1, b2⟩ := m_unit (d := d) (n := n) (z := z) (rc := ops.reverse ++ rc) (pd := 4 :: pd) (st := 3) (rt := rt) (rt0 := rt) (ln := ln) (tn := tn) (op := op) (br := br) H a1 (by omega) (Or.inl ⟨rfl, rfl⟩) (by simp; omega) (by simp; omega)
      have hr1 := rch_step hlt (by omega) e
      have run : ∀ Q, sm_wp (d + 9) 150 9 [some (.inr (some 79)), l1, l2] [] (Z, Rf, K, n, z) Q = sm_wp (d + 9) 150 100 [some (.inr (some 79)), some (.inl 0), l2] [.inl (b2i r2)] (Z2, Rf, K, n, z) Q := by
        intro Q
        rw [b150_9, kk_79 H, h16, h1]
        simp only [wr_id, wr_b2i, wr_wr, b2i_eq0, b2i_eq1, b2i_01, sm_rem_eq, sm_div_eq, wl_m2, wl_m1, wl_0, wl_1, wl_2, wl_3, wl_4, wl_5, wl_6, wl_7, wl_8, wl_9, wl_10, wl_12, wl_13, wl_14, wl_16, wl_20, wl_21, wl_22, wl_23, wl_32, wl_36, wl_40, wl_41, wl_42, wl_43, wl_44, wl_45, wl_46, wl_47, wl_48, wl_57, wl_59, wl_60, wl_61, wl_62, wl_65, wl_90, wl_97, wl_99, wl_100, wl_121, wl_122, wl_140, wl_142, wl_143, wl_145, wl_147, wl_160, wl_161, wl_162, wl_242, wl_380, wl_400, wl_420, wl_820, wl_1340, wl_5480, wl_9999, true_and, and_true, true_or, or_true, if_true, if_false, and_self, or_self, false_and, and_false, false_or, or_false, not_true_eq_false, not_false_eq_true, Int.reduceEq, Int.reduceLT, Int.reduceLE, Int.reduceToNat, Int.reduceAdd, Int.reduceMul, Int.reduceSub, Int.reduceMod, Int.reduceDiv, Int.reduceNeg, Nat.reduceEqDiff, sm_rd_ok, sm_rd_ok2, sm_wt_ok, sm_cp_ok, Option.isSome_some, Option.getD_some, w_cont, Option.toList_some, Option.toList_none, List.cons_append, List.nil_append]
        rw [b150_29, kk_79 H, h16, h1]
        simp only [wr_id, wr_b2i, wr_wr, b2i_eq0, b2i_eq1, b2i_01, sm_rem_eq, sm_div_eq, wl_m2, wl_m1, wl_0, wl_1, wl_2, wl_3, wl_4, wl_5, wl_6, wl_7, wl_8, wl_9, wl_10, wl_12, wl_13, wl_14, wl_16, wl_20, wl_21, wl_22, wl_23, wl_32, wl_36, wl_40, wl_41, wl_42, wl_43, wl_44, wl_45, wl_46, wl_47, wl_48, wl_57, wl_59, wl_60, wl_61, wl_62, wl_65, wl_90, wl_97, wl_99, wl_100, wl_121, wl_122, wl_140, wl_142, wl_143, wl_145, wl_147, wl_160, wl_161, wl_162, wl_242, wl_380, wl_400, wl_420, wl_820, wl_1340, wl_5480, wl_9999, true_and, and_true, true_or, or_true, if_true, if_false, and_self, or_self, false_and, and_false, false_or, or_false, not_true_eq_false, not_false_eq_true, Int.reduceEq, Int.reduceLT, Int.reduceLE, Int.reduceToNat, Int.reduceAdd, Int.reduceMul, Int.reduceSub, Int.reduceMod, Int.reduceDiv, Int.reduceNeg, Nat.reduceEqDiff, sm_rd_ok, sm_rd_ok2, sm_wt_ok, sm_cp_ok, Option.isSome_some, Option.getD_some, w_cont, Option.toList_some, Option.toList_none, List.cons_append, List.nil_append]
        rw [b150_43, b150_44, kk_79 H]
        simp only [wr_id, wr_b2i, wr_wr, b2i_eq0, b2i_eq1, b2i_01, sm_rem_eq, sm_div_eq, wl_m2, wl_m1, wl_0, wl_1, wl_2, wl_3, wl_4, wl_5, wl_6, wl_7, wl_8, wl_9, wl_10, wl_12, wl_13, wl_14, wl_16, wl_20, wl_21, wl_22, wl_23, wl_32, wl_36, wl_40, wl_41, wl_42, wl_43, wl_44, wl_45, wl_46, wl_47, wl_48, wl_57, wl_59, wl_60, wl_61, wl_62, wl_65, wl_90, wl_97, wl_99, wl_100, wl_121, wl_122, wl_140, wl_142, wl_143, wl_145, wl_147, wl_160, wl_161, wl_162, wl_242, wl_380, wl_400, wl_420, wl_820, wl_1340, wl_5480, wl_9999, true_and, and_true, true_or, or_true, if_true, if_false, and_self, or_self, false_and, and_false, false_or, or_false, not_true_eq_false, not_false_eq_true, Int.reduceEq, Int.reduceLT, Int.reduceLE, Int.reduceToNat, Int.reduceAdd, Int.reduceMul, Int.reduceSub, Int.reduceMod, Int.reduceDiv, Int.reduceNeg, Nat.reduceEqDiff, sm_rd_ok, sm_rd_ok2, sm_wt_ok, sm_cp_ok, Option.isSome_some, Option.getD_some, w_cont, Option.toList_some, Option.toList_none, List.cons_append, List.nil_append]
        refine (a3 _).trans ?_
        rw [w_cont]
        simp only [wr_id, wr_b2i, wr_wr, b2i_eq0, b2i_eq1, b2i_01, sm_rem_eq, sm_div_eq, wl_m2, wl_m1, wl_0, wl_1, wl_2, wl_3, wl_4, wl_5, wl_6, wl_7, wl_8, wl_9, wl_10, wl_12, wl_13, wl_14, wl_16, wl_20, wl_21, wl_22, wl_23, wl_32, wl_36, wl_40, wl_41, wl_42, wl_43, wl_44, wl_45, wl_46, wl_47, wl_48, wl_57, wl_59, wl_60, wl_61, wl_62, wl_65, wl_90, wl_97, wl_99, wl_100, wl_121, wl_122, wl_140, wl_142, wl_143, wl_145, wl_147, wl_160, wl_161, wl_162, wl_242, wl_380, wl_400, wl_420, wl_820, wl_1340, wl_5480, wl_9999, true_and, and_true, true_or, or_true, if_true, if_false, and_self, or_self, false_and, and_false, false_or, or_false, not_true_eq_false, not_false_eq_true, Int.reduceEq, Int.reduceLT, Int.reduceLE, Int.reduceToNat, Int.reduceAdd, Int.reduceMul, Int.reduceSub, Int.reduceMod, Int.reduceDiv, Int.reduceNeg, Nat.reduceEqDiff, sm_rd_ok, sm_rd_ok2, sm_wt_ok, sm_cp_ok, Option.isSome_some, Option.getD_some, w_cont, Option.toList_some, Option.toList_none, List.cons_append, List.nil_append]
        rw [b150_49, if_pos (by decide), b150_96, kk_79 H]
        simp only [wr_id, wr_b2i, wr_wr, b2i_eq0, b2i_eq1, b2i_01, sm_rem_eq, sm_div_eq, wl_m2, wl_m1, wl_0, wl_1, wl_2, wl_3, wl_4, wl_5, wl_6, wl_7, wl_8, wl_9, wl_10, wl_12, wl_13, wl_14, wl_16, wl_20, wl_21, wl_22, wl_23, wl_32, wl_36, wl_40, wl_41, wl_42, wl_43, wl_44, wl_45, wl_46, wl_47, wl_48, wl_57, wl_59, wl_60, wl_61, wl_62, wl_65, wl_90, wl_97, wl_99, wl_100, wl_121, wl_122, wl_140, wl_142, wl_143, wl_145, wl_147, wl_160, wl_161, wl_162, wl_242, wl_380, wl_400, wl_420, wl_820, wl_1340, wl_5480, wl_9999, true_and, and_true, true_or, or_true, if_true, if_false, and_self, or_self, false_and, and_false, false_or, or_false, not_true_eq_false, not_false_eq_true, Int.reduceEq, Int.reduceLT, Int.reduceLE, Int.reduceToNat, Int.reduceAdd, Int.reduceMul, Int.reduceSub, Int.reduceMod, Int.reduceDiv, Int.reduceNeg, Nat.reduceEqDiff, sm_rd_ok, sm_rd_ok2, sm_wt_ok, sm_cp_ok, Option.isSome_some, Option.getD_some, w_cont, Option.toList_some, Option.toList_none, List.cons_append, List.nil_append]
        refine (b2 _).trans ?_
        rw [w_cont]
        rfl
      cases r2 with
      | false =>
        refine ⟨Z2, false, outc_fail a2 hr1 b1, fun Q => ?_⟩
        rw [run, b150_100, if_pos (by decide), b150_103]
        simp only [wr_id, wr_b2i, wr_wr, b2i_eq0, b2i_eq1, b2i_01, sm_rem_eq, sm_div_eq, wl_m2, wl_m1, wl_0, wl_1, wl_2, wl_3, wl_4, wl_5, wl_6, wl_7, wl_8, wl_9, wl_10, wl_12, wl_13, wl_14, wl_16, wl_20, wl_21, wl_22, wl_23, wl_32, wl_36, wl_40, wl_41, wl_42, wl_43, wl_44, wl_45, wl_46, wl_47, wl_48, wl_57, wl_59, wl_60, wl_61, wl_62, wl_65, wl_90, wl_97, wl_99, wl_100, wl_121, wl_122, wl_140, wl_142, wl_143, wl_145, wl_147, wl_160, wl_161, wl_162, wl_242, wl_380, wl_400, wl_420, wl_820, wl_1340, wl_5480, wl_9999, true_and, and_true, true_or, or_true, if_true, if_false, and_self, or_self, false_and, and_false, false_or, or_false, not_true_eq_false, not_false_eq_true, Int.reduceEq, Int.reduceLT, Int.reduceLE, Int.reduceToNat, Int.reduceAdd, Int.reduceMul, Int.reduceSub, Int.reduceMod, Int.reduceDiv, Int.reduceNeg, Nat.reduceEqDiff, sm_rd_ok, sm_rd_ok2, sm_wt_ok, sm_cp_ok, Option.isSome_some, Option.getD_some, w_cont, Option.toList_some, Option.toList_none, List.cons_append, List.nil_append]
        rfl
      | true =>
        obtain ⟨c1, c2, _⟩ := b1
        obtain ⟨s2, new, cc, g1, g2, g3, g4, u, g5, g6, g7⟩ := c2 rfl
        rw [g5] at g4 g2
        rw [g6] at g1
        obtain ⟨Z3, q1, q2, q3⟩ := m_lay1 (d := d + 8) (n := n) (z := z) H g4 (by simp at g2 ⊢; omega) 15 0
        obtain ⟨Z4, r4, w1, w2⟩ := ih s2 ((15, 0) :: u :: ms) Z3 (cO u :: (ops.reverse ++ rc)) [4] (some (.inl 0)) l2 (by simp at g2; omega) g3 q1 (by simp at g2 ⊢; omega) (by intro k hk; rw [List.mem_singleton] at hk; rw [hk]; decide) (by simp) (by simp at g2 ⊢; omega)
        refine ⟨Z4, r4, outc_pre (a := [(15, 0), u]) (frP_trans a2 (frP_trans c1 q2)) (rch_trans hr1 g1) (by simp at g2 ⊢; omega) w1 ?_, fun Q => ?_⟩
        · rintro s' new' c' ⟨ops', rc', x1, x2, x3, x4, x5⟩
          refine ⟨ops', rc', x1, x2, ?_, ?_, x5⟩
          · rw [x3, List.map_append, List.append_assoc]
            rfl
          · intro tt htt
            refine tyV_app _ _ _ _ _ ⟨false :: false :: tt, g7 (false :: tt) (by simp; omega), ?_⟩ (x4 tt htt)
            right; right; right; right
            exact ⟨false, tt, false, rfl, rfl, Or.inl ⟨Or.inr (Or.inr rfl), rfl, rfl⟩⟩
        · rw [run, b150_100, if_neg (by decide), b150_105, kk_79 H]
          simp only [wr_id, wr_b2i, wr_wr, b2i_eq0, b2i_eq1, b2i_01, sm_rem_eq, sm_div_eq, wl_m2, wl_m1, wl_0, wl_1, wl_2, wl_3, wl_4, wl_5, wl_6, wl_7, wl_8, wl_9, wl_10, wl_12, wl_13, wl_14, wl_16, wl_20, wl_21, wl_22, wl_23, wl_32, wl_36, wl_40, wl_41, wl_42, wl_43, wl_44, wl_45, wl_46, wl_47, wl_48, wl_57, wl_59, wl_60, wl_61, wl_62, wl_65, wl_90, wl_97, wl_99, wl_100, wl_121, wl_122, wl_140, wl_142, wl_143, wl_145, wl_147, wl_160, wl_161, wl_162, wl_242, wl_380, wl_400, wl_420, wl_820, wl_1340, wl_5480, wl_9999, true_and, and_true, true_or, or_true, if_true, if_false, and_self, or_self, false_and, and_false, false_or, or_false, not_true_eq_false, not_false_eq_true, Int.reduceEq, Int.reduceLT, Int.reduceLE, Int.reduceToNat, Int.reduceAdd, Int.reduceMul, Int.reduceSub, Int.reduceMod, Int.reduceDiv, Int.reduceNeg, Nat.reduceEqDiff, sm_rd_ok, sm_rd_ok2, sm_wt_ok, sm_cp_ok, Option.isSome_some, Option.getD_some, w_cont, Option.toList_some, Option.toList_none, List.cons_append, List.nil_append]
          refine (q3 _).trans ?_
          rw [w_cont]
          simp only [wr_id, wr_b2i, wr_wr, b2i_eq0, b2i_eq1, b2i_01, sm_rem_eq, sm_div_eq, wl_m2, wl_m1, wl_0, wl_1, wl_2, wl_3, wl_4, wl_5, wl_6, wl_7, wl_8, wl_9, wl_10, wl_12, wl_13, wl_14, wl_16, wl_20, wl_21, wl_22, wl_23, wl_32, wl_36, wl_40, wl_41, wl_42, wl_43, wl_44, wl_45, wl_46, wl_47, wl_48, wl_57, wl_59, wl_60, wl_61, wl_62, wl_65, wl_90, wl_97, wl_99, wl_100, wl_121, wl_122, wl_140, wl_142, wl_143, wl_145, wl_147, wl_160, wl_161, wl_162, wl_242, wl_380, wl_400, wl_420, wl_820, wl_1340, wl_5480, wl_9999, true_and, and_true, true_or, or_true, if_true, if_false, and_self, or_self, false_and, and_false, false_or, or_false, not_true_eq_false, not_false_eq_true, Int.reduceEq, Int.reduceLT, Int.reduceLE, Int.reduceToNat, Int.reduceAdd, Int.reduceMul, Int.reduceSub, Int.reduceMod, Int.reduceDiv, Int.reduceNeg, Nat.reduceEqDiff, sm_rd_ok, sm_rd_ok2, sm_wt_ok, sm_cp_ok, Option.isSome_some, Option.getD_some, w_cont, Option.toList_some, Option.toList_none, List.cons_append, List.nil_append]
          rw [b150_112]
          exact w2 Q
    · by_cases h2 : tkS T len s = 147
      · have hlt : s < len := by
          rcases Nat.lt_or_ge s len with h | h
          · exact h
          · have := ht0.2.2.2 h; omega
        have hns := nsS_bd (T := T) hlt
        rw [if_neg h1, if_pos h2] at e
        simp only [eS] at e
        obtain ⟨Z1, a1, a2, a3⟩ := m_nx (d := d + 1) (n := n) (z := z) H hp hlt
        obtain ⟨s1, hs1⟩ : ∃ s1, s1 = nsS T len s := ⟨_, rfl⟩
        have hr1 := rch_step hlt (by omega) e
        rw [← hs1] at a1 hns hr1
        have k16 := a1.2.2.1.2.1
        have k18 := a1.2.2.1.2.2.2.1
        have kvb := a1.2.2.1.2.2.2.2.1
        have kt0 := tkS_0 (len := len) (s := s1) hp.2.1.2.1
        have e2 := rdS_st (t := tkS T len s1) (v := vlS T len s1) (rc := ops.reverse ++ rc) (pd := pd) (st := 4) (ln := ln) (tn := tn) (op := op) (br := br) (rt := rt) (by simp; omega)
        rw [if_neg (by decide), if_neg (by decide), if_neg (by decide), if_neg (by decide), if_pos rfl] at e2
        simp only [tkDiv] at e2
        have run : ∀ Q, sm_wp (d + 9) 150 9 [some (.inr (some 79)), l1, l2] [] (Z, Rf, K, n, z) Q = if tkS T len s1 = 2 then sm_wp (d + 9) 150 72 [some (.inr (some 79)), some (.inl 1), some (.inl (Z1 79 18))] [] (Z1, Rf, K, n, z) Q else sm_wp (d + 9) 150 66 [some (.inr (some 79)), some (.inl 1), some (.inl (Z1 79 18))] [] (Z1, Rf, K, n, z) Q := by
          intro Q
          rw [b150_9, kk_79 H, h16, h2]
          simp only [wr_id, wr_b2i, wr_wr, b2i_eq0, b2i_eq1, b2i_01, sm_rem_eq, sm_div_eq, wl_m2, wl_m1, wl_0, wl_1, wl_2, wl_3, wl_4, wl_5, wl_6, wl_7, wl_8, wl_9, wl_10, wl_12, wl_13, wl_14, wl_16, wl_20, wl_21, wl_22, wl_23, wl_32, wl_36, wl_40, wl_41, wl_42, wl_43, wl_44, wl_45, wl_46, wl_47, wl_48, wl_57, wl_59, wl_60, wl_61, wl_62, wl_65, wl_90, wl_97, wl_99, wl_100, wl_121, wl_122, wl_140, wl_142, wl_143, wl_145, wl_147, wl_160, wl_161, wl_162, wl_242, wl_380, wl_400, wl_420, wl_820, wl_1340, wl_5480, wl_9999, true_and, and_true, true_or, or_true, if_true, if_false, and_self, or_self, false_and, and_false, false_or, or_false, not_true_eq_false, not_false_eq_true, Int.reduceEq, Int.reduceLT, Int.reduceLE, Int.reduceToNat, Int.reduceAdd, Int.reduceMul, Int.reduceSub, Int.reduceMod, Int.reduceDiv, Int.reduceNeg, Nat.reduceEqDiff, sm_rd_ok, sm_rd_ok2, sm_wt_ok, sm_cp_ok, Option.isSome_some, Option.getD_some, w_cont, Option.toList_some, Option.toList_none, List.cons_append, List.nil_append]
          rw [b150_19, kk_79 H, h16, h2]
          simp only [wr_id, wr_b2i, wr_wr, b2i_eq0, b2i_eq1, b2i_01, sm_rem_eq, sm_div_eq, wl_m2, wl_m1, wl_0, wl_1, wl_2, wl_3, wl_4, wl_5, wl_6, wl_7, wl_8, wl_9, wl_10, wl_12, wl_13, wl_14, wl_16, wl_20, wl_21, wl_22, wl_23, wl_32, wl_36, wl_40, wl_41, wl_42, wl_43, wl_44, wl_45, wl_46, wl_47, wl_48, wl_57, wl_59, wl_60, wl_61, wl_62, wl_65, wl_90, wl_97, wl_99, wl_100, wl_121, wl_122, wl_140, wl_142, wl_143, wl_145, wl_147, wl_160, wl_161, wl_162, wl_242, wl_380, wl_400, wl_420, wl_820, wl_1340, wl_5480, wl_9999, true_and, and_true, true_or, or_true, if_true, if_false, and_self, or_self, false_and, and_false, false_or, or_false, not_true_eq_false, not_false_eq_true, Int.reduceEq, Int.reduceLT, Int.reduceLE, Int.reduceToNat, Int.reduceAdd, Int.reduceMul, Int.reduceSub, Int.reduceMod, Int.reduceDiv, Int.reduceNeg, Nat.reduceEqDiff, sm_rd_ok, sm_rd_ok2, sm_wt_ok, sm_cp_ok, Option.isSome_some, Option.getD_some, w_cont, Option.toList_some, Option.toList_none, List.cons_append, List.nil_append]
          rw [b150_29, kk_79 H, h16, h2]
          simp only [wr_id, wr_b2i, wr_wr, b2i_eq0, b2i_eq1, b2i_01, sm_rem_eq, sm_div_eq, wl_m2, wl_m1, wl_0, wl_1, wl_2, wl_3, wl_4, wl_5, wl_6, wl_7, wl_8, wl_9, wl_10, wl_12, wl_13, wl_14, wl_16, wl_20, wl_21, wl_22, wl_23, wl_32, wl_36, wl_40, wl_41, wl_42, wl_43, wl_44, wl_45, wl_46, wl_47, wl_48, wl_57, wl_59, wl_60, wl_61, wl_62, wl_65, wl_90, wl_97, wl_99, wl_100, wl_121, wl_122, wl_140, wl_142, wl_143, wl_145, wl_147, wl_160, wl_161, wl_162, wl_242, wl_380, wl_400, wl_420, wl_820, wl_1340, wl_5480, wl_9999, true_and, and_true, true_or, or_true, if_true, if_false, and_self, or_self, false_and, and_false, false_or, or_false, not_true_eq_false, not_false_eq_true, Int.reduceEq, Int.reduceLT, Int.reduceLE, Int.reduceToNat, Int.reduceAdd, Int.reduceMul, Int.reduceSub, Int.reduceMod, Int.reduceDiv, Int.reduceNeg, Nat.reduceEqDiff, sm_rd_ok, sm_rd_ok2, sm_wt_ok, sm_cp_ok, Option.isSome_some, Option.getD_some, w_cont, Option.toList_some, Option.toList_none, List.cons_append, List.nil_append]
          rw [b150_39, b150_44, kk_79 H]
          simp only [wr_id, wr_b2i, wr_wr, b2i_eq0, b2i_eq1, b2i_01, sm_rem_eq, sm_div_eq, wl_m2, wl_m1, wl_0, wl_1, wl_2, wl_3, wl_4, wl_5, wl_6, wl_7, wl_8, wl_9, wl_10, wl_12, wl_13, wl_14, wl_16, wl_20, wl_21, wl_22, wl_23, wl_32, wl_36, wl_40, wl_41, wl_42, wl_43, wl_44, wl_45, wl_46, wl_47, wl_48, wl_57, wl_59, wl_60, wl_61, wl_62, wl_65, wl_90, wl_97, wl_99, wl_100, wl_121, wl_122, wl_140, wl_142, wl_143, wl_145, wl_147, wl_160, wl_161, wl_162, wl_242, wl_380, wl_400, wl_420, wl_820, wl_1340, wl_5480, wl_9999, true_and, and_true, true_or, or_true, if_true, if_false, and_self, or_self, false_and, and_false, false_or, or_false, not_true_eq_false, not_false_eq_true, Int.reduceEq, Int.reduceLT, Int.reduceLE, Int.reduceToNat, Int.reduceAdd, Int.reduceMul, Int.reduceSub, Int.reduceMod, Int.reduceDiv, Int.reduceNeg, Nat.reduceEqDiff, sm_rd_ok, sm_rd_ok2, sm_wt_ok, sm_cp_ok, Option.isSome_some, Option.getD_some, w_cont, Option.toList_some, Option.toList_none, List.cons_append, List.nil_append]
          refine (a3 _).trans ?_
          rw [w_cont]
          simp only [wr_id, wr_b2i, wr_wr, b2i_eq0, b2i_eq1, b2i_01, sm_rem_eq, sm_div_eq, wl_m2, wl_m1, wl_0, wl_1, wl_2, wl_3, wl_4, wl_5, wl_6, wl_7, wl_8, wl_9, wl_10, wl_12, wl_13, wl_14, wl_16, wl_20, wl_21, wl_22, wl_23, wl_32, wl_36, wl_40, wl_41, wl_42, wl_43, wl_44, wl_45, wl_46, wl_47, wl_48, wl_57, wl_59, wl_60, wl_61, wl_62, wl_65, wl_90, wl_97, wl_99, wl_100, wl_121, wl_122, wl_140, wl_142, wl_143, wl_145, wl_147, wl_160, wl_161, wl_162, wl_242, wl_380, wl_400, wl_420, wl_820, wl_1340, wl_5480, wl_9999, true_and, and_true, true_or, or_true, if_true, if_false, and_self, or_self, false_and, and_false, false_or, or_false, not_true_eq_false, not_false_eq_true, Int.reduceEq, Int.reduceLT, Int.reduceLE, Int.reduceToNat, Int.reduceAdd, Int.reduceMul, Int.reduceSub, Int.reduceMod, Int.reduceDiv, Int.reduceNeg, Nat.reduceEqDiff, sm_rd_ok, sm_rd_ok2, sm_wt_ok, sm_cp_ok, Option.isSome_some, Option.getD_some, w_cont, Option.toList_some, Option.toList_none, List.cons_append, List.nil_append]
          rw [b150_49, if_neg (by decide), b150_53, kk_79 H, k16]
          simp only [wr_id, wr_b2i, wr_wr, b2i_eq0, b2i_eq1, b2i_01, sm_rem_eq, sm_div_eq, wl_m2, wl_m1, wl_0, wl_1, wl_2, wl_3, wl_4, wl_5, wl_6, wl_7, wl_8, wl_9, wl_10, wl_12, wl_13, wl_14, wl_16, wl_20, wl_21, wl_22, wl_23, wl_32, wl_36, wl_40, wl_41, wl_42, wl_43, wl_44, wl_45, wl_46, wl_47, wl_48, wl_57, wl_59, wl_60, wl_61, wl_62, wl_65, wl_90, wl_97, wl_99, wl_100, wl_121, wl_122, wl_140, wl_142, wl_143, wl_145, wl_147, wl_160, wl_161, wl_162, wl_242, wl_380, wl_400, wl_420, wl_820, wl_1340, wl_5480, wl_9999, true_and, and_true, true_or, or_true, if_true, if_false, and_self, or_self, false_and, and_false, false_or, or_false, not_true_eq_false, not_false_eq_true, Int.reduceEq, Int.reduceLT, Int.reduceLE, Int.reduceToNat, Int.reduceAdd, Int.reduceMul, Int.reduceSub, Int.reduceMod, Int.reduceDiv, Int.reduceNeg, Nat.reduceEqDiff, sm_rd_ok, sm_rd_ok2, sm_wt_ok, sm_cp_ok, Option.isSome_some, Option.getD_some, w_cont, Option.toList_some, Option.toList_none, List.cons_append, List.nil_append]
          rw [wr_id (by omega) (by omega)]
        by_cases t2 : tkS T len s1 = 2
        · rw [if_pos t2] at e2
          have kv := k18 t2
          have kvb := kvb t2
          by_cases v0 : vlS T len s1 = 0
          · rw [if_pos v0] at e2
            obtain ⟨Z2, y1, y2, y3⟩ := m_bad1 (d := d + 8) (n := n) (z := z) H a1 2
            refine ⟨Z2, false, outc_fail a2 hr1 (outc_bad (D := D) (ms := ms) (G := fun _ _ _ => True) y2 (by decide) (flt_step (fun g => (show ¬ (4 : Int) = 0 by decide) g.2) (by decide) (by rw [e2])) y1), fun Q => ?_⟩
            rw [run, if_pos t2, b150_72, kv, v0, if_pos (by decide), b150_76, kk_79 H]
            simp only [wr_id, wr_b2i, wr_wr, b2i_eq0, b2i_eq1, b2i_01, sm_rem_eq, sm_div_eq, wl_m2, wl_m1, wl_0, wl_1, wl_2, wl_3, wl_4, wl_5, wl_6, wl_7, wl_8, wl_9, wl_10, wl_12, wl_13, wl_14, wl_16, wl_20, wl_21, wl_22, wl_23, wl_32, wl_36, wl_40, wl_41, wl_42, wl_43, wl_44, wl_45, wl_46, wl_47, wl_48, wl_57, wl_59, wl_60, wl_61, wl_62, wl_65, wl_90, wl_97, wl_99, wl_100, wl_121, wl_122, wl_140, wl_142, wl_143, wl_145, wl_147, wl_160, wl_161, wl_162, wl_242, wl_380, wl_400, wl_420, wl_820, wl_1340, wl_5480, wl_9999, true_and, and_true, true_or, or_true, if_true, if_false, and_self, or_self, false_and, and_false, false_or, or_false, not_true_eq_false, not_false_eq_true, Int.reduceEq, Int.reduceLT, Int.reduceLE, Int.reduceToNat, Int.reduceAdd, Int.reduceMul, Int.reduceSub, Int.reduceMod, Int.reduceDiv, Int.reduceNeg, Nat.reduceEqDiff, sm_rd_ok, sm_rd_ok2, sm_wt_ok, sm_cp_ok, Option.isSome_some, Option.getD_some, w_cont, Option.toList_some, Option.toList_none, List.cons_append, List.nil_append]
            refine (y3 _).trans ?_
            rw [w_cont]
            simp only [wr_id, wr_b2i, wr_wr, b2i_eq0, b2i_eq1, b2i_01, sm_rem_eq, sm_div_eq, wl_m2, wl_m1, wl_0, wl_1, wl_2, wl_3, wl_4, wl_5, wl_6, wl_7, wl_8, wl_9, wl_10, wl_12, wl_13, wl_14, wl_16, wl_20, wl_21, wl_22, wl_23, wl_32, wl_36, wl_40, wl_41, wl_42, wl_43, wl_44, wl_45, wl_46, wl_47, wl_48, wl_57, wl_59, wl_60, wl_61, wl_62, wl_65, wl_90, wl_97, wl_99, wl_100, wl_121, wl_122, wl_140, wl_142, wl_143, wl_145, wl_147, wl_160, wl_161, wl_162, wl_242, wl_380, wl_400, wl_420, wl_820, wl_1340, wl_5480, wl_9999, true_and, and_true, true_or, or_true, if_true, if_false, and_self, or_self, false_and, and_false, false_or, or_false, not_true_eq_false, not_false_eq_true, Int.reduceEq, Int.reduceLT, Int.reduceLE, Int.reduceToNat, Int.reduceAdd, Int.reduceMul, Int.reduceSub, Int.reduceMod, Int.reduceDiv, Int.reduceNeg, Nat.reduceEqDiff, sm_rd_ok, sm_rd_ok2, sm_wt_ok, sm_cp_ok, Option.isSome_some, Option.getD_some, w_cont, Option.toList_some, Option.toList_none, List.cons_append, List.nil_append]
            rw [b150_81]
            simp only [wr_id, wr_b2i, wr_wr, b2i_eq0, b2i_eq1, b2i_01, sm_rem_eq, sm_div_eq, wl_m2, wl_m1, wl_0, wl_1, wl_2, wl_3, wl_4, wl_5, wl_6, wl_7, wl_8, wl_9, wl_10, wl_12, wl_13, wl_14, wl_16, wl_20, wl_21, wl_22, wl_23, wl_32, wl_36, wl_40, wl_41, wl_42, wl_43, wl_44, wl_45, wl_46, wl_47, wl_48, wl_57, wl_59, wl_60, wl_61, wl_62, wl_65, wl_90, wl_97, wl_99, wl_100, wl_121, wl_122, wl_140, wl_142, wl_143, wl_145, wl_147, wl_160, wl_161, wl_162, wl_242, wl_380, wl_400, wl_420, wl_820, wl_1340, wl_5480, wl_9999, true_and, and_true, true_or, or_true, if_true, if_false, and_self, or_self, false_and, and_false, false_or, or_false, not_true_eq_false, not_false_eq_true, Int.reduceEq, Int.reduceLT, Int.reduceLE, Int.reduceToNat, Int.reduceAdd, Int.reduceMul, Int.reduceSub, Int.reduceMod, Int.reduceDiv, Int.reduceNeg, Nat.reduceEqDiff, sm_rd_ok, sm_rd_ok2, sm_wt_ok, sm_cp_ok, Option.isSome_some, Option.getD_some, w_cont, Option.toList_some, Option.toList_none, List.cons_append, List.nil_append]
            rfl
          · rw [if_neg v0] at e2
            have hlt1 : s1 < len := by
              rcases Nat.lt_or_ge s1 len with h | h
              · exact h
              · have := kt0.2.2.2 h; omega
            have hns1 := nsS_bd (T := T) hlt1
            obtain ⟨Z2, y1, y2, y3⟩ := m_nx (d := d + 1) (n := n) (z := z) H a1 hlt1
            obtain ⟨Z3, q1, q2, q3⟩ := m_lay1 (d := d + 8) (n := n) (z := z) H y1 (by omega) 16 (vlS T len s1)
            obtain ⟨Z4, r4, w1, w2⟩ := ih (nsS T len s1) ((16, vlS T len s1) :: ms) Z3 ((16 * vlS T len s1 + 2) :: (ops.reverse ++ rc)) [] (some (.inl 1)) (some (.inl (vlS T len s1))) (by omega) hns1.2 q1 (by simp; omega) (by intro k hk; cases hk) (by simp) (by simp; omega)
            refine ⟨Z4, r4, outc_pre (a := [(16, vlS T len s1)]) (frP_trans a2 (frP_trans y2 q2)) (rch_trans hr1 (rch_step hlt1 (by omega) e2)) (by simp; omega) w1 ?_, fun Q => ?_⟩
            · rintro s' new' c' ⟨ops', rc', x1, x2, x3, x4, x5⟩
              refine ⟨ops', rc', x1, x2, ?_, ?_, x5⟩
              · rw [x3, List.map_append, List.append_assoc]
                rfl
              · intro tt htt
                refine tyV_app _ _ _ _ _ ⟨false :: tt, rfl, ?_⟩ (x4 tt htt)
                right; right; left
                exact ⟨rfl, by show 0 < vlS T len s1 ∧ vlS T len s1 ≤ 9999; omega, ⟨tt, rfl⟩, rfl⟩
            · rw [run, if_pos t2, b150_72, kv, wr_id (by omega) (by omega), if_neg v0, b150_82, kk_79 H]
              simp only [wr_id, wr_b2i, wr_wr, b2i_eq0, b2i_eq1, b2i_01, sm_rem_eq, sm_div_eq, wl_m2, wl_m1, wl_0, wl_1, wl_2, wl_3, wl_4, wl_5, wl_6, wl_7, wl_8, wl_9, wl_10, wl_12, wl_13, wl_14, wl_16, wl_20, wl_21, wl_22, wl_23, wl_32, wl_36, wl_40, wl_41, wl_42, wl_43, wl_44, wl_45, wl_46, wl_47, wl_48, wl_57, wl_59, wl_60, wl_61, wl_62, wl_65, wl_90, wl_97, wl_99, wl_100, wl_121, wl_122, wl_140, wl_142, wl_143, wl_145, wl_147, wl_160, wl_161, wl_162, wl_242, wl_380, wl_400, wl_420, wl_820, wl_1340, wl_5480, wl_9999, true_and, and_true, true_or, or_true, if_true, if_false, and_self, or_self, false_and, and_false, false_or, or_false, not_true_eq_false, not_false_eq_true, Int.reduceEq, Int.reduceLT, Int.reduceLE, Int.reduceToNat, Int.reduceAdd, Int.reduceMul, Int.reduceSub, Int.reduceMod, Int.reduceDiv, Int.reduceNeg, Nat.reduceEqDiff, sm_rd_ok, sm_rd_ok2, sm_wt_ok, sm_cp_ok, Option.isSome_some, Option.getD_some, w_cont, Option.toList_some, Option.toList_none, List.cons_append, List.nil_append]
              refine (y3 _).trans ?_
              rw [w_cont]
              simp only [wr_id, wr_b2i, wr_wr, b2i_eq0, b2i_eq1, b2i_01, sm_rem_eq, sm_div_eq, wl_m2, wl_m1, wl_0, wl_1, wl_2, wl_3, wl_4, wl_5, wl_6, wl_7, wl_8, wl_9, wl_10, wl_12, wl_13, wl_14, wl_16, wl_20, wl_21, wl_22, wl_23, wl_32, wl_36, wl_40, wl_41, wl_42, wl_43, wl_44, wl_45, wl_46, wl_47, wl_48, wl_57, wl_59, wl_60, wl_61, wl_62, wl_65, wl_90, wl_97, wl_99, wl_100, wl_121, wl_122, wl_140, wl_142, wl_143, wl_145, wl_147, wl_160, wl_161, wl_162, wl_242, wl_380, wl_400, wl_420, wl_820, wl_1340, wl_5480, wl_9999, true_and, and_true, true_or, or_true, if_true, if_false, and_self, or_self, false_and, and_false, false_or, or_false, not_true_eq_false, not_false_eq_true, Int.reduceEq, Int.reduceLT, Int.reduceLE, Int.reduceToNat, Int.reduceAdd, Int.reduceMul, Int.reduceSub, Int.reduceMod, Int.reduceDiv, Int.reduceNeg, Nat.reduceEqDiff, sm_rd_ok, sm_rd_ok2, sm_wt_ok, sm_cp_ok, Option.isSome_some, Option.getD_some, w_cont, Option.toList_some, Option.toList_none, List.cons_append, List.nil_append]
              rw [b150_86, kk_79 H]
              simp only [wr_id, wr_b2i, wr_wr, b2i_eq0, b2i_eq1, b2i_01, sm_rem_eq, sm_div_eq, wl_m2, wl_m1, wl_0, wl_1, wl_2, wl_3, wl_4, wl_5, wl_6, wl_7, wl_8, wl_9, wl_10, wl_12, wl_13, wl_14, wl_16, wl_20, wl_21, wl_22, wl_23, wl_32, wl_36, wl_40, wl_41, wl_42, wl_43, wl_44, wl_45, wl_46, wl_47, wl_48, wl_57, wl_59, wl_60, wl_61, wl_62, wl_65, wl_90, wl_97, wl_99, wl_100, wl_121, wl_122, wl_140, wl_142, wl_143, wl_145, wl_147, wl_160, wl_161, wl_162, wl_242, wl_380, wl_400, wl_420, wl_820, wl_1340, wl_5480, wl_9999, true_and, and_true, true_or, or_true, if_true, if_false, and_self, or_self, false_and, and_false, false_or, or_false, not_true_eq_false, not_false_eq_true, Int.reduceEq, Int.reduceLT, Int.reduceLE, Int.reduceToNat, Int.reduceAdd, Int.reduceMul, Int.reduceSub, Int.reduceMod, Int.reduceDiv, Int.reduceNeg, Nat.reduceEqDiff, sm_rd_ok, sm_rd_ok2, sm_wt_ok, sm_cp_ok, Option.isSome_some, Option.getD_some, w_cont, Option.toList_some, Option.toList_none, List.cons_append, List.nil_append]
              refine (q3 _).trans ?_
              rw [w_cont]
              simp only [wr_id, wr_b2i, wr_wr, b2i_eq0, b2i_eq1, b2i_01, sm_rem_eq, sm_div_eq, wl_m2, wl_m1, wl_0, wl_1, wl_2, wl_3, wl_4, wl_5, wl_6, wl_7, wl_8, wl_9, wl_10, wl_12, wl_13, wl_14, wl_16, wl_20, wl_21, wl_22, wl_23, wl_32, wl_36, wl_40, wl_41, wl_42, wl_43, wl_44, wl_45, wl_46, wl_47, wl_48, wl_57, wl_59, wl_60, wl_61, wl_62, wl_65, wl_90, wl_97, wl_99, wl_100, wl_121, wl_122, wl_140, wl_142, wl_143, wl_145, wl_147, wl_160, wl_161, wl_162, wl_242, wl_380, wl_400, wl_420, wl_820, wl_1340, wl_5480, wl_9999, true_and, and_true, true_or, or_true, if_true, if_false, and_self, or_self, false_and, and_false, false_or, or_false, not_true_eq_false, not_false_eq_true, Int.reduceEq, Int.reduceLT, Int.reduceLE, Int.reduceToNat, Int.reduceAdd, Int.reduceMul, Int.reduceSub, Int.reduceMod, Int.reduceDiv, Int.reduceNeg, Nat.reduceEqDiff, sm_rd_ok, sm_rd_ok2, sm_wt_ok, sm_cp_ok, Option.isSome_some, Option.getD_some, w_cont, Option.toList_some, Option.toList_none, List.cons_append, List.nil_append]
              rw [b150_93, b150_112]
              exact w2 Q
        · rw [if_neg t2] at e2
          obtain ⟨Z2, y1, y2, y3⟩ := m_bad1 (d := d + 8) (n := n) (z := z) H a1 1
          refine ⟨Z2, false, outc_fail a2 hr1 (outc_bad (D := D) (ms := ms) (G := fun _ _ _ => True) y2 (by decide) (flt_step (fun g => (show ¬ (4 : Int) = 0 by decide) g.2) (by decide) (by rw [e2])) y1), fun Q => ?_⟩
          rw [run, if_neg t2, b150_66, kk_79 H]
          simp only [wr_id, wr_b2i, wr_wr, b2i_eq0, b2i_eq1, b2i_01, sm_rem_eq, sm_div_eq, wl_m2, wl_m1, wl_0, wl_1, wl_2, wl_3, wl_4, wl_5, wl_6, wl_7, wl_8, wl_9, wl_10, wl_12, wl_13, wl_14, wl_16, wl_20, wl_21, wl_22, wl_23, wl_32, wl_36, wl_40, wl_41, wl_42, wl_43, wl_44, wl_45, wl_46, wl_47, wl_48, wl_57, wl_59, wl_60, wl_61, wl_62, wl_65, wl_90, wl_97, wl_99, wl_100, wl_121, wl_122, wl_140, wl_142, wl_143, wl_145, wl_147, wl_160, wl_161, wl_162, wl_242, wl_380, wl_400, wl_420, wl_820, wl_1340, wl_5480, wl_9999, true_and, and_true, true_or, or_true, if_true, if_false, and_self, or_self, false_and, and_false, false_or, or_false, not_true_eq_false, not_false_eq_true, Int.reduceEq, Int.reduceLT, Int.reduceLE, Int.reduceToNat, Int.reduceAdd, Int.reduceMul, Int.reduceSub, Int.reduceMod, Int.reduceDiv, Int.reduceNeg, Nat.reduceEqDiff, sm_rd_ok, sm_rd_ok2, sm_wt_ok, sm_cp_ok, Option.isSome_some, Option.getD_some, w_cont, Option.toList_some, Option.toList_none, List.cons_append, List.nil_append]
          refine (y3 _).trans ?_
          rw [w_cont]
          simp only [wr_id, wr_b2i, wr_wr, b2i_eq0, b2i_eq1, b2i_01, sm_rem_eq, sm_div_eq, wl_m2, wl_m1, wl_0, wl_1, wl_2, wl_3, wl_4, wl_5, wl_6, wl_7, wl_8, wl_9, wl_10, wl_12, wl_13, wl_14, wl_16, wl_20, wl_21, wl_22, wl_23, wl_32, wl_36, wl_40, wl_41, wl_42, wl_43, wl_44, wl_45, wl_46, wl_47, wl_48, wl_57, wl_59, wl_60, wl_61, wl_62, wl_65, wl_90, wl_97, wl_99, wl_100, wl_121, wl_122, wl_140, wl_142, wl_143, wl_145, wl_147, wl_160, wl_161, wl_162, wl_242, wl_380, wl_400, wl_420, wl_820, wl_1340, wl_5480, wl_9999, true_and, and_true, true_or, or_true, if_true, if_false, and_self, or_self, false_and, and_false, false_or, or_false, not_true_eq_false, not_false_eq_true, Int.reduceEq, Int.reduceLT, Int.reduceLE, Int.reduceToNat, Int.reduceAdd, Int.reduceMul, Int.reduceSub, Int.reduceMod, Int.reduceDiv, Int.reduceNeg, Nat.reduceEqDiff, sm_rd_ok, sm_rd_ok2, sm_wt_ok, sm_cp_ok, Option.isSome_some, Option.getD_some, w_cont, Option.toList_some, Option.toList_none, List.cons_append, List.nil_append]
          rw [b150_71]
          simp only [wr_id, wr_b2i, wr_wr, b2i_eq0, b2i_eq1, b2i_01, sm_rem_eq, sm_div_eq, wl_m2, wl_m1, wl_0, wl_1, wl_2, wl_3, wl_4, wl_5, wl_6, wl_7, wl_8, wl_9, wl_10, wl_12, wl_13, wl_14, wl_16, wl_20, wl_21, wl_22, wl_23, wl_32, wl_36, wl_40, wl_41, wl_42, wl_43, wl_44, wl_45, wl_46, wl_47, wl_48, wl_57, wl_59, wl_60, wl_61, wl_62, wl_65, wl_90, wl_97, wl_99, wl_100, wl_121, wl_122, wl_140, wl_142, wl_143, wl_145, wl_147, wl_160, wl_161, wl_162, wl_242, wl_380, wl_400, wl_420, wl_820, wl_1340, wl_5480, wl_9999, true_and, and_true, true_or, or_true, if_true, if_false, and_self, or_self, false_and, and_false, false_or, or_false, not_true_eq_false, not_false_eq_true, Int.reduceEq, Int.reduceLT, Int.reduceLE, Int.reduceToNat, Int.reduceAdd, Int.reduceMul, Int.reduceSub, Int.reduceMod, Int.reduceDiv, Int.reduceNeg, Nat.reduceEqDiff, sm_rd_ok, sm_rd_ok2, sm_wt_ok, sm_cp_ok, Option.isSome_some, Option.getD_some, w_cont, Option.toList_some, Option.toList_none, List.cons_append, List.nil_append]
          rfl
      · refine ⟨Z, true, outc_end hs hp ⟨ops, rc, ⟨ho, hol⟩, rfl, rfl, fun tt _ => rfl, h1, h2⟩, fun Q => ?_⟩
        rw [b150_9, kk_79 H, h16]
        simp only [wr_id, wr_b2i, wr_wr, b2i_eq0, b2i_eq1, b2i_01, sm_rem_eq, sm_div_eq, wl_m2, wl_m1, wl_0, wl_1, wl_2, wl_3, wl_4, wl_5, wl_6, wl_7, wl_8, wl_9, wl_10, wl_12, wl_13, wl_14, wl_16, wl_20, wl_21, wl_22, wl_23, wl_32, wl_36, wl_40, wl_41, wl_42, wl_43, wl_44, wl_45, wl_46, wl_47, wl_48, wl_57, wl_59, wl_60, wl_61, wl_62, wl_65, wl_90, wl_97, wl_99, wl_100, wl_121, wl_122, wl_140, wl_142, wl_143, wl_145, wl_147, wl_160, wl_161, wl_162, wl_242, wl_380, wl_400, wl_420, wl_820, wl_1340, wl_5480, wl_9999, true_and, and_true, true_or, or_true, if_true, if_false, and_self, or_self, false_and, and_false, false_or, or_false, not_true_eq_false, not_false_eq_true, Int.reduceEq, Int.reduceLT, Int.reduceLE, Int.reduceToNat, Int.reduceAdd, Int.reduceMul, Int.reduceSub, Int.reduceMod, Int.reduceDiv, Int.reduceNeg, Nat.reduceEqDiff, sm_rd_ok, sm_rd_ok2, sm_wt_ok, sm_cp_ok, Option.isSome_some, Option.getD_some, w_cont, Option.toList_some, Option.toList_none, List.cons_append, List.nil_append]
        rw [wr_id (by omega) (by omega), if_neg h1, b150_19, kk_79 H, h16]
        simp only [wr_id, wr_b2i, wr_wr, b2i_eq0, b2i_eq1, b2i_01, sm_rem_eq, sm_div_eq, wl_m2, wl_m1, wl_0, wl_1, wl_2, wl_3, wl_4, wl_5, wl_6, wl_7, wl_8, wl_9, wl_10, wl_12, wl_13, wl_14, wl_16, wl_20, wl_21, wl_22, wl_23, wl_32, wl_36, wl_40, wl_41, wl_42, wl_43, wl_44, wl_45, wl_46, wl_47, wl_48, wl_57, wl_59, wl_60, wl_61, wl_62, wl_65, wl_90, wl_97, wl_99, wl_100, wl_121, wl_122, wl_140, wl_142, wl_143, wl_145, wl_147, wl_160, wl_161, wl_162, wl_242, wl_380, wl_400, wl_420, wl_820, wl_1340, wl_5480, wl_9999, true_and, and_true, true_or, or_true, if_true, if_false, and_self, or_self, false_and, and_false, false_or, or_false, not_true_eq_false, not_false_eq_true, Int.reduceEq, Int.reduceLT, Int.reduceLE, Int.reduceToNat, Int.reduceAdd, Int.reduceMul, Int.reduceSub, Int.reduceMod, Int.reduceDiv, Int.reduceNeg, Nat.reduceEqDiff, sm_rd_ok, sm_rd_ok2, sm_wt_ok, sm_cp_ok, Option.isSome_some, Option.getD_some, w_cont, Option.toList_some, Option.toList_none, List.cons_append, List.nil_append]
        rw [wr_id (by omega) (by omega), if_neg h2, b150_115]
        simp only [wr_id, wr_b2i, wr_wr, b2i_eq0, b2i_eq1, b2i_01, sm_rem_eq, sm_div_eq, wl_m2, wl_m1, wl_0, wl_1, wl_2, wl_3, wl_4, wl_5, wl_6, wl_7, wl_8, wl_9, wl_10, wl_12, wl_13, wl_14, wl_16, wl_20, wl_21, wl_22, wl_23, wl_32, wl_36, wl_40, wl_41, wl_42, wl_43, wl_44, wl_45, wl_46, wl_47, wl_48, wl_57, wl_59, wl_60, wl_61, wl_62, wl_65, wl_90, wl_97, wl_99, wl_100, wl_121, wl_122, wl_140, wl_142, wl_143, wl_145, wl_147, wl_160, wl_161, wl_162, wl_242, wl_380, wl_400, wl_420, wl_820, wl_1340, wl_5480, wl_9999, true_and, and_true, true_or, or_true, if_true, if_false, and_self, or_self, false_and, and_false, false_or, or_false, not_true_eq_false, not_false_eq_true, Int.reduceEq, Int.reduceLT, Int.reduceLE, Int.reduceToNat, Int.reduceAdd, Int.reduceMul, Int.reduceSub, Int.reduceMod, Int.reduceDiv, Int.reduceNeg, Nat.reduceEqDiff, sm_rd_ok, sm_rd_ok2, sm_wt_ok, sm_cp_ok, Option.isSome_some, Option.getD_some, w_cont, Option.toList_some, Option.toList_none, List.cons_append, List.nil_append]
        rfl
theorem m_prod (H : sm_sh Rf K) {s : Nat} {ms : List (Int × Int)} {Z : Nat → Nat → Int} (hp : pM Z T len s ms D) (hms : ms.length ≤ s) {rc pd : List Int} {st ln tn op br rt rt0 : Int} (hen : enU (tkS T len s) st rt rt0) (hcap : rc.length + pd.length + 1 ≤ s) (hpd : pd.length + 1 < 40) (hd : hdL 6 pd) : ∃ Z' r, outc T len Z Z' s ms D (rc, pd, st, ln, tn, op, br, rt) (GG 6 1 rc pd ln tn op br rt0 (ty1 30) (n6 T len)) r ∧ ∀ Q, sm_call (d + 9) 150 [.inr (some 79)] (Z, Rf, K, n, z) Q = Q (some (.inl (b2i r))) (Z', Rf, K, n, z) := by
  obtain ⟨Z1, r1, a1, a2⟩ := m_unit (d := d) (n := n) (z := z) (ln := ln) (tn := tn) (op := op) (br := br) H hp hms hen hcap (by omega)
  have run : ∀ Q, sm_call (d + 9) 150 [.inr (some 79)] (Z, Rf, K, n, z) Q = sm_wp (d + 9) 150 4 [some (.inr (some 79)), none, none] [.inl (b2i r1)] (Z1, Rf, K, n, z) Q := by
    intro Q
    rw [ce150, b150_0, kk_79 H]
    simp only [wr_id, wr_b2i, wr_wr, b2i_eq0, b2i_eq1, b2i_01, sm_rem_eq, sm_div_eq, wl_m2, wl_m1, wl_0, wl_1, wl_2, wl_3, wl_4, wl_5, wl_6, wl_7, wl_8, wl_9, wl_10, wl_12, wl_13, wl_14, wl_16, wl_20, wl_21, wl_22, wl_23, wl_32, wl_36, wl_40, wl_41, wl_42, wl_43, wl_44, wl_45, wl_46, wl_47, wl_48, wl_57, wl_59, wl_60, wl_61, wl_62, wl_65, wl_90, wl_97, wl_99, wl_100, wl_121, wl_122, wl_140, wl_142, wl_143, wl_145, wl_147, wl_160, wl_161, wl_162, wl_242, wl_380, wl_400, wl_420, wl_820, wl_1340, wl_5480, wl_9999, true_and, and_true, true_or, or_true, if_true, if_false, and_self, or_self, false_and, and_false, false_or, or_false, not_true_eq_false, not_false_eq_true, Int.reduceEq, Int.reduceLT, Int.reduceLE, Int.reduceToNat, Int.reduceAdd, Int.reduceMul, Int.reduceSub, Int.reduceMod, Int.reduceDiv, Int.reduceNeg, Nat.reduceEqDiff, sm_rd_ok, sm_rd_ok2, sm_wt_ok, sm_cp_ok, Option.isSome_some, Option.getD_some, w_cont, Option.toList_some, Option.toList_none, List.cons_append, List.nil_append]
    refine (a2 _).trans ?_
    rw [w_cont]
    rfl
  cases r1 with
  | false =>
    refine ⟨Z1, false, outc_fail (frP_refl Z) rch_refl a1, fun Q => ?_⟩
    rw [run, b150_4, if_pos (by decide), b150_7]
    simp only [wr_id, wr_b2i, wr_wr, b2i_eq0, b2i_eq1, b2i_01, sm_rem_eq, sm_div_eq, wl_m2, wl_m1, wl_0, wl_1, wl_2, wl_3, wl_4, wl_5, wl_6, wl_7, wl_8, wl_9, wl_10, wl_12, wl_13, wl_14, wl_16, wl_20, wl_21, wl_22, wl_23, wl_32, wl_36, wl_40, wl_41, wl_42, wl_43, wl_44, wl_45, wl_46, wl_47, wl_48, wl_57, wl_59, wl_60, wl_61, wl_62, wl_65, wl_90, wl_97, wl_99, wl_100, wl_121, wl_122, wl_140, wl_142, wl_143, wl_145, wl_147, wl_160, wl_161, wl_162, wl_242, wl_380, wl_400, wl_420, wl_820, wl_1340, wl_5480, wl_9999, true_and, and_true, true_or, or_true, if_true, if_false, and_self, or_self, false_and, and_false, false_or, or_false, not_true_eq_false, not_false_eq_true, Int.reduceEq, Int.reduceLT, Int.reduceLE, Int.reduceToNat, Int.reduceAdd, Int.reduceMul, Int.reduceSub, Int.reduceMod, Int.reduceDiv, Int.reduceNeg, Nat.reduceEqDiff, sm_rd_ok, sm_rd_ok2, sm_wt_ok, sm_cp_ok, Option.isSome_some, Option.getD_some, w_cont, Option.toList_some, Option.toList_none, List.cons_append, List.nil_append]
    rfl
  | true =>
    obtain ⟨c1, c2, _⟩ := a1
    obtain ⟨s2, new, cc, g1, g2, g3, g4, u, g5, g6, g7⟩ := c2 rfl
    rw [g5] at g4 g2
    rw [g6] at g1
    obtain ⟨Z4, r4, w1, w2⟩ := m_prod_loop (d := d) (n := n) (z := z) (ln := ln) (tn := tn) (op := op) (br := br) (rt := rt0) H hpd hd (len + 1) s2 ([u] ++ ms) Z1 (cO u :: rc) [] none none (by omega) g3 g4 (by simp at g2 ⊢; omega) (by intro k hk; cases hk) (by simp) (by simp at g2 ⊢; omega)
    refine ⟨Z4, r4, outc_pre (a := [u]) c1 g1 (by simp at g2 ⊢; omega) w1 ?_, fun Q => ?_⟩
    · rintro s' new' c' ⟨ops', rc', x1, x2, x3, x4, x5⟩
      refine ⟨ops', rc', x1, x2, ?_, ?_, x5⟩
      · rw [x3, List.map_append, List.append_assoc]
        rfl
      · intro tt htt
        exact tyV_app _ _ _ _ _ (g7 tt (by omega)) (x4 tt htt)
    · rw [run, b150_4, if_neg (by decide)]
      exact w2 Q
end SUMS
