/-- threads of the class (object t) as the model's; th: in thought -/
def rTh (Z : Nat → Nat → Int) (M : Nat → Int) (t : Nat) (th : Bool) : Prop := (∀ k, k < 242 → Z (t + 1) k = M (850 + k)) ∧ (∀ k, k < 242 → Z (t + 2) k = M (1092 + k)) ∧ ((th = true ∧ Z (t + 3) 0 = 0 ∧ Z (t + 3) 2 = 0) ∨ (th = false ∧ Z (t + 3) 0 = 99 ∧ Z (t + 3) 2 = M 6 ∧ ∀ i : Nat, (i : Int) < M 6 → ∀ c, c < 5 → Z (t + 4) (5 * i + c) = M (1340 + 5 * i + c)))
/-- how a threads object lies -/
def shT (Rf : Nat → Nat → Option Nat) (K : Nat → Nat × Nat) (t : Nat) (th : Bool) : Prop := (t = 21 ∧ th = false ∨ t = 64 ∧ th = true) ∧ K t = (9, 3) ∧ Rf t 0 = some (t + 1) ∧ Rf t 1 = some (t + 2) ∧ Rf t 2 = some (t + 3) ∧ K (t + 1) = (100, 242) ∧ K (t + 2) = (100, 242) ∧ K (t + 3) = (5, 3) ∧ Rf (t + 3) 1 = some (t + 4) ∧ K (t + 4) = (100, if th = true then 0 else 495)
theorem shT_21 {Rf : Nat → Nat → Option Nat} {K : Nat → Nat × Nat} (H : sm_sh Rf K) : shT Rf K 21 false := ⟨Or.inl ⟨rfl, rfl⟩, kk_21 H, rr_21_0 H, rr_21_1 H, rr_21_2 H, kk_22 H, kk_23 H, kk_24 H, rr_24_1 H, kk_25 H⟩
theorem shT_64 {Rf : Nat → Nat → Option Nat} {K : Nat → Nat × Nat} (H : sm_sh Rf K) : shT Rf K 64 true := ⟨Or.inr ⟨rfl, rfl⟩, kk_64 H, rr_64_0 H, rr_64_1 H, rr_64_2 H, kk_65 H, kk_66 H, kk_67 H, rr_67_1 H, kk_68 H⟩
theorem thS_hi {M : Nat → Int} {y : Nat} {s st : Int} (hy : y < 242) {k : Nat} (hk : k < 850 ∨ 1334 ≤ k) : thS M y s st k = M k := by
  unfold thS
  split
  · unfold mU
    rw [if_neg (by omega), if_neg (by omega)]
  · rfl
section CFLY1
variable {d n z : Nat} {Rf : Nat → Nat → Option Nat} {K : Nat → Nat × Nat} {M : Nat → Int} {x y s st : Int} {Z : Nat → Nat → Int} {Q : Option sm_V → sm_S → Prop} {t : Nat} {th : Bool}
theorem c_sue1 (H : sm_sh Rf K) (hz : sm_zs Z) (hT : shT Rf K t th) (hr : ∀ k, k < 242 → Z (t + 1) k = M (850 + k)) (hw : Z 1 0 = M 0 ∧ Z 1 1 = M 1) (hi : invF M) (hp : isP (M 0) (M 1) x y = true) (hs : 0 ≤ s ∧ s ≤ 7) (k : Nat) (hk : k < 4) (best : Int) (hb : -1 ≤ best ∧ best ≤ 7) (l5 l8 l9 : Option sm_V) : ∃ l8' l9', ∀ Q, sm_wp (d + 1) 79 17 [some (.inr (some t)), some (.inr (some 1)), some (.inl s), some (.inl x), some (.inl y), l5, some (.inl best), some (.inl (k : Int)), l8, l9] [] (Z, Rf, K, n, z) Q = sm_wp (d + 1) 79 17 [some (.inr (some t)), some (.inr (some 1)), some (.inl s), some (.inl x), some (.inl y), l5, some (.inl (otN (fun j => M (850 + j)) (M 0) (M 1) x y s (k : Int) best)), some (.inl ((k + 1 : Nat) : Int)), l8', l9'] [] (Z, Rf, K, n, z) Q := by
  have hsz := hi.1
  unfold szN at hsz
  have hp' := hp
  simp only [isP, decide_eq_true_eq] at hp'
  have hK1 : (K 1).1 = 1 := by rw [kk_1 H]
  obtain ⟨_, k0, r0, _, _, k1, _, _, _, _⟩ := hT
  have hyb := yF_bd (w := M 0) (h := M 1) x y (k : Int) hsz.1.2 hsz.2.2
  have head : ∀ Q, sm_wp (d + 1) 79 17 [some (.inr (some t)), some (.inr (some 1)), some (.inl s), some (.inl x), some (.inl y), l5, some (.inl best), some (.inl (k : Int)), l8, l9] [] (Z, Rf, K, n, z) Q = sm_wp (d + 1) 79 32 [some (.inr (some t)), some (.inr (some 1)), some (.inl s), some (.inl x), some (.inl y), l5, some (.inl best), some (.inl (k : Int)), l8, l9] [.inl (yF (M 0) (M 1) x y (k : Int))] (Z, Rf, K, n, z) Q := by
    intro Q
    rw [b79_17, wr_id (by omega) (by omega), if_neg (by omega), b79_23, kk_1 H, c_yardFrom H hz hK1 (by omega) (by omega) (by omega) (by omega) (by omega), w_cont, hw.1, hw.2]
    simp only [wr_id, wr_b2i, wr_wr, b2i_eq0, b2i_eq1, b2i_01, sm_rem_eq, sm_div_eq, wl_m2, wl_m1, wl_0, wl_1, wl_2, wl_3, wl_4, wl_5, wl_6, wl_7, wl_8, wl_9, wl_10, wl_12, wl_13, wl_14, wl_16, wl_20, wl_21, wl_22, wl_23, wl_32, wl_36, wl_40, wl_41, wl_42, wl_43, wl_44, wl_45, wl_46, wl_47, wl_48, wl_57, wl_59, wl_60, wl_61, wl_62, wl_65, wl_90, wl_97, wl_99, wl_100, wl_121, wl_122, wl_140, wl_142, wl_143, wl_145, wl_147, wl_160, wl_161, wl_162, wl_242, wl_380, wl_400, wl_420, wl_820, wl_1340, wl_5480, wl_9999, true_and, and_true, true_or, or_true, if_true, if_false, and_self, or_self, false_and, and_false, false_or, or_false, not_true_eq_false, not_false_eq_true, Int.reduceEq, Int.reduceLT, Int.reduceLE, Int.reduceToNat, Int.reduceAdd, Int.reduceMul, Int.reduceSub, Int.reduceMod, Int.reduceDiv, Int.reduceNeg, Nat.reduceEqDiff, sm_rd_ok, sm_rd_ok2, sm_wt_ok, sm_cp_ok, Option.isSome_some, Option.getD_some, w_cont, Option.toList_some, Option.toList_none, List.cons_append, List.nil_append]
  unfold otN
  by_cases h1 : yF (M 0) (M 1) x y (k : Int) = -1
  · refine ⟨some (.inl (-1)), some (.inl (-1)), fun Q => ?_⟩
    rw [head, b79_32, h1, wl_m1, if_pos rfl, if_pos rfl, b79_40, b79_51, wl_m1, if_pos rfl, b79_82]
    rfl
  · obtain ⟨n1, n2⟩ := yF_nat x y (k : Int) hsz.1.2 hsz.2.2 h1
    have hb2 := hi.2.1 _ n1
    refine ⟨some (.inl (yF (M 0) (M 1) x y (k : Int))), some (.inl (M (850 + (yF (M 0) (M 1) x y (k : Int)).toNat))), fun Q => ?_⟩
    rw [head, b79_32, wr_id (by omega) (by omega), if_neg h1, if_neg h1, b79_44, k0, r0]
    simp (disch := omega) only [wr_id, wr_b2i, wr_wr, b2i_eq0, b2i_eq1, b2i_01, sm_rem_eq, sm_div_eq, wl_m2, wl_m1, wl_0, wl_1, wl_2, wl_3, wl_4, wl_5, wl_6, wl_7, wl_8, wl_9, wl_10, wl_12, wl_13, wl_14, wl_16, wl_20, wl_21, wl_22, wl_23, wl_32, wl_36, wl_40, wl_41, wl_42, wl_43, wl_44, wl_45, wl_46, wl_47, wl_48, wl_57, wl_59, wl_60, wl_61, wl_62, wl_65, wl_90, wl_97, wl_99, wl_100, wl_121, wl_122, wl_140, wl_142, wl_143, wl_145, wl_147, wl_160, wl_161, wl_162, wl_242, wl_380, wl_400, wl_420, wl_820, wl_1340, wl_5480, wl_9999, true_and, and_true, true_or, or_true, if_true, if_false, and_self, or_self, false_and, and_false, false_or, or_false, not_true_eq_false, not_false_eq_true, Int.reduceEq, Int.reduceLT, Int.reduceLE, Int.reduceToNat, Int.reduceAdd, Int.reduceMul, Int.reduceSub, Int.reduceMod, Int.reduceDiv, Int.reduceNeg, Nat.reduceEqDiff, sm_rd_ok, sm_rd_ok2, sm_wt_ok, sm_cp_ok, Option.isSome_some, Option.getD_some, w_cont, Option.toList_some, Option.toList_none, List.cons_append, List.nil_append, k1]
    rw [hr _ n1, b79_51, wr_id (by omega) (by omega)]
    by_cases h3 : M (850 + (yF (M 0) (M 1) x y (k : Int)).toNat) = -1
    · rw [if_pos h3, if_pos (Or.inl h3), b79_82]
      rfl
    · rw [if_neg h3, b79_59, wr_id (by omega) (by omega), wr_id (by omega) (by omega)]
      by_cases h4 : M (850 + (yF (M 0) (M 1) x y (k : Int)).toNat) = s
      · rw [if_pos h4, if_pos (Or.inr h4), b79_82]
        rfl
      · rw [if_neg h4, if_neg (by omega), b79_65, wr_id (by omega) (by omega)]
        by_cases h5 : best = -1
        · rw [if_pos h5, if_pos (Or.inl h5), b79_78, b79_82]
          rfl
        · rw [if_neg h5, b79_71, wr_id (by omega) (by omega), wr_id (by omega) (by omega)]
          by_cases h6 : M (850 + (yF (M 0) (M 1) x y (k : Int)).toNat) < best
          · rw [if_neg (by omega), if_pos (Or.inr h6), b79_78, b79_82]
            rfl
          · rw [if_pos (by omega), if_neg (by omega), b79_82]
            rfl
theorem otS_bd {T : Nat → Int} {w h x y s : Int} (hT : ∀ k, k < 242 → -1 ≤ T k ∧ T k ≤ 7) (hw : w ≤ 10) (hh : h ≤ 10) : -1 ≤ otS T w h x y s ∧ otS T w h x y s ≤ 7 := by
  unfold otS
  exact otN_bd hT hw hh (otN_bd hT hw hh (otN_bd hT hw hh (otN_bd hT hw hh (by omega))))
/-- a suit as it is judged by the class: the model's state behind it -/
def sqS (M : Nat → Int) (th : Bool) (s x y st : Int) : Nat → Int := if otS (fun k => M (850 + k)) (M 0) (M 1) x y s = -1 then M else suS M th s (otS (fun k => M (850 + k)) (M 0) (M 1) x y s) x y st
theorem rTh_suS_th {o : Int} (h6 : 0 ≤ M 6 ∧ M 6 ≤ 99) (hr : rTh Z M t true) : rTh Z (suS M true s o x y st) t true := by
  obtain ⟨h1, h2, h3⟩ := hr
  refine ⟨fun k hk => ?_, fun k hk => ?_, ?_⟩
  · rw [suS_low h6 (by omega) (by omega)]; exact h1 k hk
  · rw [suS_low h6 (by omega) (by omega)]; exact h2 k hk
  · rcases h3 with h3 | h3
    · exact Or.inl h3
    · exact absurd h3.1 (by decide)
theorem rTh_suS {o : Int} (ht : t = 21) (h6 : 0 ≤ M 6 ∧ M 6 < 99) (hr : rTh Z M t false) : rTh (rAdd Z (t + 3) (t + 4) s o x y st) (suS M false s o x y st) t false := by
  obtain ⟨h1, h2, h3⟩ := hr
  have h3' : Z (t + 3) 0 = 99 ∧ Z (t + 3) 2 = M 6 ∧ ∀ i : Nat, (i : Int) < M 6 → ∀ c, c < 5 → Z (t + 4) (5 * i + c) = M (1340 + 5 * i + c) := by
    rcases h3 with h3 | h3
    · exact absurd h3.1 (by decide)
    · exact h3.2
  have e6 : suS M false s o x y st 6 = M 6 + 1 := by rw [suS_6, if_neg (by omega)]
  have row : ∀ a j, a ≠ t + 3 → a ≠ t + 4 → rAdd Z (t + 3) (t + 4) s o x y st a j = Z a j := by
    intro a j ha hb
    unfold rAdd
    rw [sm_u_ne ha, sm_u_ne hb, sm_u_ne hb, sm_u_ne hb, sm_u_ne hb, sm_u_ne hb]
  refine ⟨fun k hk => ?_, fun k hk => ?_, Or.inr ⟨rfl, ?_, ?_, ?_⟩⟩
  · rw [row _ _ (by omega) (by omega), suS_low (by omega) (by omega) (by omega)]; exact h1 k hk
  · rw [row _ _ (by omega) (by omega), suS_low (by omega) (by omega) (by omega)]; exact h2 k hk
  · unfold rAdd
    rw [sm_u_eq, if_neg (by omega), sm_u_ne (by omega), sm_u_ne (by omega), sm_u_ne (by omega), sm_u_ne (by omega), sm_u_ne (by omega)]
    exact h3'.1
  · unfold rAdd
    rw [sm_u_self, h3'.2.1, e6]
  · intro i hi c hc
    rw [e6] at hi
    unfold rAdd
    rw [sm_u_ne (by omega), h3'.2.1]
    unfold suS
    rw [if_neg (by omega)]
    simp only [sm_u_eq, mU, Bool.false_eq_true, if_false]
    have n0 : (M 6 * 5).toNat = 5 * (M 6).toNat := by omega
    have n1 : (M 6 * 5 + 1).toNat = 5 * (M 6).toNat + 1 := by omega
    have n2 : (M 6 * 5 + 2).toNat = 5 * (M 6).toNat + 2 := by omega
    have n3 : (M 6 * 5 + 3).toNat = 5 * (M 6).toNat + 3 := by omega
    have n4 : (M 6 * 5 + 4).toNat = 5 * (M 6).toNat + 4 := by omega
    have q0 : (1340 + 5 * M 6).toNat = 1340 + 5 * (M 6).toNat := by omega
    have q1 : (1340 + 5 * M 6 + 1).toNat = 1340 + 5 * (M 6).toNat + 1 := by omega
    have q2 : (1340 + 5 * M 6 + 2).toNat = 1340 + 5 * (M 6).toNat + 2 := by omega
    have q3 : (1340 + 5 * M 6 + 3).toNat = 1340 + 5 * (M 6).toNat + 3 := by omega
    have q4 : (1340 + 5 * M 6 + 4).toNat = 1340 + 5 * (M 6).toNat + 4 := by omega
    rw [n0, n1, n2, n3, n4, q0, q1, q2, q3, q4]
    by_cases hlt : (i : Int) < M 6
    · repeat rw [if_neg (by omega)]
      exact h3'.2.2 i hlt c hc
    · have hie : i = (M 6).toNat := by omega
      subst hie
      have hc5 : c = 0 ∨ c = 1 ∨ c = 2 ∨ c = 3 ∨ c = 4 := by omega
      rcases hc5 with rfl | rfl | rfl | rfl | rfl
      all_goals (repeat first | rw [if_pos (by omega)] | rw [if_neg (by omega)])
set_option maxHeartbeats 1000000 in
theorem c_sueAt (H : sm_sh Rf K) (hz : sm_zs Z) (hT : shT Rf K t th) (hr : rTh Z M t th) (hw : Z 1 0 = M 0 ∧ Z 1 1 = M 1) (hi : invF M) (hp : isP (M 0) (M 1) x y = true) (hs : 0 ≤ s ∧ s ≤ 7) : ∃ Z', rTh Z' (sqS M th s x y st) t th ∧ (∀ a, a ≠ t + 3 → a ≠ t + 4 → Z' a = Z a) ∧ ∀ Q, sm_call (d + 2) 79 [.inr (some t), .inr (some 1), .inl s, .inl x, .inl y, .inl st] (Z, Rf, K, n, z) Q = Q none (Z', Rf, K, n, z) := by
  have hsz := hi.1
  unfold szN at hsz
  have h6 := hi.2.2.2.1
  have hob := otS_bd (x := x) (y := y) (s := s) hi.2.1 hsz.1.2 hsz.2.2
  have hT' := hT
  obtain ⟨ht, k0, r0, r1, r2, k1, k2, k3, r3, k4⟩ := hT'
  have hK3 : (K (t + 3)).1 = 5 := by rw [k3]
  rcases ht with ⟨ht, hth⟩ | ⟨ht, hth⟩
  · subst hth
    have h3' : Z (t + 3) 0 = 99 ∧ Z (t + 3) 2 = M 6 ∧ ∀ i : Nat, (i : Int) < M 6 → ∀ c, c < 5 → Z (t + 4) (5 * i + c) = M (1340 + 5 * i + c) := by
      rcases hr.2.2 with h3 | h3
      · exact absurd h3.1 (by decide)
      · exact h3.2
    have head : ∀ Q, sm_call (d + 2) 79 [.inr (some t), .inr (some 1), .inl s, .inl x, .inl y, .inl st] (Z, Rf, K, n, z) Q = if M 6 = 99 then Q none (Z, Rf, K, n, z) else sm_wp (d + 2) 79 11 [some (.inr (some t)), some (.inr (some 1)), some (.inl s), some (.inl x), some (.inl y), some (.inl st), none, none, none, none] [] (Z, Rf, K, n, z) Q := by
      intro Q
      rw [ce79, b79_0, k0, r2]
      simp only [wr_id, wr_b2i, wr_wr, b2i_eq0, b2i_eq1, b2i_01, sm_rem_eq, sm_div_eq, wl_m2, wl_m1, wl_0, wl_1, wl_2, wl_3, wl_4, wl_5, wl_6, wl_7, wl_8, wl_9, wl_10, wl_12, wl_13, wl_14, wl_16, wl_20, wl_21, wl_22, wl_23, wl_32, wl_36, wl_40, wl_41, wl_42, wl_43, wl_44, wl_45, wl_46, wl_47, wl_48, wl_57, wl_59, wl_60, wl_61, wl_62, wl_65, wl_90, wl_97, wl_99, wl_100, wl_121, wl_122, wl_140, wl_142, wl_143, wl_145, wl_147, wl_160, wl_161, wl_162, wl_242, wl_380, wl_400, wl_420, wl_820, wl_1340, wl_5480, wl_9999, true_and, and_true, true_or, or_true, if_true, if_false, and_self, or_self, false_and, and_false, false_or, or_false, not_true_eq_false, not_false_eq_true, Int.reduceEq, Int.reduceLT, Int.reduceLE, Int.reduceToNat, Int.reduceAdd, Int.reduceMul, Int.reduceSub, Int.reduceMod, Int.reduceDiv, Int.reduceNeg, Nat.reduceEqDiff, sm_rd_ok, sm_rd_ok2, sm_wt_ok, sm_cp_ok, Option.isSome_some, Option.getD_some, w_cont, Option.toList_some, Option.toList_none, List.cons_append, List.nil_append, k3]
      rw [c_isFull hK3 (by omega) (by omega), w_cont, h3'.1, h3'.2.1]
      simp only [wr_id, wr_b2i, wr_wr, b2i_eq0, b2i_eq1, b2i_01, sm_rem_eq, sm_div_eq, wl_m2, wl_m1, wl_0, wl_1, wl_2, wl_3, wl_4, wl_5, wl_6, wl_7, wl_8, wl_9, wl_10, wl_12, wl_13, wl_14, wl_16, wl_20, wl_21, wl_22, wl_23, wl_32, wl_36, wl_40, wl_41, wl_42, wl_43, wl_44, wl_45, wl_46, wl_47, wl_48, wl_57, wl_59, wl_60, wl_61, wl_62, wl_65, wl_90, wl_97, wl_99, wl_100, wl_121, wl_122, wl_140, wl_142, wl_143, wl_145, wl_147, wl_160, wl_161, wl_162, wl_242, wl_380, wl_400, wl_420, wl_820, wl_1340, wl_5480, wl_9999, true_and, and_true, true_or, or_true, if_true, if_false, and_self, or_self, false_and, and_false, false_or, or_false, not_true_eq_false, not_false_eq_true, Int.reduceEq, Int.reduceLT, Int.reduceLE, Int.reduceToNat, Int.reduceAdd, Int.reduceMul, Int.reduceSub, Int.reduceMod, Int.reduceDiv, Int.reduceNeg, Nat.reduceEqDiff, sm_rd_ok, sm_rd_ok2, sm_wt_ok, sm_cp_ok, Option.isSome_some, Option.getD_some, w_cont, Option.toList_some, Option.toList_none, List.cons_append, List.nil_append]
      rw [b79_7]
      simp only [wr_id, wr_b2i, wr_wr, b2i_eq0, b2i_eq1, b2i_01, sm_rem_eq, sm_div_eq, wl_m2, wl_m1, wl_0, wl_1, wl_2, wl_3, wl_4, wl_5, wl_6, wl_7, wl_8, wl_9, wl_10, wl_12, wl_13, wl_14, wl_16, wl_20, wl_21, wl_22, wl_23, wl_32, wl_36, wl_40, wl_41, wl_42, wl_43, wl_44, wl_45, wl_46, wl_47, wl_48, wl_57, wl_59, wl_60, wl_61, wl_62, wl_65, wl_90, wl_97, wl_99, wl_100, wl_121, wl_122, wl_140, wl_142, wl_143, wl_145, wl_147, wl_160, wl_161, wl_162, wl_242, wl_380, wl_400, wl_420, wl_820, wl_1340, wl_5480, wl_9999, true_and, and_true, true_or, or_true, if_true, if_false, and_self, or_self, false_and, and_false, false_or, or_false, not_true_eq_false, not_false_eq_true, Int.reduceEq, Int.reduceLT, Int.reduceLE, Int.reduceToNat, Int.reduceAdd, Int.reduceMul, Int.reduceSub, Int.reduceMod, Int.reduceDiv, Int.reduceNeg, Nat.reduceEqDiff, sm_rd_ok, sm_rd_ok2, sm_wt_ok, sm_cp_ok, Option.isSome_some, Option.getD_some, w_cont, Option.toList_some, Option.toList_none, List.cons_append, List.nil_append, decide_eq_false_iff_not]
      by_cases h : M 6 = 99
      · rw [if_neg (by omega), if_pos h, b79_10]
      · rw [if_pos (by omega), if_neg h]
    by_cases hf : M 6 = 99
    · refine ⟨Z, ?_, fun a _ _ => rfl, fun Q => by rw [head, if_pos hf]⟩
      unfold sqS
      split
      · exact hr
      · unfold suS
        rw [if_pos hf]
        exact hr
    · obtain ⟨l8a, l9a, e0⟩ := c_sue1 (d := d + 1) (n := n) (z := z) H hz hT hr.1 hw hi hp hs 0 (by omega) (-1) (by omega) (some (.inl st)) none none
      have b0 := otN_bd (x := x) (y := y) (s := s) (k := ((0 : Nat) : Int)) (best := -1) hi.2.1 hsz.1.2 hsz.2.2 (by omega)
      obtain ⟨l8b, l9b, e1⟩ := c_sue1 (d := d + 1) (n := n) (z := z) H hz hT hr.1 hw hi hp hs 1 (by omega) _ b0 (some (.inl st)) l8a l9a
      have b1 := otN_bd (x := x) (y := y) (s := s) (k := ((1 : Nat) : Int)) hi.2.1 hsz.1.2 hsz.2.2 b0
      obtain ⟨l8c, l9c, e2⟩ := c_sue1 (d := d + 1) (n := n) (z := z) H hz hT hr.1 hw hi hp hs 2 (by omega) _ b1 (some (.inl st)) l8b l9b
      have b2 := otN_bd (x := x) (y := y) (s := s) (k := ((2 : Nat) : Int)) hi.2.1 hsz.1.2 hsz.2.2 b1
      obtain ⟨l8d, l9d, e3⟩ := c_sue1 (d := d + 1) (n := n) (z := z) H hz hT hr.1 hw hi hp hs 3 (by omega) _ b2 (some (.inl st)) l8c l9c
      have mid : ∀ Q, sm_call (d + 2) 79 [.inr (some t), .inr (some 1), .inl s, .inl x, .inl y, .inl st] (Z, Rf, K, n, z) Q = sm_wp (d + 2) 79 88 [some (.inr (some t)), some (.inr (some 1)), some (.inl s), some (.inl x), some (.inl y), some (.inl st), some (.inl (otS (fun k => M (850 + k)) (M 0) (M 1) x y s)), some (.inl 4), l8d, l9d] [] (Z, Rf, K, n, z) Q := by
        intro Q
        rw [head, if_neg hf, b79_11]
        refine (e0 Q).trans ((e1 Q).trans ((e2 Q).trans ((e3 Q).trans ?_)))
        rw [b79_17, wr_id (by omega) (by omega), if_pos (by omega)]
        rfl
      by_cases ho : otS (fun k => M (850 + k)) (M 0) (M 1) x y s = -1
      · refine ⟨Z, ?_, fun a _ _ => rfl, fun Q => ?_⟩
        · unfold sqS
          rw [if_pos ho]
          exact hr
        · rw [mid, b79_88, wr_id (by omega) (by omega), if_pos ho, b79_110]
      · refine ⟨rAdd Z (t + 3) (t + 4) s (otS (fun k => M (850 + k)) (M 0) (M 1) x y s) x y st, ?_, ?_, fun Q => ?_⟩
        · unfold sqS
          rw [if_neg ho]
          exact rTh_suS ht (by omega) hr
        · intro a ha hb
          unfold rAdd
          rw [sm_u_row ha, sm_u_row hb, sm_u_row hb, sm_u_row hb, sm_u_row hb, sm_u_row hb]
        · rw [mid, b79_88, wr_id (by omega) (by omega), if_neg ho, b79_94, k0, r2]
          simp only [wr_id, wr_b2i, wr_wr, b2i_eq0, b2i_eq1, b2i_01, sm_rem_eq, sm_div_eq, wl_m2, wl_m1, wl_0, wl_1, wl_2, wl_3, wl_4, wl_5, wl_6, wl_7, wl_8, wl_9, wl_10, wl_12, wl_13, wl_14, wl_16, wl_20, wl_21, wl_22, wl_23, wl_32, wl_36, wl_40, wl_41, wl_42, wl_43, wl_44, wl_45, wl_46, wl_47, wl_48, wl_57, wl_59, wl_60, wl_61, wl_62, wl_65, wl_90, wl_97, wl_99, wl_100, wl_121, wl_122, wl_140, wl_142, wl_143, wl_145, wl_147, wl_160, wl_161, wl_162, wl_242, wl_380, wl_400, wl_420, wl_820, wl_1340, wl_5480, wl_9999, true_and, and_true, true_or, or_true, if_true, if_false, and_self, or_self, false_and, and_false, false_or, or_false, not_true_eq_false, not_false_eq_true, Int.reduceEq, Int.reduceLT, Int.reduceLE, Int.reduceToNat, Int.reduceAdd, Int.reduceMul, Int.reduceSub, Int.reduceMod, Int.reduceDiv, Int.reduceNeg, Nat.reduceEqDiff, sm_rd_ok, sm_rd_ok2, sm_wt_ok, sm_cp_ok, Option.isSome_some, Option.getD_some, w_cont, Option.toList_some, Option.toList_none, List.cons_append, List.nil_append, k3]
          rw [c_add (len := 495) hK3 r3 (by omega) (by rw [k4]; rfl) (by omega) (by omega), if_neg (by omega), w_cont]
          simp only [wr_id, wr_b2i, wr_wr, b2i_eq0, b2i_eq1, b2i_01, sm_rem_eq, sm_div_eq, wl_m2, wl_m1, wl_0, wl_1, wl_2, wl_3, wl_4, wl_5, wl_6, wl_7, wl_8, wl_9, wl_10, wl_12, wl_13, wl_14, wl_16, wl_20, wl_21, wl_22, wl_23, wl_32, wl_36, wl_40, wl_41, wl_42, wl_43, wl_44, wl_45, wl_46, wl_47, wl_48, wl_57, wl_59, wl_60, wl_61, wl_62, wl_65, wl_90, wl_97, wl_99, wl_100, wl_121, wl_122, wl_140, wl_142, wl_143, wl_145, wl_147, wl_160, wl_161, wl_162, wl_242, wl_380, wl_400, wl_420, wl_820, wl_1340, wl_5480, wl_9999, true_and, and_true, true_or, or_true, if_true, if_false, and_self, or_self, false_and, and_false, false_or, or_false, not_true_eq_false, not_false_eq_true, Int.reduceEq, Int.reduceLT, Int.reduceLE, Int.reduceToNat, Int.reduceAdd, Int.reduceMul, Int.reduceSub, Int.reduceMod, Int.reduceDiv, Int.reduceNeg, Nat.reduceEqDiff, sm_rd_ok, sm_rd_ok2, sm_wt_ok, sm_cp_ok, Option.isSome_some, Option.getD_some, w_cont, Option.toList_some, Option.toList_none, List.cons_append, List.nil_append]
          rw [b79_109, b79_110]
  · subst hth
    have h3' : Z (t + 3) 0 = 0 ∧ Z (t + 3) 2 = 0 := by
      rcases hr.2.2 with h3 | h3
      · exact h3.2
      · exact absurd h3.1 (by decide)
    refine ⟨Z, ?_, fun a _ _ => rfl, fun Q => ?_⟩
    · unfold sqS
      split
      · exact hr
      · exact rTh_suS_th h6 hr
    · rw [ce79, b79_0, k0, r2]
      simp only [wr_id, wr_b2i, wr_wr, b2i_eq0, b2i_eq1, b2i_01, sm_rem_eq, sm_div_eq, wl_m2, wl_m1, wl_0, wl_1, wl_2, wl_3, wl_4, wl_5, wl_6, wl_7, wl_8, wl_9, wl_10, wl_12, wl_13, wl_14, wl_16, wl_20, wl_21, wl_22, wl_23, wl_32, wl_36, wl_40, wl_41, wl_42, wl_43, wl_44, wl_45, wl_46, wl_47, wl_48, wl_57, wl_59, wl_60, wl_61, wl_62, wl_65, wl_90, wl_97, wl_99, wl_100, wl_121, wl_122, wl_140, wl_142, wl_143, wl_145, wl_147, wl_160, wl_161, wl_162, wl_242, wl_380, wl_400, wl_420, wl_820, wl_1340, wl_5480, wl_9999, true_and, and_true, true_or, or_true, if_true, if_false, and_self, or_self, false_and, and_false, false_or, or_false, not_true_eq_false, not_false_eq_true, Int.reduceEq, Int.reduceLT, Int.reduceLE, Int.reduceToNat, Int.reduceAdd, Int.reduceMul, Int.reduceSub, Int.reduceMod, Int.reduceDiv, Int.reduceNeg, Nat.reduceEqDiff, sm_rd_ok, sm_rd_ok2, sm_wt_ok, sm_cp_ok, Option.isSome_some, Option.getD_some, w_cont, Option.toList_some, Option.toList_none, List.cons_append, List.nil_append, k3]
      rw [c_isFull hK3 (by omega) (by omega), w_cont, h3'.1, h3'.2]
      simp only [wr_id, wr_b2i, wr_wr, b2i_eq0, b2i_eq1, b2i_01, sm_rem_eq, sm_div_eq, wl_m2, wl_m1, wl_0, wl_1, wl_2, wl_3, wl_4, wl_5, wl_6, wl_7, wl_8, wl_9, wl_10, wl_12, wl_13, wl_14, wl_16, wl_20, wl_21, wl_22, wl_23, wl_32, wl_36, wl_40, wl_41, wl_42, wl_43, wl_44, wl_45, wl_46, wl_47, wl_48, wl_57, wl_59, wl_60, wl_61, wl_62, wl_65, wl_90, wl_97, wl_99, wl_100, wl_121, wl_122, wl_140, wl_142, wl_143, wl_145, wl_147, wl_160, wl_161, wl_162, wl_242, wl_380, wl_400, wl_420, wl_820, wl_1340, wl_5480, wl_9999, true_and, and_true, true_or, or_true, if_true, if_false, and_self, or_self, false_and, and_false, false_or, or_false, not_true_eq_false, not_false_eq_true, Int.reduceEq, Int.reduceLT, Int.reduceLE, Int.reduceToNat, Int.reduceAdd, Int.reduceMul, Int.reduceSub, Int.reduceMod, Int.reduceDiv, Int.reduceNeg, Nat.reduceEqDiff, sm_rd_ok, sm_rd_ok2, sm_wt_ok, sm_cp_ok, Option.isSome_some, Option.getD_some, w_cont, Option.toList_some, Option.toList_none, List.cons_append, List.nil_append]
      rw [b79_7]
      simp only [wr_id, wr_b2i, wr_wr, b2i_eq0, b2i_eq1, b2i_01, sm_rem_eq, sm_div_eq, wl_m2, wl_m1, wl_0, wl_1, wl_2, wl_3, wl_4, wl_5, wl_6, wl_7, wl_8, wl_9, wl_10, wl_12, wl_13, wl_14, wl_16, wl_20, wl_21, wl_22, wl_23, wl_32, wl_36, wl_40, wl_41, wl_42, wl_43, wl_44, wl_45, wl_46, wl_47, wl_48, wl_57, wl_59, wl_60, wl_61, wl_62, wl_65, wl_90, wl_97, wl_99, wl_100, wl_121, wl_122, wl_140, wl_142, wl_143, wl_145, wl_147, wl_160, wl_161, wl_162, wl_242, wl_380, wl_400, wl_420, wl_820, wl_1340, wl_5480, wl_9999, true_and, and_true, true_or, or_true, if_true, if_false, and_self, or_self, false_and, and_false, false_or, or_false, not_true_eq_false, not_false_eq_true, Int.reduceEq, Int.reduceLT, Int.reduceLE, Int.reduceToNat, Int.reduceAdd, Int.reduceMul, Int.reduceSub, Int.reduceMod, Int.reduceDiv, Int.reduceNeg, Nat.reduceEqDiff, sm_rd_ok, sm_rd_ok2, sm_wt_ok, sm_cp_ok, Option.isSome_some, Option.getD_some, w_cont, Option.toList_some, Option.toList_none, List.cons_append, List.nil_append, decide_eq_false_iff_not, decide_true, reduceCtorEq]
      rw [b79_10]
end CFLY1
