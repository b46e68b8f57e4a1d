theorem zDX {Z : Nat → Nat → Int} (hz : sm_zs Z) {h : Int} (hh : 0 ≤ h ∧ h ≤ 3) : Z 1000000 h.toNat = dX h ∧ Z 1000001 h.toNat = dY h := by
  have hc : h = 0 ∨ h = 1 ∨ h = 2 ∨ h = 3 := by omega
  rcases hc with rfl | rfl | rfl | rfl
  · exact ⟨(zs_0_0 hz).trans (by decide), (zs_1_0 hz).trans (by decide)⟩
  · exact ⟨(zs_0_1 hz).trans (by decide), (zs_1_1 hz).trans (by decide)⟩
  · exact ⟨(zs_0_2 hz).trans (by decide), (zs_1_2 hz).trans (by decide)⟩
  · exact ⟨(zs_0_3 hz).trans (by decide), (zs_1_3 hz).trans (by decide)⟩
theorem dXY_bd (h : Int) : (-1 ≤ dX h ∧ dX h ≤ 1) ∧ (-1 ≤ dY h ∧ dY h ≤ 1) := by
  unfold dX dY
  constructor
  · repeat' split
    all_goals omega
  · repeat' split
    all_goals omega
theorem rTh_thS {Z : Nat → Nat → Int} {M : Nat → Int} {t : Nat} {th : Bool} {y : Nat} {s st : Int} (ht : t = 21 ∨ t = 64) (hy : y < 242) (hr : rTh Z M t th) : rTh (if Z (t + 1) y = -1 then sm_u (sm_u Z (t + 1) y s) (t + 2) y st else Z) (thS M y s st) t th := by
  obtain ⟨h1, h2, h3⟩ := hr
  unfold thS
  rw [h1 y hy]
  by_cases h : M (850 + y) = -1
  · rw [if_pos h, if_pos h]
    refine ⟨fun k hk => ?_, fun k hk => ?_, ?_⟩
    · rw [sm_u_ne (by omega), sm_u_eq]
      unfold mU
      by_cases hky : k = y
      · rw [if_pos hky, if_neg (by omega), if_pos (by omega)]
      · rw [if_neg hky, if_neg (by omega), if_neg (by omega)]
        exact h1 k hk
    · rw [sm_u_eq, sm_u_ne (by omega)]
      unfold mU
      by_cases hky : k = y
      · rw [if_pos hky, if_pos (by omega)]
      · rw [if_neg hky, if_neg (by omega), if_neg (by omega)]
        exact h2 k hk
    · rw [sm_u_row (by omega), sm_u_row (by omega), sm_u_row (by omega), sm_u_row (by omega)]
      rcases h3 with h3 | h3
      · exact Or.inl h3
      · refine Or.inr ⟨h3.1, h3.2.1, ?_, ?_⟩
        · rw [h3.2.2.1]
          unfold mU
          rw [if_neg (by omega), if_neg (by omega)]
        · intro i hi c hc
          unfold mU at hi ⊢
          rw [if_neg (by omega), if_neg (by omega)] at hi
          rw [if_neg (by omega), if_neg (by omega)]
          exact h3.2.2.2 i hi c hc
  · rw [if_neg h, if_neg h]
    exact ⟨h1, h2, h3⟩
theorem rTh_row {Z Z' : Nat → Nat → Int} {M : Nat → Int} {t : Nat} {th : Bool} (h1 : Z' (t + 1) = Z (t + 1)) (h2 : Z' (t + 2) = Z (t + 2)) (h3 : Z' (t + 3) = Z (t + 3)) (h4 : Z' (t + 4) = Z (t + 4)) (hr : rTh Z M t th) : rTh Z' M t th := by
  unfold rTh at hr ⊢
  rw [h1, h2, h3, h4]
  exact hr
section CFLY3
variable {d n z : Nat} {Rf : Nat → Nat → Option Nat} {K : Nat → Nat × Nat} {Q : Option sm_V → sm_S → Prop} {t : Nat} {th : Bool}
set_option maxHeartbeats 4000000 in
theorem c_fly_loop (H : sm_sh Rf K) (hT : shT Rf K t th) (s k len a : Nat) (hs : s < 8) (hk : k < 4) (hl : len ≤ 60) (ha : Rf 18 k = some a) : ∀ (f st : Nat) (M : Nat → Int) (Z : Nat → Nat → Int) (x y h : Int) (l8 l9 : Option sm_V), st + f = len → invF M → rFx Z Rf K M → rSi Z M → rTh Z M t th → sm_zs Z → Z 51 5 = x → Z 51 6 = y → Z 51 7 = h → isP (M 0) (M 1) x y = true → (0 ≤ h ∧ h ≤ 3) → ∃ Z' l6' l8' l9', rTh Z' (flR th k (s : Int) (len : Int) f M x y h (st : Int)).1 t th ∧ Z' 51 5 = (flR th k (s : Int) (len : Int) f M x y h (st : Int)).2.1 ∧ Z' 51 6 = (flR th k (s : Int) (len : Int) f M x y h (st : Int)).2.2.1 ∧ Z' 51 7 = (flR th k (s : Int) (len : Int) f M x y h (st : Int)).2.2.2.1 ∧ frC Z Z' t ∧ ∀ Q, sm_wp (d + 3) 61 65 [some (.inr (some 51)), some (.inr (some 1)), some (.inr (some t)), some (.inl (s : Int)), some (.inr (some a)), some (.inl (len : Int)), some (.inl 1), some (.inl (st : Int)), l8, l9] [] (Z, Rf, K, n, z) Q = sm_wp (d + 3) 61 278 [some (.inr (some 51)), some (.inr (some 1)), some (.inr (some t)), some (.inl (s : Int)), some (.inr (some a)), some (.inl (len : Int)), l6', some (.inl (flR th k (s : Int) (len : Int) f M x y h (st : Int)).2.2.2.2), l8', l9'] [] (Z', Rf, K, n, z) Q := by
  have ht : t = 21 ∨ t = 64 := by rcases hT.1 with h | h <;> omega
  have hT' := hT
  obtain ⟨_, k0, q0, q1, q2, k1, k2, k3, q3, k4⟩ := hT'
  have hK1 : (K 1).1 = 1 := by rw [kk_1 H]
  have hK9 : (K t).1 = 9 := by rw [k0]
  intro f
  induction f with
  | zero =>
    intro st M Z x y h l8 l9 hst hi hx hsi hr hz h5 h6 h7 hp hh
    refine ⟨Z, some (.inl 1), l8, l9, hr, h5, h6, h7, fun a _ _ _ _ _ _ _ => rfl, fun Q => ?_⟩
    rw [b61_65, wl_1, if_neg (by decide), b61_70, wr_id (by omega) (by omega), wr_id (by omega) (by omega), if_pos (by omega)]
    rfl
  | succ f ih =>
    intro st M Z x y h l8 l9 hst hi hx hsi hr hz h5 h6 h7 hp hh
    obtain ⟨a', q, L, P, u1, u2, u3, u4, u5, hw, u7, u8, u9⟩ := hx.2.2.2.2.2.1 k hk
    have haa : a' = a := by rw [ha] at u1; exact (Option.some.inj u1).symm
    subst haa
    have hsz := hi.1
    unfold szN at hsz
    have hp' := hp
    simp only [isP, decide_eq_true_eq] at hp'
    have hLn : (M (1985 + k)).toNat = L := by rw [hw.1]; omega
    obtain ⟨Z1, f1, f2, f3⟩ := c_lookAhead (d := d + 1) (n := n) (z := z) (M := M) H hz hK9 q0 k1 (by omega) hi.1 hx.1 h5 h6 h7 hh hp hsi hr.1 (fun k hk => by have := hi.2.1 k hk; exact ⟨by omega, by omega⟩)
    let Z2 := sm_u (sm_u (sm_u Z1 61 6 (st : Int)) 61 7 ((len : Int) - (st : Int))) 61 8 (s : Int)
    have r2 : ∀ a, a ≠ 61 → Z2 a = Z a := fun a ha => by
      show sm_u (sm_u (sm_u Z1 61 6 _) 61 7 _) 61 8 _ a = _
      rw [sm_u_row ha, sm_u_row ha, sm_u_row ha, f1 a ha]
    have hF : ∀ i, 1 ≤ i → i ≤ 9 → Z2 61 (i - 1).toNat = fcS M x y h (st : Int) ((len : Int) - (st : Int)) (s : Int) i := by
      intro i g1 g2
      show sm_u (sm_u (sm_u Z1 61 6 _) 61 7 _) 61 8 _ 61 _ = _
      by_cases h9 : i = 9
      · subst h9; rfl
      · by_cases h8 : i = 8
        · subst h8; rfl
        · by_cases h7 : i = 7
          · subst h7; rfl
          · rw [sm_u_eq, if_neg (by omega), sm_u_eq, if_neg (by omega), sm_u_eq, if_neg (by omega)]
            exact f2 i _ _ _ g1 (by omega)
    obtain ⟨Z3, t1, t2⟩ := c_choose (d := d + 1) (n := n) (z := z) (F := fcS M x y h (st : Int) ((len : Int) - (st : Int)) (s : Int)) H (Z := Z2) hw u2 u3 u7 (by omega) (by rw [r2 q (by omega)]; exact u8) hF
    have r3 : ∀ a, a ≠ 61 → a ≠ 62 → Z3 a = Z a := fun a g1 g2 => by rw [t1 a g2, r2 a g1]
    have htb := toR_bd (F := fcS M x y h (st : Int) ((len : Int) - (st : Int)) (s : Int)) hw L 0 (by omega)
    generalize htn : toR M k (fcS M x y h (st : Int) ((len : Int) - (st : Int)) (s : Int)) L 0 = tn at htb t2
    have hcb := cW_bd htb
    have hmir := hi.2.2.2.2.2.1 (11 * y + x).toNat (by omega)
    have nm : (720 + 11 * y + x).toNat = 720 + (11 * y + x).toNat := by omega
    have hm9 : Z3 9 (y * 11 + x).toNat = M (720 + 11 * y + x).toNat := by
      rw [r3 9 (by decide) (by decide), hx.2.2.1 _ (by omega), nm, show y * 11 + x = 11 * y + x by omega]
    obtain ⟨mb, hmb⟩ : ∃ mb : Bool, b2i mb = M (720 + 11 * y + x).toNat := by
      rw [nm]
      rcases hmir with e | e
      · exact ⟨false, by rw [e]; rfl⟩
      · exact ⟨true, by rw [e]; rfl⟩
    have hz3 : sm_zs Z3 := zs_fr hz (fun a ha => r3 a (by omega) (by omega))
    have w3 : Z3 1 = Z 1 := r3 1 (by decide) (by decide)
    have hsC : szC Z3 := by unfold szC; rw [w3, hx.1.1, hx.1.2]; exact hsz
    let h' := hdA h (cW tn) mb
    have hhb : 0 ≤ h' ∧ h' ≤ 3 := by
      show 0 ≤ hdA h (cW tn) mb ∧ hdA h (cW tn) mb ≤ 3
      unfold hdA
      repeat' split
      all_goals omega
    let Z4 := sm_u Z3 51 7 h'
    have hyb := yF_bd (w := M 0) (h := M 1) x y h' hsz.1.2 hsz.2.2
    have r4 : ∀ a, a ≠ 61 → a ≠ 62 → a ≠ 51 → Z4 a = Z a := fun a g1 g2 g3 => by
      show sm_u Z3 51 7 _ a = _
      rw [sm_u_row g3, r3 a g1 g2]
    have hz4 : sm_zs Z4 := zs_fr hz (fun a ha => r4 a (by omega) (by omega) (by omega))
    have h45 : Z4 51 5 = x := by
      show sm_u Z3 51 7 _ 51 5 = _
      rw [sm_u_eq, if_neg (by decide), r3 51 (by decide) (by decide)]; exact h5
    have h46 : Z4 51 6 = y := by
      show sm_u Z3 51 7 _ 51 6 = _
      rw [sm_u_eq, if_neg (by decide), r3 51 (by decide) (by decide)]; exact h6
    have h47 : Z4 51 7 = h' := by
      show sm_u Z3 51 7 _ 51 7 = _
      rw [sm_u_self]
    have hw4 : Z4 1 0 = M 0 ∧ Z4 1 1 = M 1 := by rw [r4 1 (by decide) (by decide) (by decide)]; exact hx.1
    have hr4 : rTh Z4 M t th := rTh_row (r4 _ (by omega) (by omega) (by omega)) (r4 _ (by omega) (by omega) (by omega)) (r4 _ (by omega) (by omega) (by omega)) (r4 _ (by omega) (by omega) (by omega)) hr
    have head : ∀ Q, sm_wp (d + 3) 61 65 [some (.inr (some 51)), some (.inr (some 1)), some (.inr (some t)), some (.inl (s : Int)), some (.inr (some a')), some (.inl (len : Int)), some (.inl 1), some (.inl (st : Int)), l8, l9] [] (Z, Rf, K, n, z) Q = if cW tn = 4 ∨ yF (M 0) (M 1) x y h' = -1 then sm_wp (d + 3) 61 278 [some (.inr (some 51)), some (.inr (some 1)), some (.inr (some t)), some (.inl (s : Int)), some (.inr (some a')), some (.inl (len : Int)), some (.inl 0), some (.inl (st : Int)), some (.inl (cW tn)), some (.inl (yF (M 0) (M 1) x y h'))] [] (Z4, Rf, K, n, z) Q else sm_wp (d + 3) 61 191 [some (.inr (some 51)), some (.inr (some 1)), some (.inr (some t)), some (.inl (s : Int)), some (.inr (some a')), some (.inl (len : Int)), some (.inl 1), some (.inl (st : Int)), some (.inl (cW tn)), some (.inl (yF (M 0) (M 1) x y h'))] [] (Z4, Rf, K, n, z) Q := by
      intro Q
      rw [b61_65, wl_1, if_neg (by decide), b61_70, wr_id (by omega) (by omega), wr_id (by omega) (by omega), if_neg (by omega), b61_77, kk_51 H, f3, w_cont]
      simp only [wr_id, wr_b2i, wr_wr, b2i_eq0, b2i_eq1, b2i_01, sm_rem_eq, sm_div_eq, wl_m2, wl_m1, wl_0, wl_1, wl_2, wl_3, wl_4, wl_5, wl_6, wl_7, wl_8, wl_9, wl_10, wl_12, wl_13, wl_14, wl_16, wl_20, wl_21, wl_22, wl_23, wl_32, wl_36, wl_40, wl_41, wl_42, wl_43, wl_44, wl_45, wl_46, wl_47, wl_48, wl_57, wl_59, wl_60, wl_61, wl_62, wl_65, wl_90, wl_97, wl_99, wl_100, wl_121, wl_122, wl_140, wl_142, wl_143, wl_145, wl_147, wl_160, wl_161, wl_162, wl_242, wl_380, wl_400, wl_420, wl_820, wl_1340, wl_5480, wl_9999, true_and, and_true, true_or, or_true, if_true, if_false, and_self, or_self, false_and, and_false, false_or, or_false, not_true_eq_false, not_false_eq_true, Int.reduceEq, Int.reduceLT, Int.reduceLE, Int.reduceToNat, Int.reduceAdd, Int.reduceMul, Int.reduceSub, Int.reduceMod, Int.reduceDiv, Int.reduceNeg, Nat.reduceEqDiff, sm_rd_ok, sm_rd_ok2, sm_wt_ok, sm_cp_ok, Option.isSome_some, Option.getD_some, w_cont, Option.toList_some, Option.toList_none, List.cons_append, List.nil_append]
      rw [b61_83, kk_51 H, rr_51_3 H, rr_51_4 H, u2]
      simp (disch := omega) only [wr_id, wr_b2i, wr_wr, b2i_eq0, b2i_eq1, b2i_01, sm_rem_eq, sm_div_eq, wl_m2, wl_m1, wl_0, wl_1, wl_2, wl_3, wl_4, wl_5, wl_6, wl_7, wl_8, wl_9, wl_10, wl_12, wl_13, wl_14, wl_16, wl_20, wl_21, wl_22, wl_23, wl_32, wl_36, wl_40, wl_41, wl_42, wl_43, wl_44, wl_45, wl_46, wl_47, wl_48, wl_57, wl_59, wl_60, wl_61, wl_62, wl_65, wl_90, wl_97, wl_99, wl_100, wl_121, wl_122, wl_140, wl_142, wl_143, wl_145, wl_147, wl_160, wl_161, wl_162, wl_242, wl_380, wl_400, wl_420, wl_820, wl_1340, wl_5480, wl_9999, true_and, and_true, true_or, or_true, if_true, if_false, and_self, or_self, false_and, and_false, false_or, or_false, not_true_eq_false, not_false_eq_true, Int.reduceEq, Int.reduceLT, Int.reduceLE, Int.reduceToNat, Int.reduceAdd, Int.reduceMul, Int.reduceSub, Int.reduceMod, Int.reduceDiv, Int.reduceNeg, Nat.reduceEqDiff, sm_rd_ok, sm_rd_ok2, sm_wt_ok, sm_cp_ok, Option.isSome_some, Option.getD_some, w_cont, Option.toList_some, Option.toList_none, List.cons_append, List.nil_append, kk_61 H]
      have t3 := t2 (sm_cont (d + 3) 61 125 [some (.inr (some 51)), some (.inr (some 1)), some (.inr (some t)), some (.inl (s : Int)), some (.inr (some a')), some (.inl (len : Int)), some (.inl 1), some (.inl (st : Int)), l8, l9] [] Q)
      refine Eq.trans t3 ?_
      rw [w_cont]
      simp only [wr_id, wr_b2i, wr_wr, b2i_eq0, b2i_eq1, b2i_01, sm_rem_eq, sm_div_eq, wl_m2, wl_m1, wl_0, wl_1, wl_2, wl_3, wl_4, wl_5, wl_6, wl_7, wl_8, wl_9, wl_10, wl_12, wl_13, wl_14, wl_16, wl_20, wl_21, wl_22, wl_23, wl_32, wl_36, wl_40, wl_41, wl_42, wl_43, wl_44, wl_45, wl_46, wl_47, wl_48, wl_57, wl_59, wl_60, wl_61, wl_62, wl_65, wl_90, wl_97, wl_99, wl_100, wl_121, wl_122, wl_140, wl_142, wl_143, wl_145, wl_147, wl_160, wl_161, wl_162, wl_242, wl_380, wl_400, wl_420, wl_820, wl_1340, wl_5480, wl_9999, true_and, and_true, true_or, or_true, if_true, if_false, and_self, or_self, false_and, and_false, false_or, or_false, not_true_eq_false, not_false_eq_true, Int.reduceEq, Int.reduceLT, Int.reduceLE, Int.reduceToNat, Int.reduceAdd, Int.reduceMul, Int.reduceSub, Int.reduceMod, Int.reduceDiv, Int.reduceNeg, Nat.reduceEqDiff, sm_rd_ok, sm_rd_ok2, sm_wt_ok, sm_cp_ok, Option.isSome_some, Option.getD_some, w_cont, Option.toList_some, Option.toList_none, List.cons_append, List.nil_append]
      rw [b61_125, kk_51 H, kk_1 H, r3 51 (by decide) (by decide), h5, h6, c_hasMirror H hsC (by rw [w3, hx.1.1, hx.1.2]; exact hp) (by rw [hm9, nm]; exact hmir), w_cont, hm9, ← hmb]
      simp only [wr_id, wr_b2i, wr_wr, b2i_eq0, b2i_eq1, b2i_01, sm_rem_eq, sm_div_eq, wl_m2, wl_m1, wl_0, wl_1, wl_2, wl_3, wl_4, wl_5, wl_6, wl_7, wl_8, wl_9, wl_10, wl_12, wl_13, wl_14, wl_16, wl_20, wl_21, wl_22, wl_23, wl_32, wl_36, wl_40, wl_41, wl_42, wl_43, wl_44, wl_45, wl_46, wl_47, wl_48, wl_57, wl_59, wl_60, wl_61, wl_62, wl_65, wl_90, wl_97, wl_99, wl_100, wl_121, wl_122, wl_140, wl_142, wl_143, wl_145, wl_147, wl_160, wl_161, wl_162, wl_242, wl_380, wl_400, wl_420, wl_820, wl_1340, wl_5480, wl_9999, true_and, and_true, true_or, or_true, if_true, if_false, and_self, or_self, false_and, and_false, false_or, or_false, not_true_eq_false, not_false_eq_true, Int.reduceEq, Int.reduceLT, Int.reduceLE, Int.reduceToNat, Int.reduceAdd, Int.reduceMul, Int.reduceSub, Int.reduceMod, Int.reduceDiv, Int.reduceNeg, Nat.reduceEqDiff, sm_rd_ok, sm_rd_ok2, sm_wt_ok, sm_cp_ok, Option.isSome_some, Option.getD_some, w_cont, Option.toList_some, Option.toList_none, List.cons_append, List.nil_append]
      rw [b61_143, kk_51 H, c_headingAfter H (by rw [r3 51 (by decide) (by decide), h7]; exact hh) hcb, w_cont, r3 51 (by decide) (by decide), h7]
      simp only [wr_id, wr_b2i, wr_wr, b2i_eq0, b2i_eq1, b2i_01, sm_rem_eq, sm_div_eq, wl_m2, wl_m1, wl_0, wl_1, wl_2, wl_3, wl_4, wl_5, wl_6, wl_7, wl_8, wl_9, wl_10, wl_12, wl_13, wl_14, wl_16, wl_20, wl_21, wl_22, wl_23, wl_32, wl_36, wl_40, wl_41, wl_42, wl_43, wl_44, wl_45, wl_46, wl_47, wl_48, wl_57, wl_59, wl_60, wl_61, wl_62, wl_65, wl_90, wl_97, wl_99, wl_100, wl_121, wl_122, wl_140, wl_142, wl_143, wl_145, wl_147, wl_160, wl_161, wl_162, wl_242, wl_380, wl_400, wl_420, wl_820, wl_1340, wl_5480, wl_9999, true_and, and_true, true_or, or_true, if_true, if_false, and_self, or_self, false_and, and_false, false_or, or_false, not_true_eq_false, not_false_eq_true, Int.reduceEq, Int.reduceLT, Int.reduceLE, Int.reduceToNat, Int.reduceAdd, Int.reduceMul, Int.reduceSub, Int.reduceMod, Int.reduceDiv, Int.reduceNeg, Nat.reduceEqDiff, sm_rd_ok, sm_rd_ok2, sm_wt_ok, sm_cp_ok, Option.isSome_some, Option.getD_some, w_cont, Option.toList_some, Option.toList_none, List.cons_append, List.nil_append]
      rw [b61_146, kk_51 H, kk_1 H]
      simp only [wr_id, wr_b2i, wr_wr, b2i_eq0, b2i_eq1, b2i_01, sm_rem_eq, sm_div_eq, wl_m2, wl_m1, wl_0, wl_1, wl_2, wl_3, wl_4, wl_5, wl_6, wl_7, wl_8, wl_9, wl_10, wl_12, wl_13, wl_14, wl_16, wl_20, wl_21, wl_22, wl_23, wl_32, wl_36, wl_40, wl_41, wl_42, wl_43, wl_44, wl_45, wl_46, wl_47, wl_48, wl_57, wl_59, wl_60, wl_61, wl_62, wl_65, wl_90, wl_97, wl_99, wl_100, wl_121, wl_122, wl_140, wl_142, wl_143, wl_145, wl_147, wl_160, wl_161, wl_162, wl_242, wl_380, wl_400, wl_420, wl_820, wl_1340, wl_5480, wl_9999, true_and, and_true, true_or, or_true, if_true, if_false, and_self, or_self, false_and, and_false, false_or, or_false, not_true_eq_false, not_false_eq_true, Int.reduceEq, Int.reduceLT, Int.reduceLE, Int.reduceToNat, Int.reduceAdd, Int.reduceMul, Int.reduceSub, Int.reduceMod, Int.reduceDiv, Int.reduceNeg, Nat.reduceEqDiff, sm_rd_ok, sm_rd_ok2, sm_wt_ok, sm_cp_ok, Option.isSome_some, Option.getD_some, w_cont, Option.toList_some, Option.toList_none, List.cons_append, List.nil_append]
      show sm_call (d + 2) 11 [.inr (some 1), .inl (Z4 51 5), .inl (Z4 51 6), .inl (Z4 51 7)] (Z4, Rf, K, n, z) _ = _
      rw [h45, h46, h47, c_yardFrom H hz4 hK1 (by rw [hw4.1]; exact hsz.1) (by rw [hw4.2]; exact hsz.2) (by omega) (by omega) (by omega), w_cont, hw4.1, hw4.2]
      simp only [wr_id, wr_b2i, wr_wr, b2i_eq0, b2i_eq1, b2i_01, sm_rem_eq, sm_div_eq, wl_m2, wl_m1, wl_0, wl_1, wl_2, wl_3, wl_4, wl_5, wl_6, wl_7, wl_8, wl_9, wl_10, wl_12, wl_13, wl_14, wl_16, wl_20, wl_21, wl_22, wl_23, wl_32, wl_36, wl_40, wl_41, wl_42, wl_43, wl_44, wl_45, wl_46, wl_47, wl_48, wl_57, wl_59, wl_60, wl_61, wl_62, wl_65, wl_90, wl_97, wl_99, wl_100, wl_121, wl_122, wl_140, wl_142, wl_143, wl_145, wl_147, wl_160, wl_161, wl_162, wl_242, wl_380, wl_400, wl_420, wl_820, wl_1340, wl_5480, wl_9999, true_and, and_true, true_or, or_true, if_true, if_false, and_self, or_self, false_and, and_false, false_or, or_false, not_true_eq_false, not_false_eq_true, Int.reduceEq, Int.reduceLT, Int.reduceLE, Int.reduceToNat, Int.reduceAdd, Int.reduceMul, Int.reduceSub, Int.reduceMod, Int.reduceDiv, Int.reduceNeg, Nat.reduceEqDiff, sm_rd_ok, sm_rd_ok2, sm_wt_ok, sm_cp_ok, Option.isSome_some, Option.getD_some, w_cont, Option.toList_some, Option.toList_none, List.cons_append, List.nil_append]
      rw [b61_165, wr_id (by omega) (by omega)]
      by_cases g1 : cW tn = 4
      · rw [if_pos g1, if_pos (Or.inl g1), b61_183, b61_184, wl_0, if_pos rfl, b61_275, b61_65, wl_0, if_pos rfl]
      · rw [if_neg g1, b61_173, wr_id (by omega) (by omega)]
        by_cases g2 : yF (M 0) (M 1) x y h' = -1
        · rw [if_pos g2, if_pos (Or.inr g2), b61_183, b61_184, wl_0, if_pos rfl, b61_275, b61_65, wl_0, if_pos rfl]
        · rw [if_neg g2, if_neg (by intro hh; rcases hh with hh | hh <;> contradiction), b61_179, b61_184, wl_1, if_neg (by decide)]
    have fr4 : frC Z Z4 t := fun a g1 g2 g3 _ _ _ _ => r4 a g2 g3 g1
    simp only [flR]
    rw [hLn, htn]
    by_cases g4 : tn = 4
    · rw [if_pos g4]
      have hh4 : h' = h := by
        show hdA h (cW tn) mb = h
        rw [g4]
        rfl
      refine ⟨Z4, some (.inl 0), some (.inl (cW tn)), some (.inl (yF (M 0) (M 1) x y h')), hr4, h45, h46, by rw [h47, hh4], fr4, fun Q => ?_⟩
      rw [head, if_pos (Or.inl (by rw [g4]; rfl))]
    · rw [if_neg g4]
      have hc4 : ¬ cW tn = 4 := by
        have hc : tn = 0 ∨ tn = 1 ∨ tn = 2 ∨ tn = 3 := by omega
        rcases hc with e | e | e | e <;> rw [e] <;> decide
      have hdm : hdM M x y h tn = h' := (hdA_hdM hh (by omega) (by rw [nm]; exact hmir) mb hmb).symm
      rw [hdm]
      by_cases g5 : yF (M 0) (M 1) x y h' = -1
      · rw [if_pos g5]
        refine ⟨Z4, some (.inl 0), some (.inl (cW tn)), some (.inl (yF (M 0) (M 1) x y h')), hr4, h45, h46, h47, fr4, fun Q => ?_⟩
        rw [head, if_pos (Or.inr g5)]
      · rw [if_neg g5]
        obtain ⟨n1, n2⟩ := yF_nat x y h' hsz.1.2 hsz.2.2 g5
        obtain ⟨_, _, hp2⟩ := yF_nn g5
        have hp2' := hp2
        simp only [isP, decide_eq_true_eq] at hp2'
        have hdb := dXY_bd h'
        let y1 := (yF (M 0) (M 1) x y h').toNat
        let Z5 := if Z4 (t + 1) y1 = -1 then sm_u (sm_u Z4 (t + 1) y1 (s : Int)) (t + 2) y1 (st : Int) else Z4
        have r5 : ∀ a, a ≠ t + 1 → a ≠ t + 2 → Z5 a = Z4 a := fun a g1 g2 => by
          show (if Z4 (t + 1) y1 = -1 then sm_u (sm_u Z4 (t + 1) y1 (s : Int)) (t + 2) y1 (st : Int) else Z4) a = _
          split
          · rw [sm_u_row g2, sm_u_row g1]
          · rfl
        have hr5 : rTh Z5 (thS M y1 (s : Int) (st : Int)) t th := rTh_thS ht n1 hr4
        let Z6 := sm_u (sm_u Z5 51 5 (x + dX h')) 51 6 (y + dY h')
        have r6 : ∀ a, a ≠ 51 → Z6 a = Z5 a := fun a g1 => by
          show sm_u (sm_u Z5 51 5 _) 51 6 _ a = _
          rw [sm_u_row g1, sm_u_row g1]
        have hi6 := invF_thS (s := (s : Int)) (st := (st : Int)) hi n1 (by omega) (by omega)
        have ag6 : agT M (thS M y1 (s : Int) (st : Int)) := agT_thS n1
        have m0 : thS M y1 (s : Int) (st : Int) 0 = M 0 := thS_hi n1 (by omega)
        have m1 : thS M y1 (s : Int) (st : Int) 1 = M 1 := thS_hi n1 (by omega)
        have hr6 : rTh Z6 (thS M y1 (s : Int) (st : Int)) t th := rTh_row (r6 _ (by omega)) (r6 _ (by omega)) (r6 _ (by omega)) (r6 _ (by omega)) hr5
        have w6 : Z6 1 = Z 1 := by rw [r6 1 (by decide), r5 1 (by omega) (by omega), r4 1 (by decide) (by decide) (by decide)]
        have hz5 : sm_zs Z5 := zs_fr hz4 (fun a ha => r5 a (by omega) (by omega))
        have hz6 : sm_zs Z6 := zs_fr hz5 (fun a ha => r6 a (by omega))
        obtain ⟨Z7, v1, v2, v3⟩ := c_sueAt (d := d) (n := n) (z := z) (x := x + dX h') (y := y + dY h') (s := (s : Int)) (st := (st : Int)) H hz6 hT hr6 (by rw [w6, m0, m1]; exact hx.1) hi6 (by rw [m0, m1]; exact hp2) (by omega)
        have hsq : sqS (thS M y1 (s : Int) (st : Int)) th (s : Int) (x + dX h') (y + dY h') (st : Int) = stS M th (s : Int) x y h' (st : Int) := by
          unfold sqS stS
          rw [m0, m1]
        rw [hsq] at v1
        have h517 : Z7 51 = Z6 51 := v2 51 (by omega) (by omega)
        have e75 : Z7 51 5 = x + dX h' := by
          rw [h517]
          show sm_u (sm_u Z5 51 5 _) 51 6 _ 51 5 = _
          rw [sm_u_eq, if_neg (by decide), sm_u_self]
        have e76 : Z7 51 6 = y + dY h' := by
          rw [h517]
          show sm_u (sm_u Z5 51 5 _) 51 6 _ 51 6 = _
          rw [sm_u_self]
        have e77 : Z7 51 7 = h' := by
          rw [h517]
          show sm_u (sm_u Z5 51 5 _) 51 6 _ 51 7 = _
          rw [sm_u_eq, if_neg (by decide), sm_u_eq, if_neg (by decide), r5 51 (by omega) (by omega)]
          exact h47
        have r7 : frC Z Z7 t := fun a g1 g2 g3 g4 g5 g6 g7 => by
          rw [v2 a g6 g7, r6 a g1, r5 a g4 g5, r4 a g2 g3 g1]
        have hz7 : sm_zs Z7 := zs_fr hz6 (fun a ha => v2 a (by omega) (by omega))
        obtain ⟨hi7, ag7⟩ := invF_stS (th := th) (s := (s : Int)) (st := (st : Int)) hi g5 (by omega) (by omega)
        have c4 : Z7 4 = Z 4 := r7 4 (by decide) (by decide) (by decide) (by omega) (by omega) (by omega) (by omega)
        have c1 : Z7 1 = Z 1 := r7 1 (by decide) (by decide) (by decide) (by omega) (by omega) (by omega) (by omega)
        have hcs : catS (Z7 4) (M 0) (M 1) (x + dX h') (y + dY h') = catS (fun c => M (320 + c)) (M 0) (M 1) (x + dX h') (y + dY h') := catS_congr hsz.1.2 hsz.2.2 (fun c hc => by rw [c4]; exact hx.2.1 c hc) _ _
        have mid : ∀ Q, sm_wp (d + 3) 61 191 [some (.inr (some 51)), some (.inr (some 1)), some (.inr (some t)), some (.inl (s : Int)), some (.inr (some a')), some (.inl (len : Int)), some (.inl 1), some (.inl (st : Int)), some (.inl (cW tn)), some (.inl (yF (M 0) (M 1) x y h'))] [] (Z4, Rf, K, n, z) Q = sm_wp (d + 3) 61 65 [some (.inr (some 51)), some (.inr (some 1)), some (.inr (some t)), some (.inl (s : Int)), some (.inr (some a')), some (.inl (len : Int)), some (.inl (b2i (! catS (fun c => M (320 + c)) (M 0) (M 1) (x + dX h') (y + dY h')))), some (.inl ((st : Int) + 1)), some (.inl (cW tn)), some (.inl (yF (M 0) (M 1) x y h'))] [] (Z7, Rf, K, n, z) Q := by
          intro Q
          have d5 := zDX hz5 hhb
          have h57 : Z5 51 7 = h' := by rw [r5 51 (by omega) (by omega)]; exact h47
          have h55 : Z5 51 5 = x := by rw [r5 51 (by omega) (by omega)]; exact h45
          have h56 : Z5 51 6 = y := by rw [r5 51 (by omega) (by omega)]; exact h46
          rw [b61_191, k0, c_lay H hK9 q0 q1 k1 k2 (by omega) (by omega) (by rw [hr4.1 _ n1]; have := hi.2.1 _ n1; exact ⟨by omega, by omega⟩), w_cont]
          simp only [wr_id, wr_b2i, wr_wr, b2i_eq0, b2i_eq1, b2i_01, sm_rem_eq, sm_div_eq, wl_m2, wl_m1, wl_0, wl_1, wl_2, wl_3, wl_4, wl_5, wl_6, wl_7, wl_8, wl_9, wl_10, wl_12, wl_13, wl_14, wl_16, wl_20, wl_21, wl_22, wl_23, wl_32, wl_36, wl_40, wl_41, wl_42, wl_43, wl_44, wl_45, wl_46, wl_47, wl_48, wl_57, wl_59, wl_60, wl_61, wl_62, wl_65, wl_90, wl_97, wl_99, wl_100, wl_121, wl_122, wl_140, wl_142, wl_143, wl_145, wl_147, wl_160, wl_161, wl_162, wl_242, wl_380, wl_400, wl_420, wl_820, wl_1340, wl_5480, wl_9999, true_and, and_true, true_or, or_true, if_true, if_false, and_self, or_self, false_and, and_false, false_or, or_false, not_true_eq_false, not_false_eq_true, Int.reduceEq, Int.reduceLT, Int.reduceLE, Int.reduceToNat, Int.reduceAdd, Int.reduceMul, Int.reduceSub, Int.reduceMod, Int.reduceDiv, Int.reduceNeg, Nat.reduceEqDiff, sm_rd_ok, sm_rd_ok2, sm_wt_ok, sm_cp_ok, Option.isSome_some, Option.getD_some, w_cont, Option.toList_some, Option.toList_none, List.cons_append, List.nil_append]
          show sm_wp (d + 3) 61 200 _ _ (Z5, Rf, K, n, z) Q = _
          rw [b61_200, kk_51 H, k0, ks_0 H, ks_1 H]
          simp (disch := omega) only [wr_id, wr_b2i, wr_wr, b2i_eq0, b2i_eq1, b2i_01, sm_rem_eq, sm_div_eq, wl_m2, wl_m1, wl_0, wl_1, wl_2, wl_3, wl_4, wl_5, wl_6, wl_7, wl_8, wl_9, wl_10, wl_12, wl_13, wl_14, wl_16, wl_20, wl_21, wl_22, wl_23, wl_32, wl_36, wl_40, wl_41, wl_42, wl_43, wl_44, wl_45, wl_46, wl_47, wl_48, wl_57, wl_59, wl_60, wl_61, wl_62, wl_65, wl_90, wl_97, wl_99, wl_100, wl_121, wl_122, wl_140, wl_142, wl_143, wl_145, wl_147, wl_160, wl_161, wl_162, wl_242, wl_380, wl_400, wl_420, wl_820, wl_1340, wl_5480, wl_9999, true_and, and_true, true_or, or_true, if_true, if_false, and_self, or_self, false_and, and_false, false_or, or_false, not_true_eq_false, not_false_eq_true, Int.reduceEq, Int.reduceLT, Int.reduceLE, Int.reduceToNat, Int.reduceAdd, Int.reduceMul, Int.reduceSub, Int.reduceMod, Int.reduceDiv, Int.reduceNeg, Nat.reduceEqDiff, sm_rd_ok, sm_rd_ok2, sm_wt_ok, sm_cp_ok, Option.isSome_some, Option.getD_some, w_cont, Option.toList_some, Option.toList_none, List.cons_append, List.nil_append, sm_u_eq, sm_u_ne, h57, h55, h56, d5.1, d5.2, Nat.reduceEqDiff]
          refine Eq.trans (v3 _) ?_
          rw [w_cont]
          simp only [wr_id, wr_b2i, wr_wr, b2i_eq0, b2i_eq1, b2i_01, sm_rem_eq, sm_div_eq, wl_m2, wl_m1, wl_0, wl_1, wl_2, wl_3, wl_4, wl_5, wl_6, wl_7, wl_8, wl_9, wl_10, wl_12, wl_13, wl_14, wl_16, wl_20, wl_21, wl_22, wl_23, wl_32, wl_36, wl_40, wl_41, wl_42, wl_43, wl_44, wl_45, wl_46, wl_47, wl_48, wl_57, wl_59, wl_60, wl_61, wl_62, wl_65, wl_90, wl_97, wl_99, wl_100, wl_121, wl_122, wl_140, wl_142, wl_143, wl_145, wl_147, wl_160, wl_161, wl_162, wl_242, wl_380, wl_400, wl_420, wl_820, wl_1340, wl_5480, wl_9999, true_and, and_true, true_or, or_true, if_true, if_false, and_self, or_self, false_and, and_false, false_or, or_false, not_true_eq_false, not_false_eq_true, Int.reduceEq, Int.reduceLT, Int.reduceLE, Int.reduceToNat, Int.reduceAdd, Int.reduceMul, Int.reduceSub, Int.reduceMod, Int.reduceDiv, Int.reduceNeg, Nat.reduceEqDiff, sm_rd_ok, sm_rd_ok2, sm_wt_ok, sm_cp_ok, Option.isSome_some, Option.getD_some, w_cont, Option.toList_some, Option.toList_none, List.cons_append, List.nil_append]
          rw [b61_250, kk_51 H, kk_1 H, e75, e76, c_hasCatAt H hz7 (by unfold szC; rw [c1, hx.1.1, hx.1.2]; exact hsz) (by omega) (by omega) (fun c hc => by rw [c4, hx.2.1 c hc]; have := hi.2.2.2.2.1 c hc; exact ⟨by omega, by omega⟩), w_cont, c1, hx.1.1, hx.1.2, hcs]
          simp only [wr_id, wr_b2i, wr_wr, b2i_eq0, b2i_eq1, b2i_01, sm_rem_eq, sm_div_eq, wl_m2, wl_m1, wl_0, wl_1, wl_2, wl_3, wl_4, wl_5, wl_6, wl_7, wl_8, wl_9, wl_10, wl_12, wl_13, wl_14, wl_16, wl_20, wl_21, wl_22, wl_23, wl_32, wl_36, wl_40, wl_41, wl_42, wl_43, wl_44, wl_45, wl_46, wl_47, wl_48, wl_57, wl_59, wl_60, wl_61, wl_62, wl_65, wl_90, wl_97, wl_99, wl_100, wl_121, wl_122, wl_140, wl_142, wl_143, wl_145, wl_147, wl_160, wl_161, wl_162, wl_242, wl_380, wl_400, wl_420, wl_820, wl_1340, wl_5480, wl_9999, true_and, and_true, true_or, or_true, if_true, if_false, and_self, or_self, false_and, and_false, false_or, or_false, not_true_eq_false, not_false_eq_true, Int.reduceEq, Int.reduceLT, Int.reduceLE, Int.reduceToNat, Int.reduceAdd, Int.reduceMul, Int.reduceSub, Int.reduceMod, Int.reduceDiv, Int.reduceNeg, Nat.reduceEqDiff, sm_rd_ok, sm_rd_ok2, sm_wt_ok, sm_cp_ok, Option.isSome_some, Option.getD_some, w_cont, Option.toList_some, Option.toList_none, List.cons_append, List.nil_append]
          rw [b61_262]
          simp only [wr_id, wr_b2i, wr_wr, b2i_eq0, b2i_eq1, b2i_01, sm_rem_eq, sm_div_eq, wl_m2, wl_m1, wl_0, wl_1, wl_2, wl_3, wl_4, wl_5, wl_6, wl_7, wl_8, wl_9, wl_10, wl_12, wl_13, wl_14, wl_16, wl_20, wl_21, wl_22, wl_23, wl_32, wl_36, wl_40, wl_41, wl_42, wl_43, wl_44, wl_45, wl_46, wl_47, wl_48, wl_57, wl_59, wl_60, wl_61, wl_62, wl_65, wl_90, wl_97, wl_99, wl_100, wl_121, wl_122, wl_140, wl_142, wl_143, wl_145, wl_147, wl_160, wl_161, wl_162, wl_242, wl_380, wl_400, wl_420, wl_820, wl_1340, wl_5480, wl_9999, true_and, and_true, true_or, or_true, if_true, if_false, and_self, or_self, false_and, and_false, false_or, or_false, not_true_eq_false, not_false_eq_true, Int.reduceEq, Int.reduceLT, Int.reduceLE, Int.reduceToNat, Int.reduceAdd, Int.reduceMul, Int.reduceSub, Int.reduceMod, Int.reduceDiv, Int.reduceNeg, Nat.reduceEqDiff, sm_rd_ok, sm_rd_ok2, sm_wt_ok, sm_cp_ok, Option.isSome_some, Option.getD_some, w_cont, Option.toList_some, Option.toList_none, List.cons_append, List.nil_append]
          cases catS (fun c => M (320 + c)) (M 0) (M 1) (x + dX h') (y + dY h') with
          | false => rw [if_pos rfl, b61_265, b61_270, b61_275]; rfl
          | true => rw [if_neg (by decide), b61_269, b61_270, b61_275]; rfl
        by_cases hct : catS (fun c => M (320 + c)) (M 0) (M 1) (x + dX h') (y + dY h') = true
        · rw [if_pos hct]
          refine ⟨Z7, some (.inl 0), some (.inl (cW tn)), some (.inl (yF (M 0) (M 1) x y h')), v1, e75, e76, e77, r7, fun Q => ?_⟩
          rw [head, if_neg (by intro hh; rcases hh with hh | hh <;> contradiction), mid, hct]
          show sm_wp (d + 3) 61 65 [_, _, _, _, _, _, some (.inl 0), _, _, _] _ _ Q = _
          rw [b61_65, wl_0, if_pos rfl]
        · rw [if_neg hct]
          have hct' : catS (fun c => M (320 + c)) (M 0) (M 1) (x + dX h') (y + dY h') = false := Bool.eq_false_iff.2 hct
          have y0' := ag7 0 (by omega) (by omega) (by omega)
          have y1' := ag7 1 (by omega) (by omega) (by omega)
          obtain ⟨Z', l6', l8', l9', w1, w2, w3, w4, w5, w6⟩ := ih (st + 1) (stS M th (s : Int) x y h' (st : Int)) Z7 (x + dX h') (y + dY h') h' (some (.inl (cW tn))) (some (.inl (yF (M 0) (M 1) x y h'))) (by omega) hi7 (rFx_ag ag7 (fun a ha => r7 a (by omega) (by omega) (by omega) (by omega) (by omega) (by omega) (by omega)) (by rw [r7 59 (by decide) (by decide) (by decide) (by omega) (by omega) (by omega) (by omega)]) hx) (rSi_ag ag7 hi.1 (r7 53 (by decide) (by decide) (by decide) (by omega) (by omega) (by omega) (by omega)) (r7 54 (by decide) (by decide) (by decide) (by omega) (by omega) (by omega) (by omega)) hsi) v1 hz7 e75 e76 e77 (by rw [y0', y1']; exact hp2) hhb
          refine ⟨Z', l6', l8', l9', w1, w2, w3, w4, fun a g1 g2 g3 g4 g5 g6 g7 => by rw [w5 a g1 g2 g3 g4 g5 g6 g7, r7 a g1 g2 g3 g4 g5 g6 g7], fun Q => ?_⟩
          rw [head, if_neg (by intro hh; rcases hh with hh | hh <;> contradiction), mid, hct']
          exact w6 Q
end CFLY3
