section TAKE2
variable {d n z : Nat} {Rf : Nat → Nat → Option Nat} {K : Nat → Nat × Nat} {M : Nat → Int}
theorem c_take (H : sm_sh Rf K) {Z : Nat → Nat → Int} (hz : sm_zs Z) (hs : szN M) (hp01 : ∀ c, c < 100 → M (120 + c) = 0 ∨ M (120 + c) = 1) (hw : Z 1 0 = M 0 ∧ Z 1 1 = M 1) (hfl : ∀ c, c < 100 → Z 2 c = M (20 + c)) (hpo : ∀ c, c < 100 → Z 5 c = M (120 + c)) : ∃ Z', (∀ a, a ≠ 53 → a ≠ 54 → Z' a = Z a) ∧ rSi Z' M ∧ ∀ Q, sm_call (d + 2) 57 [.inr (some 52), .inr (some 1)] (Z, Rf, K, n, z) Q = Q none (Z', Rf, K, n, z) := by
  have hs' := hs
  unfold szN at hs'
  let Z1 := sm_fr (sm_cr Z 2 53 0 100) 54 0 100 0
  have r1 : ∀ a, a ≠ 53 → a ≠ 54 → Z1 a = Z a := fun a h1 h2 => by
    funext j
    show sm_fr (sm_cr Z 2 53 0 100) 54 0 100 0 a j = _
    rw [sm_fr_ne h2, sm_cr_ne h1]
  have hz1 : sm_zs Z1 := ⟨fun i k h1 h2 => by rw [r1 _ (by omega) (by omega)]; exact hz.1 i k h1 h2, fun i k h1 h2 => by rw [r1 _ (by omega) (by omega)]; exact hz.2 i k h1 h2⟩
  have e0 : mPo M 0 0 = M 0 := by unfold mPo; rw [if_neg (by omega)]
  have e1 : mPo M 0 1 = M 1 := by unfold mPo; rw [if_neg (by omega)]
  have ep : ∀ x y, pondS (mPo M 0) x y = 0 := by
    intro x y
    unfold pondS
    rw [e0, e1]
    split
    · unfold mPo
      rw [if_pos (by omega)]
    · rfl
  have hr : rSi Z1 (mPo M 0) := by
    intro x y hq
    rw [e0, e1] at hq
    rw [ep]
    constructor
    · show sm_fr (sm_cr Z 2 53 0 100) 54 0 100 0 53 _ = _
      rw [sm_fr_ne (by decide)]
      unfold sm_cr seenS
      rw [if_pos ⟨rfl, by omega, by omega⟩, hfl _ (by omega), e0, e1, if_pos hq, ep, ep, ep, ep, ep]
      unfold mPo
      rw [if_neg (by omega), show (20 + 10 * y + x).toNat = 20 + (10 * y + x).toNat by omega]
      omega
    · show sm_fr (sm_cr Z 2 53 0 100) 54 0 100 0 54 _ = _
      unfold sm_fr
      rw [if_pos ⟨rfl, by omega, by omega⟩]
  obtain ⟨Z', g1, g2, g3⟩ := c_take_loop (d := d) (n := n) (z := z) H hs hp01 100 0 Z1 (by omega) hz1 (by rw [r1 1 (by decide) (by decide)]; exact hw) (fun c hc => by rw [r1 5 (by decide) (by decide)]; exact hpo c hc) hr
  refine ⟨Z', fun a h1 h2 => by rw [g1 a h1 h2, r1 a h1 h2], ?_, fun Q => ?_⟩
  · have : mPo M 100 = M := by
      funext k
      unfold mPo
      rw [if_neg (by omega)]
    rw [this] at g2
    exact g2
  · rw [ce57, b57_0, kk_1 H, kk_52 H, rr_1_4 H, rr_52_0 H, rr_52_1 H]
    simp (disch := omega) only [wr_id, wr_b2i, wr_wr, b2i_eq0, b2i_eq1, b2i_01, sm_rem_eq, sm_div_eq, wl_m2, wl_m1, wl_0, wl_1, wl_2, wl_3, wl_4, wl_5, wl_6, wl_7, wl_8, wl_9, wl_10, wl_12, wl_13, wl_14, wl_16, wl_20, wl_21, wl_22, wl_23, wl_32, wl_36, wl_40, wl_41, wl_42, wl_43, wl_44, wl_45, wl_46, wl_47, wl_48, wl_57, wl_59, wl_60, wl_61, wl_62, wl_65, wl_90, wl_97, wl_99, wl_100, wl_121, wl_122, wl_140, wl_142, wl_143, wl_145, wl_147, wl_160, wl_161, wl_162, wl_242, wl_380, wl_400, wl_420, wl_820, wl_1340, wl_5480, wl_9999, true_and, and_true, true_or, or_true, if_true, if_false, and_self, or_self, false_and, and_false, false_or, or_false, not_true_eq_false, not_false_eq_true, Int.reduceEq, Int.reduceLT, Int.reduceLE, Int.reduceToNat, Int.reduceAdd, Int.reduceMul, Int.reduceSub, Int.reduceMod, Int.reduceDiv, Int.reduceNeg, Nat.reduceEqDiff, sm_rd_ok, sm_rd_ok2, sm_wt_ok, sm_cp_ok, Option.isSome_some, Option.getD_some, w_cont, Option.toList_some, Option.toList_none, List.cons_append, List.nil_append, kk_2 H, kk_53 H]
    rw [c_fill (kk_54 H) (by decide), w_cont]
    simp only [wr_id, wr_b2i, wr_wr, b2i_eq0, b2i_eq1, b2i_01, sm_rem_eq, sm_div_eq, wl_m2, wl_m1, wl_0, wl_1, wl_2, wl_3, wl_4, wl_5, wl_6, wl_7, wl_8, wl_9, wl_10, wl_12, wl_13, wl_14, wl_16, wl_20, wl_21, wl_22, wl_23, wl_32, wl_36, wl_40, wl_41, wl_42, wl_43, wl_44, wl_45, wl_46, wl_47, wl_48, wl_57, wl_59, wl_60, wl_61, wl_62, wl_65, wl_90, wl_97, wl_99, wl_100, wl_121, wl_122, wl_140, wl_142, wl_143, wl_145, wl_147, wl_160, wl_161, wl_162, wl_242, wl_380, wl_400, wl_420, wl_820, wl_1340, wl_5480, wl_9999, true_and, and_true, true_or, or_true, if_true, if_false, and_self, or_self, false_and, and_false, false_or, or_false, not_true_eq_false, not_false_eq_true, Int.reduceEq, Int.reduceLT, Int.reduceLE, Int.reduceToNat, Int.reduceAdd, Int.reduceMul, Int.reduceSub, Int.reduceMod, Int.reduceDiv, Int.reduceNeg, Nat.reduceEqDiff, sm_rd_ok, sm_rd_ok2, sm_wt_ok, sm_cp_ok, Option.isSome_some, Option.getD_some, w_cont, Option.toList_some, Option.toList_none, List.cons_append, List.nil_append]
    have em : sm_mv Z 2 53 0 0 100 = sm_cr Z 2 53 0 100 := sm_mv_cr Z 2 53 100
    rw [em, b57_23]
    exact g3 Q
end TAKE2
/-- one more heading: the least other swallow whose thread touches a point -/
def otN (T : Nat → Int) (w h x y s k best : Int) : Int := if yF w h x y k = -1 then best else if T (yF w h x y k).toNat = -1 ∨ T (yF w h x y k).toNat = s then best else if best = -1 ∨ T (yF w h x y k).toNat < best then T (yF w h x y k).toNat else best
def otS (T : Nat → Int) (w h x y s : Int) : Int := otN T w h x y s 3 (otN T w h x y s 2 (otN T w h x y s 1 (otN T w h x y s 0 (-1))))
/-- a suit more -/
def suS (M : Nat → Int) (th : Bool) (s o x y st : Int) : Nat → Int := if M 6 = 99 then M else mU (if th = true then M else mU (mU (mU (mU (mU M (1340 + 5 * M 6).toNat s) (1340 + 5 * M 6 + 1).toNat o) (1340 + 5 * M 6 + 2).toNat x) (1340 + 5 * M 6 + 3).toNat y) (1340 + 5 * M 6 + 4).toNat st) 6 (M 6 + 1)
/-- a thread on a yard that has none -/
def thS (M : Nat → Int) (y : Nat) (s st : Int) : Nat → Int := if M (850 + y) = -1 then mU (mU M (850 + y) s) (1092 + y) st else M
/-- the heading behind a turn: the model's turns -/
def hdM (M : Nat → Int) (x y h tn : Int) : Int := if M (720 + 11 * y + x).toNat = 1 ∧ tn % 2 = 1 then (h + (4 - tn)) % 4 else (h + tn) % 4
/-- a yard is flown: the threads, and the suit if there is one -/
def stS (M : Nat → Int) (th : Bool) (s x y h st : Int) : Nat → Int := if otS (fun k => thS M (yF (M 0) (M 1) x y h).toNat s st (850 + k)) (M 0) (M 1) (x + dX h) (y + dY h) s = -1 then thS M (yF (M 0) (M 1) x y h).toNat s st else suS (thS M (yF (M 0) (M 1) x y h).toNat s st) th s (otS (fun k => thS M (yF (M 0) (M 1) x y h).toNat s st (850 + k)) (M 0) (M 1) (x + dX h) (y + dY h) s) (x + dX h) (y + dY h) st
/-- a flight: threads, place, heading, steps -/
def flR (th : Bool) (k : Nat) (s len : Int) : Nat → (Nat → Int) → Int → Int → Int → Int → (Nat → Int) × Int × Int × Int × Int
  | 0, M, x, y, h, st => (M, x, y, h, st)
  | f + 1, M, x, y, h, st => if toR M k (fcS M x y h st (len - st) s) (M (1985 + k)).toNat 0 = 4 then (M, x, y, h, st) else if yF (M 0) (M 1) x y (hdM M x y h (toR M k (fcS M x y h st (len - st) s) (M (1985 + k)).toNat 0)) = -1 then (M, x, y, hdM M x y h (toR M k (fcS M x y h st (len - st) s) (M (1985 + k)).toNat 0), st) else if catS (fun c => M (320 + c)) (M 0) (M 1) (x + dX (hdM M x y h (toR M k (fcS M x y h st (len - st) s) (M (1985 + k)).toNat 0))) (y + dY (hdM M x y h (toR M k (fcS M x y h st (len - st) s) (M (1985 + k)).toNat 0))) = true then (stS M th s x y (hdM M x y h (toR M k (fcS M x y h st (len - st) s) (M (1985 + k)).toNat 0)) st, x + dX (hdM M x y h (toR M k (fcS M x y h st (len - st) s) (M (1985 + k)).toNat 0)), y + dY (hdM M x y h (toR M k (fcS M x y h st (len - st) s) (M (1985 + k)).toNat 0)), hdM M x y h (toR M k (fcS M x y h st (len - st) s) (M (1985 + k)).toNat 0), st + 1) else flR th k s len f (stS M th s x y (hdM M x y h (toR M k (fcS M x y h st (len - st) s) (M (1985 + k)).toNat 0)) st) (x + dX (hdM M x y h (toR M k (fcS M x y h st (len - st) s) (M (1985 + k)).toNat 0))) (y + dY (hdM M x y h (toR M k (fcS M x y h st (len - st) s) (M (1985 + k)).toNat 0))) (hdM M x y h (toR M k (fcS M x y h st (len - st) s) (M (1985 + k)).toNat 0)) (st + 1)
/-- the same but for threads and suits -/
def agT (M M' : Nat → Int) : Prop := ∀ k, ¬ (850 ≤ k ∧ k < 1334) → k ≠ 6 → ¬ (1340 ≤ k ∧ k < 1835) → M' k = M k
theorem agT_refl (M : Nat → Int) : agT M M := fun _ _ _ _ => rfl
theorem agT_trans {M M' M'' : Nat → Int} (h1 : agT M M') (h2 : agT M' M'') : agT M M'' := fun k a b c => by rw [h2 k a b c, h1 k a b c]
theorem agT_thS {M : Nat → Int} {y : Nat} {s st : Int} (hy : y < 242) : agT M (thS M y s st) := by
  intro k a b c
  unfold thS
  split
  · unfold mU
    rw [if_neg (by omega), if_neg (by omega)]
  · rfl
theorem agT_suS {M : Nat → Int} {th : Bool} {s o x y st : Int} (h6 : 0 ≤ M 6 ∧ M 6 ≤ 99) : agT M (suS M th s o x y st) := by
  intro k a b c
  unfold suS
  split
  · rfl
  · unfold mU
    rw [if_neg b]
    split
    · rfl
    · dsimp only
      rw [if_neg (by omega), if_neg (by omega), if_neg (by omega), if_neg (by omega), if_neg (by omega)]
theorem wfL_ag {M M' : Nat → Int} (h : agT M M') {k L : Nat} (hk : k < 4) {P : Nat → Nat} (hw : wfL M k L P) : wfL M' k L P := by
  have e : ∀ j, 1840 ≤ j → M' j = M j := fun j hj => h j (by omega) (by omega) (by omega)
  have eA : hbA M' k = hbA M k := by
    funext i
    unfold hbA
    rw [e _ (by omega)]
  have eB : hbB M' k = hbB M k := by
    funext i
    unfold hbB
    rw [e _ (by omega)]
  unfold wfL at hw ⊢
  rw [e _ (by omega), eA, eB]
  refine ⟨hw.1, hw.2.1, hw.2.2.1, fun i hi => ?_⟩
  rw [e _ (by omega), e _ (by omega), e _ (by omega)]
  exact hw.2.2.2 i hi
/-- what a flight needs -/
def invF (M : Nat → Int) : Prop := szN M ∧ (∀ k, k < 242 → -1 ≤ M (850 + k) ∧ M (850 + k) ≤ 7) ∧ (∀ k, k < 242 → -1 ≤ M (1092 + k) ∧ M (1092 + k) ≤ 60) ∧ (0 ≤ M 6 ∧ M 6 ≤ 99) ∧ (∀ c, c < 100 → M (320 + c) = 0 ∨ M (320 + c) = 1) ∧ (∀ k, k < 121 → M (720 + k) = 0 ∨ M (720 + k) = 1) ∧ ∀ k, k < 4 → ∃ L P, wfL M k L P
theorem invF_ag {M M' : Nat → Int} (h : agT M M') (hi : invF M) (h1 : ∀ k, k < 242 → -1 ≤ M' (850 + k) ∧ M' (850 + k) ≤ 7) (h2 : ∀ k, k < 242 → -1 ≤ M' (1092 + k) ∧ M' (1092 + k) ≤ 60) (h3 : 0 ≤ M' 6 ∧ M' 6 ≤ 99) : invF M' := by
  obtain ⟨i1, i2, i3, i4, i5, i6, i7⟩ := hi
  have e : ∀ j, j ≠ 6 → j < 850 → M' j = M j := fun j hj hj2 => h j (by omega) hj (by omega)
  refine ⟨?_, h1, h2, h3, ?_, ?_, ?_⟩
  · unfold szN at i1 ⊢
    rw [e 0 (by decide) (by decide), e 1 (by decide) (by decide)]
    exact i1
  · intro c hc
    rw [e _ (by omega) (by omega)]
    exact i5 c hc
  · intro c hc
    rw [e _ (by omega) (by omega)]
    exact i6 c hc
  · intro k hk
    obtain ⟨L, P, hw⟩ := i7 k hk
    exact ⟨L, P, wfL_ag h hk hw⟩
theorem invF_thS {M : Nat → Int} {y : Nat} {s st : Int} (hi : invF M) (hy : y < 242) (hs : 0 ≤ s ∧ s ≤ 7) (hst : 0 ≤ st ∧ st ≤ 60) : invF (thS M y s st) := by
  refine invF_ag (agT_thS hy) hi ?_ ?_ ?_
  · intro k hk
    have := hi.2.1 k hk
    unfold thS
    split
    · unfold mU
      rw [if_neg (by omega)]
      split <;> omega
    · exact this
  · intro k hk
    have := hi.2.2.1 k hk
    unfold thS
    split
    · unfold mU
      split
      · omega
      · rw [if_neg (by omega)]
        exact this
    · exact this
  · have := hi.2.2.2.1
    unfold thS
    split
    · unfold mU
      rw [if_neg (by omega), if_neg (by omega)]
      exact this
    · exact this
theorem suS_low {M : Nat → Int} {th : Bool} {s o x y st : Int} (h6 : 0 ≤ M 6 ∧ M 6 ≤ 99) {k : Nat} (hk : k < 1340) (hk6 : k ≠ 6) : suS M th s o x y st k = M k := by
  unfold suS
  split
  · rfl
  · unfold mU
    rw [if_neg hk6]
    split
    · rfl
    · dsimp only
      rw [if_neg (by omega), if_neg (by omega), if_neg (by omega), if_neg (by omega), if_neg (by omega)]
theorem suS_6 {M : Nat → Int} {th : Bool} {s o x y st : Int} : suS M th s o x y st 6 = if M 6 = 99 then 99 else M 6 + 1 := by
  unfold suS
  by_cases h : M 6 = 99
  · rw [if_pos h, if_pos h, h]
  · rw [if_neg h, if_neg h]
    unfold mU
    rw [if_pos rfl]
theorem invF_suS {M : Nat → Int} {th : Bool} {s o x y st : Int} (hi : invF M) : invF (suS M th s o x y st) := by
  have h6 := hi.2.2.2.1
  refine invF_ag (agT_suS h6) hi ?_ ?_ ?_
  · intro k hk
    rw [suS_low h6 (by omega) (by omega)]
    exact hi.2.1 k hk
  · intro k hk
    rw [suS_low h6 (by omega) (by omega)]
    exact hi.2.2.1 k hk
  · rw [suS_6]
    split <;> omega
theorem hdM_bd {M : Nat → Int} {x y h t : Int} : 0 ≤ hdM M x y h t ∧ hdM M x y h t ≤ 3 := by
  unfold hdM
  split <;> omega
theorem yF_nn {w h x y k : Int} (h1 : ¬ yF w h x y k = -1) : (0 ≤ k ∧ k ≤ 3) ∧ isP w h x y = true ∧ isP w h (x + dX k) (y + dY k) = true := by
  unfold yF at h1
  split at h1
  · rename_i hc
    refine ⟨hc.1, ?_, ?_⟩
    · simp only [isP, decide_eq_true_eq]
      exact hc.2.1
    · simp only [isP, decide_eq_true_eq]
      exact hc.2.2
  · exact absurd rfl h1
theorem yF_nat {w h : Int} (x y k : Int) (hw : w ≤ 10) (hh : h ≤ 10) (h1 : ¬ yF w h x y k = -1) : (yF w h x y k).toNat < 242 ∧ 0 ≤ yF w h x y k := by
  have := yF_bd x y k hw hh
  omega
theorem invF_stS {M : Nat → Int} {th : Bool} {s x y h st : Int} (hi : invF M) (hy : ¬ yF (M 0) (M 1) x y h = -1) (hs : 0 ≤ s ∧ s ≤ 7) (hst : 0 ≤ st ∧ st ≤ 60) : invF (stS M th s x y h st) ∧ agT M (stS M th s x y h st) := by
  have hsz := hi.1
  unfold szN at hsz
  have hn := yF_nat x y h hsz.1.2 hsz.2.2 hy
  have h1 := invF_thS hi hn.1 hs hst
  have h2 : agT M (thS M (yF (M 0) (M 1) x y h).toNat s st) := agT_thS hn.1
  unfold stS
  split
  · exact ⟨h1, h2⟩
  · exact ⟨invF_suS h1, agT_trans h2 (agT_suS h1.2.2.2.1)⟩
theorem otN_bd {T : Nat → Int} {w h x y s k best : Int} (hT : ∀ k, k < 242 → -1 ≤ T k ∧ T k ≤ 7) (hw : w ≤ 10) (hh : h ≤ 10) (hb : -1 ≤ best ∧ best ≤ 7) : -1 ≤ otN T w h x y s k best ∧ otN T w h x y s k best ≤ 7 := by
  unfold otN
  split
  · exact hb
  · rename_i h1
    have := hT _ (yF_nat x y k hw hh h1).1
    split
    · exact hb
    · split
      · exact this
      · exact hb
section FLM
variable {d n z : Nat} {Rf : Nat → Nat → Option Nat} {K : Nat → Nat × Nat} {M : Nat → Int} {x y s : Int} {Z : Nat → Nat → Int} {Q : Option sm_V → sm_S → Prop}
theorem m_ot1 (H : sm_sh Rf K) (hM : Z 80 = M) (hi : invF M) (hp : isP (M 0) (M 1) x y = true) (hs : 0 ≤ s ∧ s ≤ 7) (k : Nat) (hk : k < 4) (best : Int) (hb : -1 ≤ best ∧ best ≤ 7) (l6 : Option sm_V) : ∃ l6', sm_wp (d + 2) 167 6 [some (.inr (some 79)), some (.inl s), some (.inl x), some (.inl y), some (.inl best), some (.inl (k : Int)), l6] [] (Z, Rf, K, n, z) Q = sm_wp (d + 2) 167 6 [some (.inr (some 79)), some (.inl s), some (.inl x), some (.inl y), some (.inl (otN (fun j => M (850 + j)) (M 0) (M 1) x y s (k : Int) best)), some (.inl ((k + 1 : Nat) : Int)), l6'] [] (Z, Rf, K, n, z) Q := by
  have hsz := hi.1
  have hszM : szM Z := by subst hM; exact hsz
  unfold szN at hsz
  have hp' := hp
  simp only [isP, decide_eq_true_eq] at hp'
  have bx : -1 ≤ dX (k : Int) ∧ dX (k : Int) ≤ 1 := by unfold dX; repeat' split
                                                       all_goals omega
  have b_y : -1 ≤ dY (k : Int) ∧ dY (k : Int) ≤ 1 := by unfold dY; repeat' split
                                                        all_goals omega
  have hne := yF_ne (w := M 0) (h := M 1) (x := x) (y := y) (k := (k : Int)) (by omega) hp
  have head : sm_wp (d + 2) 167 6 [some (.inr (some 79)), some (.inl s), some (.inl x), some (.inl y), some (.inl best), some (.inl (k : Int)), l6] [] (Z, Rf, K, n, z) Q = if isP (M 0) (M 1) (x + dX (k : Int)) (y + dY (k : Int)) = false then sm_wp (d + 2) 167 33 [some (.inr (some 79)), some (.inl s), some (.inl x), some (.inl y), some (.inl best), some (.inl (k : Int)), l6] [] (Z, Rf, K, n, z) Q else sm_wp (d + 2) 167 36 [some (.inr (some 79)), some (.inl s), some (.inl x), some (.inl y), some (.inl best), some (.inl (k : Int)), l6] [] (Z, Rf, K, n, z) Q := by
    rw [b167_6, wr_id (by omega) (by omega), if_neg (by omega), b167_12, m_aheadX ⟨by omega, by omega⟩, w_cont]
    simp only [wr_id, wr_b2i, wr_wr, b2i_eq0, b2i_eq1, b2i_01, sm_rem_eq, sm_div_eq, wl_m2, wl_m1, wl_0, wl_1, wl_2, wl_3, wl_4, wl_5, wl_6, wl_7, wl_8, wl_9, wl_10, wl_12, wl_13, wl_14, wl_16, wl_20, wl_21, wl_22, wl_23, wl_32, wl_36, wl_40, wl_41, wl_42, wl_43, wl_44, wl_45, wl_46, wl_47, wl_48, wl_57, wl_59, wl_60, wl_61, wl_62, wl_65, wl_90, wl_97, wl_99, wl_100, wl_121, wl_122, wl_140, wl_142, wl_143, wl_145, wl_147, wl_160, wl_161, wl_162, wl_242, wl_380, wl_400, wl_420, wl_820, wl_1340, wl_5480, wl_9999, true_and, and_true, true_or, or_true, if_true, if_false, and_self, or_self, false_and, and_false, false_or, or_false, not_true_eq_false, not_false_eq_true, Int.reduceEq, Int.reduceLT, Int.reduceLE, Int.reduceToNat, Int.reduceAdd, Int.reduceMul, Int.reduceSub, Int.reduceMod, Int.reduceDiv, Int.reduceNeg, Nat.reduceEqDiff, sm_rd_ok, sm_rd_ok2, sm_wt_ok, sm_cp_ok, Option.isSome_some, Option.getD_some, w_cont, Option.toList_some, Option.toList_none, List.cons_append, List.nil_append]
    rw [b167_19, m_aheadY ⟨by omega, by omega⟩, w_cont]
    simp only [wr_id, wr_b2i, wr_wr, b2i_eq0, b2i_eq1, b2i_01, sm_rem_eq, sm_div_eq, wl_m2, wl_m1, wl_0, wl_1, wl_2, wl_3, wl_4, wl_5, wl_6, wl_7, wl_8, wl_9, wl_10, wl_12, wl_13, wl_14, wl_16, wl_20, wl_21, wl_22, wl_23, wl_32, wl_36, wl_40, wl_41, wl_42, wl_43, wl_44, wl_45, wl_46, wl_47, wl_48, wl_57, wl_59, wl_60, wl_61, wl_62, wl_65, wl_90, wl_97, wl_99, wl_100, wl_121, wl_122, wl_140, wl_142, wl_143, wl_145, wl_147, wl_160, wl_161, wl_162, wl_242, wl_380, wl_400, wl_420, wl_820, wl_1340, wl_5480, wl_9999, true_and, and_true, true_or, or_true, if_true, if_false, and_self, or_self, false_and, and_false, false_or, or_false, not_true_eq_false, not_false_eq_true, Int.reduceEq, Int.reduceLT, Int.reduceLE, Int.reduceToNat, Int.reduceAdd, Int.reduceMul, Int.reduceSub, Int.reduceMod, Int.reduceDiv, Int.reduceNeg, Nat.reduceEqDiff, sm_rd_ok, sm_rd_ok2, sm_wt_ok, sm_cp_ok, Option.isSome_some, Option.getD_some, w_cont, Option.toList_some, Option.toList_none, List.cons_append, List.nil_append]
    rw [b167_26, kk_79 H, m_isPoint H hszM ⟨by omega, by omega⟩ ⟨by omega, by omega⟩, w_cont, hM]
    simp only [wr_id, wr_b2i, wr_wr, b2i_eq0, b2i_eq1, b2i_01, sm_rem_eq, sm_div_eq, wl_m2, wl_m1, wl_0, wl_1, wl_2, wl_3, wl_4, wl_5, wl_6, wl_7, wl_8, wl_9, wl_10, wl_12, wl_13, wl_14, wl_16, wl_20, wl_21, wl_22, wl_23, wl_32, wl_36, wl_40, wl_41, wl_42, wl_43, wl_44, wl_45, wl_46, wl_47, wl_48, wl_57, wl_59, wl_60, wl_61, wl_62, wl_65, wl_90, wl_97, wl_99, wl_100, wl_121, wl_122, wl_140, wl_142, wl_143, wl_145, wl_147, wl_160, wl_161, wl_162, wl_242, wl_380, wl_400, wl_420, wl_820, wl_1340, wl_5480, wl_9999, true_and, and_true, true_or, or_true, if_true, if_false, and_self, or_self, false_and, and_false, false_or, or_false, not_true_eq_false, not_false_eq_true, Int.reduceEq, Int.reduceLT, Int.reduceLE, Int.reduceToNat, Int.reduceAdd, Int.reduceMul, Int.reduceSub, Int.reduceMod, Int.reduceDiv, Int.reduceNeg, Nat.reduceEqDiff, sm_rd_ok, sm_rd_ok2, sm_wt_ok, sm_cp_ok, Option.isSome_some, Option.getD_some, w_cont, Option.toList_some, Option.toList_none, List.cons_append, List.nil_append]
    rw [b167_30]
    simp only [wr_id, wr_b2i, wr_wr, b2i_eq0, b2i_eq1, b2i_01, sm_rem_eq, sm_div_eq, wl_m2, wl_m1, wl_0, wl_1, wl_2, wl_3, wl_4, wl_5, wl_6, wl_7, wl_8, wl_9, wl_10, wl_12, wl_13, wl_14, wl_16, wl_20, wl_21, wl_22, wl_23, wl_32, wl_36, wl_40, wl_41, wl_42, wl_43, wl_44, wl_45, wl_46, wl_47, wl_48, wl_57, wl_59, wl_60, wl_61, wl_62, wl_65, wl_90, wl_97, wl_99, wl_100, wl_121, wl_122, wl_140, wl_142, wl_143, wl_145, wl_147, wl_160, wl_161, wl_162, wl_242, wl_380, wl_400, wl_420, wl_820, wl_1340, wl_5480, wl_9999, true_and, and_true, true_or, or_true, if_true, if_false, and_self, or_self, false_and, and_false, false_or, or_false, not_true_eq_false, not_false_eq_true, Int.reduceEq, Int.reduceLT, Int.reduceLE, Int.reduceToNat, Int.reduceAdd, Int.reduceMul, Int.reduceSub, Int.reduceMod, Int.reduceDiv, Int.reduceNeg, Nat.reduceEqDiff, sm_rd_ok, sm_rd_ok2, sm_wt_ok, sm_cp_ok, Option.isSome_some, Option.getD_some, w_cont, Option.toList_some, Option.toList_none, List.cons_append, List.nil_append]
  rw [head]
  unfold otN
  by_cases h1 : yF (M 0) (M 1) x y (k : Int) = -1
  · have h2 : isP (M 0) (M 1) (x + dX (k : Int)) (y + dY (k : Int)) = false := Bool.eq_false_iff.2 (hne.1 h1)
    refine ⟨l6, ?_⟩
    rw [if_pos h2, if_pos h1, b167_33, b167_83]
    rfl
  · have h2 : ¬ isP (M 0) (M 1) (x + dX (k : Int)) (y + dY (k : Int)) = false := by
      intro h
      exact h1 (hne.2 (by rw [h]; decide))
    obtain ⟨n1, n2⟩ := yF_nat x y (k : Int) hsz.1.2 hsz.2.2 h1
    have hb2 := hi.2.1 _ n1
    have hyd := yF_yd h1
    refine ⟨some (.inl (M (850 + (yF (M 0) (M 1) x y (k : Int)).toNat))), ?_⟩
    rw [if_neg h2, if_neg h1, b167_36, kk_79 H, rr_79_0 H, m_yardBy (by omega), w_cont, ← hyd]
    simp only [wr_id, wr_b2i, wr_wr, b2i_eq0, b2i_eq1, b2i_01, sm_rem_eq, sm_div_eq, wl_m2, wl_m1, wl_0, wl_1, wl_2, wl_3, wl_4, wl_5, wl_6, wl_7, wl_8, wl_9, wl_10, wl_12, wl_13, wl_14, wl_16, wl_20, wl_21, wl_22, wl_23, wl_32, wl_36, wl_40, wl_41, wl_42, wl_43, wl_44, wl_45, wl_46, wl_47, wl_48, wl_57, wl_59, wl_60, wl_61, wl_62, wl_65, wl_90, wl_97, wl_99, wl_100, wl_121, wl_122, wl_140, wl_142, wl_143, wl_145, wl_147, wl_160, wl_161, wl_162, wl_242, wl_380, wl_400, wl_420, wl_820, wl_1340, wl_5480, wl_9999, true_and, and_true, true_or, or_true, if_true, if_false, and_self, or_self, false_and, and_false, false_or, or_false, not_true_eq_false, not_false_eq_true, Int.reduceEq, Int.reduceLT, Int.reduceLE, Int.reduceToNat, Int.reduceAdd, Int.reduceMul, Int.reduceSub, Int.reduceMod, Int.reduceDiv, Int.reduceNeg, Nat.reduceEqDiff, sm_rd_ok, sm_rd_ok2, sm_wt_ok, sm_cp_ok, Option.isSome_some, Option.getD_some, w_cont, Option.toList_some, Option.toList_none, List.cons_append, List.nil_append]
    rw [b167_50, kk_80 H, hM]
    simp (disch := omega) only [wr_id, wr_b2i, wr_wr, b2i_eq0, b2i_eq1, b2i_01, sm_rem_eq, sm_div_eq, wl_m2, wl_m1, wl_0, wl_1, wl_2, wl_3, wl_4, wl_5, wl_6, wl_7, wl_8, wl_9, wl_10, wl_12, wl_13, wl_14, wl_16, wl_20, wl_21, wl_22, wl_23, wl_32, wl_36, wl_40, wl_41, wl_42, wl_43, wl_44, wl_45, wl_46, wl_47, wl_48, wl_57, wl_59, wl_60, wl_61, wl_62, wl_65, wl_90, wl_97, wl_99, wl_100, wl_121, wl_122, wl_140, wl_142, wl_143, wl_145, wl_147, wl_160, wl_161, wl_162, wl_242, wl_380, wl_400, wl_420, wl_820, wl_1340, wl_5480, wl_9999, true_and, and_true, true_or, or_true, if_true, if_false, and_self, or_self, false_and, and_false, false_or, or_false, not_true_eq_false, not_false_eq_true, Int.reduceEq, Int.reduceLT, Int.reduceLE, Int.reduceToNat, Int.reduceAdd, Int.reduceMul, Int.reduceSub, Int.reduceMod, Int.reduceDiv, Int.reduceNeg, Nat.reduceEqDiff, sm_rd_ok, sm_rd_ok2, sm_wt_ok, sm_cp_ok, Option.isSome_some, Option.getD_some, w_cont, Option.toList_some, Option.toList_none, List.cons_append, List.nil_append]
    rw [show (850 + yF (M 0) (M 1) x y (k : Int)).toNat = 850 + (yF (M 0) (M 1) x y (k : Int)).toNat by omega, wr_id (by omega) (by omega)]
    by_cases h3 : M (850 + (yF (M 0) (M 1) x y (k : Int)).toNat) = -1
    · rw [if_pos h3, if_pos (Or.inl h3), b167_83]
      rfl
    · rw [if_neg h3, b167_60, wr_id (by omega) (by omega), wr_id (by omega) (by omega)]
      by_cases h4 : M (850 + (yF (M 0) (M 1) x y (k : Int)).toNat) = s
      · rw [if_pos h4, if_pos (Or.inr h4), b167_83]
        rfl
      · rw [if_neg h4, if_neg (by omega), b167_66, wr_id (by omega) (by omega)]
        by_cases h5 : best = -1
        · rw [if_pos h5, if_pos (Or.inl h5), b167_79, b167_83]
          rfl
        · rw [if_neg h5, b167_72, wr_id (by omega) (by omega), wr_id (by omega) (by omega)]
          by_cases h6 : M (850 + (yF (M 0) (M 1) x y (k : Int)).toNat) < best
          · rw [if_neg (by omega), if_pos (Or.inr h6), b167_79, b167_83]
            rfl
          · rw [if_pos (by omega), if_neg (by omega), b167_83]
            rfl
theorem m_other (H : sm_sh Rf K) (hM : Z 80 = M) (hi : invF M) (hp : isP (M 0) (M 1) x y = true) (hs : 0 ≤ s ∧ s ≤ 7) : sm_call (d + 2) 167 [.inr (some 79), .inl s, .inl x, .inl y] (Z, Rf, K, n, z) Q = Q (some (.inl (otS (fun j => M (850 + j)) (M 0) (M 1) x y s))) (Z, Rf, K, n, z) := by
  have hsz := hi.1
  unfold szN at hsz
  have hb := fun (k best : Int) (h : -1 ≤ best ∧ best ≤ 7) => otN_bd (T := fun j => M (850 + j)) (w := M 0) (h := M 1) (x := x) (y := y) (s := s) (k := k) hi.2.1 hsz.1.2 hsz.2.2 h
  have b0 := hb 0 (-1) (by omega)
  have b1 := hb 1 _ b0
  have b2 := hb 2 _ b1
  rw [ce167, b167_0]
  obtain ⟨l0, e0⟩ := m_ot1 (d := d) (n := n) (z := z) (Q := Q) H hM hi hp hs 0 (by omega) (-1) (by omega) none
  obtain ⟨l1, e1⟩ := m_ot1 (d := d) (n := n) (z := z) (Q := Q) H hM hi hp hs 1 (by omega) _ b0 l0
  obtain ⟨l2, e2⟩ := m_ot1 (d := d) (n := n) (z := z) (Q := Q) H hM hi hp hs 2 (by omega) _ b1 l1
  obtain ⟨l3, e3⟩ := m_ot1 (d := d) (n := n) (z := z) (Q := Q) H hM hi hp hs 3 (by omega) _ b2 l2
  refine Eq.trans e0 (Eq.trans e1 (Eq.trans e2 (Eq.trans e3 ?_)))
  rw [b167_6, wr_id (by omega) (by omega), if_pos (by omega), b167_89]
  rfl
theorem m_sues {o st : Int} (H : sm_sh Rf K) (hM : Z 80 = M) (h6 : 0 ≤ M 6 ∧ M 6 ≤ 99) (th : Bool) (hth : Z 79 6 = b2i th) : sm_call d 169 [.inr (some 79), .inl s, .inl o, .inl x, .inl y, .inl st] (Z, Rf, K, n, z) Q = Q none (sm_r Z 80 (suS M th s o x y st), Rf, K, n, z) := by
  subst hM
  rw [ce169, b169_0, kk_79 H, rr_79_0 H]
  simp (disch := omega) only [wr_id, wr_b2i, wr_wr, b2i_eq0, b2i_eq1, b2i_01, sm_rem_eq, sm_div_eq, wl_m2, wl_m1, wl_0, wl_1, wl_2, wl_3, wl_4, wl_5, wl_6, wl_7, wl_8, wl_9, wl_10, wl_12, wl_13, wl_14, wl_16, wl_20, wl_21, wl_22, wl_23, wl_32, wl_36, wl_40, wl_41, wl_42, wl_43, wl_44, wl_45, wl_46, wl_47, wl_48, wl_57, wl_59, wl_60, wl_61, wl_62, wl_65, wl_90, wl_97, wl_99, wl_100, wl_121, wl_122, wl_140, wl_142, wl_143, wl_145, wl_147, wl_160, wl_161, wl_162, wl_242, wl_380, wl_400, wl_420, wl_820, wl_1340, wl_5480, wl_9999, true_and, and_true, true_or, or_true, if_true, if_false, and_self, or_self, false_and, and_false, false_or, or_false, not_true_eq_false, not_false_eq_true, Int.reduceEq, Int.reduceLT, Int.reduceLE, Int.reduceToNat, Int.reduceAdd, Int.reduceMul, Int.reduceSub, Int.reduceMod, Int.reduceDiv, Int.reduceNeg, Nat.reduceEqDiff, sm_rd_ok, sm_rd_ok2, sm_wt_ok, sm_cp_ok, Option.isSome_some, Option.getD_some, w_cont, Option.toList_some, Option.toList_none, List.cons_append, List.nil_append, kk_80 H]
  unfold suS
  by_cases h1 : Z 80 6 = 99
  · rw [if_pos h1, if_pos h1, b169_12]
    congr 1
    congr 1
    funext a j
    unfold sm_r
    split
    · rename_i h; rw [h]
    · rfl
  · rw [if_neg h1, if_neg h1, b169_13, kk_79 H, rr_79_0 H, hth]
    simp (disch := omega) only [wr_id, wr_b2i, wr_wr, b2i_eq0, b2i_eq1, b2i_01, sm_rem_eq, sm_div_eq, wl_m2, wl_m1, wl_0, wl_1, wl_2, wl_3, wl_4, wl_5, wl_6, wl_7, wl_8, wl_9, wl_10, wl_12, wl_13, wl_14, wl_16, wl_20, wl_21, wl_22, wl_23, wl_32, wl_36, wl_40, wl_41, wl_42, wl_43, wl_44, wl_45, wl_46, wl_47, wl_48, wl_57, wl_59, wl_60, wl_61, wl_62, wl_65, wl_90, wl_97, wl_99, wl_100, wl_121, wl_122, wl_140, wl_142, wl_143, wl_145, wl_147, wl_160, wl_161, wl_162, wl_242, wl_380, wl_400, wl_420, wl_820, wl_1340, wl_5480, wl_9999, true_and, and_true, true_or, or_true, if_true, if_false, and_self, or_self, false_and, and_false, false_or, or_false, not_true_eq_false, not_false_eq_true, Int.reduceEq, Int.reduceLT, Int.reduceLE, Int.reduceToNat, Int.reduceAdd, Int.reduceMul, Int.reduceSub, Int.reduceMod, Int.reduceDiv, Int.reduceNeg, Nat.reduceEqDiff, sm_rd_ok, sm_rd_ok2, sm_wt_ok, sm_cp_ok, Option.isSome_some, Option.getD_some, w_cont, Option.toList_some, Option.toList_none, List.cons_append, List.nil_append, kk_80 H]
    cases th with
    | true =>
      simp only [reduceCtorEq, if_false, if_true]
      rw [b169_85, kk_79 H, rr_79_0 H]
      simp (disch := omega) only [wr_id, wr_b2i, wr_wr, b2i_eq0, b2i_eq1, b2i_01, sm_rem_eq, sm_div_eq, wl_m2, wl_m1, wl_0, wl_1, wl_2, wl_3, wl_4, wl_5, wl_6, wl_7, wl_8, wl_9, wl_10, wl_12, wl_13, wl_14, wl_16, wl_20, wl_21, wl_22, wl_23, wl_32, wl_36, wl_40, wl_41, wl_42, wl_43, wl_44, wl_45, wl_46, wl_47, wl_48, wl_57, wl_59, wl_60, wl_61, wl_62, wl_65, wl_90, wl_97, wl_99, wl_100, wl_121, wl_122, wl_140, wl_142, wl_143, wl_145, wl_147, wl_160, wl_161, wl_162, wl_242, wl_380, wl_400, wl_420, wl_820, wl_1340, wl_5480, wl_9999, true_and, and_true, true_or, or_true, if_true, if_false, and_self, or_self, false_and, and_false, false_or, or_false, not_true_eq_false, not_false_eq_true, Int.reduceEq, Int.reduceLT, Int.reduceLE, Int.reduceToNat, Int.reduceAdd, Int.reduceMul, Int.reduceSub, Int.reduceMod, Int.reduceDiv, Int.reduceNeg, Nat.reduceEqDiff, sm_rd_ok, sm_rd_ok2, sm_wt_ok, sm_cp_ok, Option.isSome_some, Option.getD_some, w_cont, Option.toList_some, Option.toList_none, List.cons_append, List.nil_append, kk_80 H]
      congr 2
      funext a j
      simp only [sm_u, sm_r, mU]
      by_cases ha : a = 80
      · subst ha; simp
      · simp [ha]
    | false =>
      simp only [reduceCtorEq, if_false, if_true]
      have e0 : ¬ (6 = (1340 + 5 * Z 80 6).toNat) := by omega
      have e1 : ¬ (6 = (1340 + 5 * Z 80 6 + 1).toNat) := by omega
      have e2 : ¬ (6 = (1340 + 5 * Z 80 6 + 2).toNat) := by omega
      have e3 : ¬ (6 = (1340 + 5 * Z 80 6 + 3).toNat) := by omega
      have e4 : ¬ (6 = (1340 + 5 * Z 80 6 + 4).toNat) := by omega
      rw [b169_35, kk_79 H, rr_79_0 H]
      simp (disch := omega) only [wr_id, wr_b2i, wr_wr, b2i_eq0, b2i_eq1, b2i_01, sm_rem_eq, sm_div_eq, wl_m2, wl_m1, wl_0, wl_1, wl_2, wl_3, wl_4, wl_5, wl_6, wl_7, wl_8, wl_9, wl_10, wl_12, wl_13, wl_14, wl_16, wl_20, wl_21, wl_22, wl_23, wl_32, wl_36, wl_40, wl_41, wl_42, wl_43, wl_44, wl_45, wl_46, wl_47, wl_48, wl_57, wl_59, wl_60, wl_61, wl_62, wl_65, wl_90, wl_97, wl_99, wl_100, wl_121, wl_122, wl_140, wl_142, wl_143, wl_145, wl_147, wl_160, wl_161, wl_162, wl_242, wl_380, wl_400, wl_420, wl_820, wl_1340, wl_5480, wl_9999, true_and, and_true, true_or, or_true, if_true, if_false, and_self, or_self, false_and, and_false, false_or, or_false, not_true_eq_false, not_false_eq_true, Int.reduceEq, Int.reduceLT, Int.reduceLE, Int.reduceToNat, Int.reduceAdd, Int.reduceMul, Int.reduceSub, Int.reduceMod, Int.reduceDiv, Int.reduceNeg, Nat.reduceEqDiff, sm_rd_ok, sm_rd_ok2, sm_wt_ok, sm_cp_ok, Option.isSome_some, Option.getD_some, w_cont, Option.toList_some, Option.toList_none, List.cons_append, List.nil_append, kk_80 H]
      rw [b169_85, kk_79 H, rr_79_0 H]
      simp (disch := omega) only [wr_id, wr_b2i, wr_wr, b2i_eq0, b2i_eq1, b2i_01, sm_rem_eq, sm_div_eq, wl_m2, wl_m1, wl_0, wl_1, wl_2, wl_3, wl_4, wl_5, wl_6, wl_7, wl_8, wl_9, wl_10, wl_12, wl_13, wl_14, wl_16, wl_20, wl_21, wl_22, wl_23, wl_32, wl_36, wl_40, wl_41, wl_42, wl_43, wl_44, wl_45, wl_46, wl_47, wl_48, wl_57, wl_59, wl_60, wl_61, wl_62, wl_65, wl_90, wl_97, wl_99, wl_100, wl_121, wl_122, wl_140, wl_142, wl_143, wl_145, wl_147, wl_160, wl_161, wl_162, wl_242, wl_380, wl_400, wl_420, wl_820, wl_1340, wl_5480, wl_9999, true_and, and_true, true_or, or_true, if_true, if_false, and_self, or_self, false_and, and_false, false_or, or_false, not_true_eq_false, not_false_eq_true, Int.reduceEq, Int.reduceLT, Int.reduceLE, Int.reduceToNat, Int.reduceAdd, Int.reduceMul, Int.reduceSub, Int.reduceMod, Int.reduceDiv, Int.reduceNeg, Nat.reduceEqDiff, sm_rd_ok, sm_rd_ok2, sm_wt_ok, sm_cp_ok, Option.isSome_some, Option.getD_some, w_cont, Option.toList_some, Option.toList_none, List.cons_append, List.nil_append, kk_80 H, sm_u_eq, e0, e1, e2, e3, e4]
      congr 2
      funext a j
      simp only [sm_u, sm_r, mU]
      by_cases ha : a = 80
      · subst ha; simp
      · simp [ha]
end FLM
