/-! The model's parser and the class's reader, side by side. -/
/-- the reader comes from one token and state to another -/
def rch (T : Nat → Int) (len s : Nat) (c : rdT) (s' : Nat) (c' : rdT) : Prop := ∃ m, m + s ≤ s' ∧ ∀ f, rdE T len (m + f) s c = rdE T len f s' c'
/-- the reader comes to a fault -/
def flt (T : Nat → Int) (len s : Nat) (c : rdT) (k : Int) (s' : Nat) : Prop := ∃ m c', m + s ≤ s' + 1 ∧ ∀ f, rdE T len (m + f) s c = (k, s', c')
theorem rch_refl {T : Nat → Int} {len s : Nat} {c : rdT} : rch T len s c s c := ⟨0, by omega, fun f => by rw [Nat.zero_add]⟩
theorem rch_trans {T : Nat → Int} {len s s1 s2 : Nat} {c c1 c2 : rdT} (h1 : rch T len s c s1 c1) (h2 : rch T len s1 c1 s2 c2) : rch T len s c s2 c2 := by
  obtain ⟨m1, a1, b1⟩ := h1
  obtain ⟨m2, a2, b2⟩ := h2
  exact ⟨m1 + m2, by omega, fun f => by rw [Nat.add_assoc, b1, b2]⟩
theorem rch_flt {T : Nat → Int} {len s s1 s2 : Nat} {c c1 : rdT} {k : Int} (h1 : rch T len s c s1 c1) (h2 : flt T len s1 c1 k s2) : flt T len s c k s2 := by
  obtain ⟨m1, a1, b1⟩ := h1
  obtain ⟨m2, c', a2, b2⟩ := h2
  exact ⟨m1 + m2, c', by omega, fun f => by rw [Nat.add_assoc, b1, b2]⟩
theorem nsS_bd {T : Nat → Int} {len s : Nat} (h : s < len) : s < nsS T len s ∧ nsS T len s ≤ len := by
  have h1 := nxS_bd (T := T) h
  have h2 := spE_ge (P := isBl) (T := T) (len := len) (p := nxS T len s)
  have h3 := spE_le (P := isBl) (T := T) h1.2
  unfold nsS
  omega
theorem rch_step {T : Nat → Int} {len s : Nat} {c c1 : rdT} (hs : s < len) (ht : ¬ tkS T len s = 0) (h : rdS (tkS T len s) (vlS T len s) c = (0, c1)) : rch T len s c (nsS T len s) c1 := by
  have := nsS_bd (T := T) hs
  refine ⟨1, by omega, fun f => ?_⟩
  rw [Nat.add_comm]
  simp only [rdE]
  rw [if_neg (fun g => ht g.1), h, if_pos rfl]
theorem flt_step {T : Nat → Int} {len s : Nat} {c : rdT} {k : Int} (h0 : ¬ (tkS T len s = 0 ∧ c.2.2.1 = 0)) (hk : ¬ k = 0) (h : (rdS (tkS T len s) (vlS T len s) c).1 = k) : flt T len s c k s := by
  refine ⟨1, (rdS (tkS T len s) (vlS T len s) c).2, by omega, fun f => ?_⟩
  rw [Nat.add_comm]
  simp only [rdE]
  rw [if_neg h0, h, if_neg hk]
/-- steps laid down, the latest first -/
def stp (f : Nat → Int) : List (Int × Int) → Prop
  | [] => True
  | p :: r => f (2 * r.length) = p.1 ∧ f (2 * r.length + 1) = p.2 ∧ stp f r
theorem stp_cg {f g : Nat → Int} : ∀ (ms : List (Int × Int)), (∀ j, j < 2 * ms.length → g j = f j) → stp f ms → stp g ms := by
  intro ms
  induction ms with
  | nil => intro _ _; trivial
  | cons p r ih =>
    intro h hs
    rw [List.length_cons] at h
    exact ⟨by rw [h _ (by omega)]; exact hs.1, by rw [h _ (by omega)]; exact hs.2.1, ih (fun j hj => h j (by omega)) hs.2.2⟩
def pM (Z : Nat → Nat → Int) (T : Nat → Int) (len s : Nat) (ms : List (Int × Int)) (D : Int) : Prop := sm_zs Z ∧ tpM Z T len ∧ lkA Z T len s ∧ (Z 79 13 = (ms.length : Int) ∧ stp (Z 85) ms ∧ Z 79 19 = 0) ∧ Z 79 22 = D
def frP (Z Z' : Nat → Nat → Int) : Prop := (∀ a, a ≠ 79 → a ≠ 85 → Z' a = Z a) ∧ ∀ j, (j < 13 ∨ j = 14 ∨ j = 21 ∨ 22 < j) → Z' 79 j = Z 79 j
theorem frP_refl (Z : Nat → Nat → Int) : frP Z Z := ⟨fun _ _ _ => rfl, fun _ _ => rfl⟩
theorem frP_trans {Z Z' Z'' : Nat → Nat → Int} (h1 : frP Z Z') (h2 : frP Z' Z'') : frP Z Z'' := ⟨fun a q1 q2 => by rw [h2.1 a q1 q2, h1.1 a q1 q2], fun j hj => by rw [h2.2 j hj, h1.2 j hj]⟩
def cO (p : Int × Int) : Int := cOrd p.1 p.2
/-- how steps change the types of the stack, the latest first -/
def tyV : List (Int × Int) → List Bool → List Bool → Prop
  | [], t, t' => t = t'
  | p :: r, t, t' => ∃ t1, tyV r t t1 ∧ tyS p.1 p.2 t1 t'
theorem tyV_app : ∀ (a b : List (Int × Int)) (t t1 t' : List Bool), tyV b t t1 → tyV a t1 t' → tyV (a ++ b) t t' := by
  intro a
  induction a with
  | nil => intro b t t1 t' h1 h2; have : t1 = t' := h2; rw [← this]; exact h1
  | cons p a ih =>
    intro b t t1 t' h1 h2
    obtain ⟨t2, h3, h4⟩ := h2
    exact ⟨t2, ih b t t1 t2 h1 h3, h4⟩
def hdL (s : Int) (pd : List Int) : Prop := pd = [] ∨ ∃ k r, pd = k :: r ∧ stg k < s
def cn3 : List Int → Int
  | [] => 0
  | k :: r => (if k = 3 then 1 else 0) + cn3 r
theorem stl_ops {s : Int} {pd : List Int} (hd : hdL s pd) : ∀ (ops rc : List Int) (op : Int), (∀ k ∈ ops, s ≤ stg k) → stl s (ops ++ pd) rc op = (pd, ops.reverse ++ rc, op - cn3 ops) := by
  intro ops
  induction ops with
  | nil =>
    intro rc op _
    rcases hd with h | ⟨k, r, h, hk⟩
    · rw [h]
      simp [stl, cn3]
    · rw [h]
      simp only [List.nil_append, stl, cn3]
      rw [if_neg (by omega)]
      simp
  | cons k ops ih =>
    intro rc op h
    simp only [List.cons_append, stl, cn3]
    rw [if_pos (h k List.mem_cons_self), ih (k :: rc) _ (fun x hx => h x (List.mem_cons_of_mem _ hx))]
    by_cases hk : k = 3
    · rw [if_pos hk, if_pos hk]
      simp only [List.reverse_cons, List.append_assoc, List.singleton_append]
      congr 2
      omega
    · rw [if_neg hk, if_neg hk]
      simp only [List.reverse_cons, List.append_assoc, List.singleton_append]
      congr 2
      omega
/-- how a part of a text comes out in both -/
def outc (T : Nat → Int) (len : Nat) (Z Z' : Nat → Nat → Int) (s : Nat) (ms : List (Int × Int)) (D : Int) (c : rdT) (G : Nat → List (Int × Int) → rdT → Prop) (r : Bool) : Prop := frP Z Z' ∧ (r = true → ∃ s' new c', rch T len s c s' c' ∧ new.length + s ≤ s' ∧ s' ≤ len ∧ pM Z' T len s' (new ++ ms) D ∧ G s' new c') ∧ (r = false → ∃ k s', (0 < k ∧ k < 9) ∧ flt T len s c k s' ∧ Z' 79 19 = k ∧ Z' 79 20 = (s' : Int))
section PARSE
variable {d n z : Nat} {Rf : Nat → Nat → Option Nat} {K : Nat → Nat × Nat} {T : Nat → Int} {len s : Nat} {ms : List (Int × Int)} {D : Int} {Z : Nat → Nat → Int}
theorem m_nx (H : sm_sh Rf K) (hp : pM Z T len s ms D) (hs : s < len) : ∃ Z', pM Z' T len (nsS T len s) ms D ∧ frP Z Z' ∧ ∀ Q, sm_call (d + 7) 144 [.inr (some 79)] (Z, Rf, K, n, z) Q = Q none (Z', Rf, K, n, z) := by
  obtain ⟨h1, h2, h3, h4, h5⟩ := hp
  have hb := nxS_bd (T := T) hs
  obtain ⟨Z1, a1, a2, a3, a4⟩ := m_next0 (d := d) (n := n) (z := z) H h1 h2 hb.2 h3.1
  refine ⟨Z1, ⟨zs_fr h1 (fun a ha => a2 a (by omega)), tpM_fr (a2 86 (by decide)) (a3 14 (by omega)) h2, a1, ⟨by rw [a3 13 (by omega)]; exact h4.1, by rw [a2 85 (by decide)]; exact h4.2.1, by rw [a3 19 (by omega)]; exact h4.2.2⟩, by rw [a3 22 (by omega)]; exact h5⟩, ⟨fun a q1 _ => a2 a q1, fun j hj => a3 j (by omega)⟩, a4⟩
theorem m_lay1 (H : sm_sh Rf K) (hp : pM Z T len s ms D) (hm : ms.length ≤ 400) (k v : Int) : ∃ Z', pM Z' T len s ((k, v) :: ms) D ∧ frP Z Z' ∧ ∀ Q, sm_call d 147 [.inr (some 79), .inl k, .inl v] (Z, Rf, K, n, z) Q = Q none (Z', Rf, K, n, z) := by
  obtain ⟨h1, h2, h3, h4, h5⟩ := hp
  have n1 : (2 * (ms.length : Int)).toNat = 2 * ms.length := by omega
  have n2 : (2 * (ms.length : Int) + 1).toNat = 2 * ms.length + 1 := by omega
  refine ⟨sm_u (sm_u (sm_u Z 85 (2 * ms.length) k) 85 (2 * ms.length + 1) v) 79 13 ((ms.length : Int) + 1), ⟨?_, ?_, ?_, ⟨?_, ?_, ?_⟩, ?_⟩, ⟨fun a q1 q2 => ?_, fun j hj => ?_⟩, fun Q => ?_⟩
  · exact zs_fr h1 (fun a ha => by rw [sm_u_row (by omega), sm_u_row (by omega), sm_u_row (by omega)])
  · exact tpM_fr (by rw [sm_u_row (by decide), sm_u_row (by decide), sm_u_row (by decide)]) (by rw [sm_u_eq, if_neg (by decide), sm_u_ne (by decide), sm_u_ne (by decide)]) h2
  · unfold lkA at h3 ⊢
    rw [sm_u_eq, if_neg (by decide), sm_u_eq, if_neg (by decide), sm_u_eq, if_neg (by decide), sm_u_eq, if_neg (by decide), sm_u_ne (by decide), sm_u_ne (by decide), sm_u_ne (by decide), sm_u_ne (by decide), sm_u_ne (by decide), sm_u_ne (by decide), sm_u_ne (by decide), sm_u_ne (by decide)]
    exact h3
  · rw [sm_u_self, List.length_cons]
    omega
  · rw [sm_u_row (by decide)]
    refine ⟨?_, ?_, ?_⟩
    · rw [sm_u_eq, if_neg (by omega), sm_u_self]
    · rw [sm_u_self]
    · refine stp_cg ms (fun j hj => ?_) h4.2.1
      rw [sm_u_eq, if_neg (by omega), sm_u_eq, if_neg (by omega)]
  · rw [sm_u_eq, if_neg (by decide), sm_u_ne (by decide), sm_u_ne (by decide)]
    exact h4.2.2
  · rw [sm_u_eq, if_neg (by decide), sm_u_ne (by decide), sm_u_ne (by decide)]
    exact h5
  · rw [sm_u_row q1, sm_u_row q2, sm_u_row q2]
  · rw [sm_u_eq, if_neg (by omega), sm_u_ne (by decide), sm_u_ne (by decide)]
  · rw [ce147, b147_0, kk_79 H, rr_79_8 H, h4.1]
    simp (disch := omega) only [wr_id, wr_b2i, wr_wr, b2i_eq0, b2i_eq1, b2i_01, sm_rem_eq, sm_div_eq, wl_m2, wl_m1, wl_0, wl_1, wl_2, wl_3, wl_4, wl_5, wl_6, wl_7, wl_8, wl_9, wl_10, wl_12, wl_13, wl_14, wl_16, wl_20, wl_21, wl_22, wl_23, wl_32, wl_36, wl_40, wl_41, wl_42, wl_43, wl_44, wl_45, wl_46, wl_47, wl_48, wl_57, wl_59, wl_60, wl_61, wl_62, wl_65, wl_90, wl_97, wl_99, wl_100, wl_121, wl_122, wl_140, wl_142, wl_143, wl_145, wl_147, wl_160, wl_161, wl_162, wl_242, wl_380, wl_400, wl_420, wl_820, wl_1340, wl_5480, wl_9999, true_and, and_true, true_or, or_true, if_true, if_false, and_self, or_self, false_and, and_false, false_or, or_false, not_true_eq_false, not_false_eq_true, Int.reduceEq, Int.reduceLT, Int.reduceLE, Int.reduceToNat, Int.reduceAdd, Int.reduceMul, Int.reduceSub, Int.reduceMod, Int.reduceDiv, Int.reduceNeg, Nat.reduceEqDiff, sm_rd_ok, sm_rd_ok2, sm_wt_ok, sm_cp_ok, Option.isSome_some, Option.getD_some, w_cont, Option.toList_some, Option.toList_none, List.cons_append, List.nil_append, kk_85 H, n1]
    rw [sm_u_ne (show (79 : Nat) ≠ 85 by decide), h4.1]
    simp (disch := omega) only [wr_id, wr_b2i, wr_wr, b2i_eq0, b2i_eq1, b2i_01, sm_rem_eq, sm_div_eq, wl_m2, wl_m1, wl_0, wl_1, wl_2, wl_3, wl_4, wl_5, wl_6, wl_7, wl_8, wl_9, wl_10, wl_12, wl_13, wl_14, wl_16, wl_20, wl_21, wl_22, wl_23, wl_32, wl_36, wl_40, wl_41, wl_42, wl_43, wl_44, wl_45, wl_46, wl_47, wl_48, wl_57, wl_59, wl_60, wl_61, wl_62, wl_65, wl_90, wl_97, wl_99, wl_100, wl_121, wl_122, wl_140, wl_142, wl_143, wl_145, wl_147, wl_160, wl_161, wl_162, wl_242, wl_380, wl_400, wl_420, wl_820, wl_1340, wl_5480, wl_9999, true_and, and_true, true_or, or_true, if_true, if_false, and_self, or_self, false_and, and_false, false_or, or_false, not_true_eq_false, not_false_eq_true, Int.reduceEq, Int.reduceLT, Int.reduceLE, Int.reduceToNat, Int.reduceAdd, Int.reduceMul, Int.reduceSub, Int.reduceMod, Int.reduceDiv, Int.reduceNeg, Nat.reduceEqDiff, sm_rd_ok, sm_rd_ok2, sm_wt_ok, sm_cp_ok, Option.isSome_some, Option.getD_some, w_cont, Option.toList_some, Option.toList_none, List.cons_append, List.nil_append, kk_85 H, n2]
    rw [sm_u_ne (show (79 : Nat) ≠ 85 by decide), sm_u_ne (show (79 : Nat) ≠ 85 by decide), h4.1]
theorem m_bad1 (H : sm_sh Rf K) (hp : pM Z T len s ms D) (k : Int) : ∃ Z', (Z' 79 19 = k ∧ Z' 79 20 = (s : Int)) ∧ frP Z Z' ∧ ∀ Q, sm_call d 145 [.inr (some 79), .inl k] (Z, Rf, K, n, z) Q = Q (some (.inl 0)) (Z', Rf, K, n, z) := by
  have h17 := hp.2.2.1.2.2.1
  refine ⟨sm_u (sm_u Z 79 19 k) 79 20 (s : Int), ⟨by rw [sm_u_eq, if_neg (by decide), sm_u_self], by rw [sm_u_self]⟩, ⟨fun a q1 _ => by rw [sm_u_row q1, sm_u_row q1], fun j hj => by rw [sm_u_eq, if_neg (by omega), sm_u_eq, if_neg (by omega)]⟩, fun Q => ?_⟩
  rw [ce145, b145_0, kk_79 H, sm_u_eq, if_neg (by decide), h17]
  simp only [wr_id, wr_b2i, wr_wr, b2i_eq0, b2i_eq1, b2i_01, sm_rem_eq, sm_div_eq, wl_m2, wl_m1, wl_0, wl_1, wl_2, wl_3, wl_4, wl_5, wl_6, wl_7, wl_8, wl_9, wl_10, wl_12, wl_13, wl_14, wl_16, wl_20, wl_21, wl_22, wl_23, wl_32, wl_36, wl_40, wl_41, wl_42, wl_43, wl_44, wl_45, wl_46, wl_47, wl_48, wl_57, wl_59, wl_60, wl_61, wl_62, wl_65, wl_90, wl_97, wl_99, wl_100, wl_121, wl_122, wl_140, wl_142, wl_143, wl_145, wl_147, wl_160, wl_161, wl_162, wl_242, wl_380, wl_400, wl_420, wl_820, wl_1340, wl_5480, wl_9999, true_and, and_true, true_or, or_true, if_true, if_false, and_self, or_self, false_and, and_false, false_or, or_false, not_true_eq_false, not_false_eq_true, Int.reduceEq, Int.reduceLT, Int.reduceLE, Int.reduceToNat, Int.reduceAdd, Int.reduceMul, Int.reduceSub, Int.reduceMod, Int.reduceDiv, Int.reduceNeg, Nat.reduceEqDiff, sm_rd_ok, sm_rd_ok2, sm_wt_ok, sm_cp_ok, Option.isSome_some, Option.getD_some, w_cont, Option.toList_some, Option.toList_none, List.cons_append, List.nil_append]
/-- a number or a name may come -/
def enU (t st rt rt0 : Int) : Prop := (st = 3 ∧ rt0 = rt) ∨ (st = 2 ∧ ¬ t = 6 ∧ ¬ t = 140 ∧ rt0 = 0)
theorem enU_rdS {t v st rt rt0 ln tn op br : Int} {rc pd : List Int} (h : enU t st rt rt0) (hb : rc.length + pd.length < 400 ∧ pd.length < 40) : rdS t v (rc, pd, st, ln, tn, op, br, rt) = tkUnit t v (rc, pd, st, ln, tn, op, br, rt0) := by
  rw [rdS_st hb]
  rcases h with ⟨h1, h2⟩ | ⟨h1, h2, h3, h4⟩
  · rw [if_neg (by omega), if_neg (by omega), if_neg (by omega), if_pos h1, h2]
  · rw [if_neg (by omega), if_neg (by omega), if_pos h1, h4]
    show (if t = 6 then _ else if t = 140 then _ else tkUnit t v (rc, pd, st, ln, tn, op, br, 0)) = _
    rw [if_neg h2, if_neg h3]
def GU (rc pd : List Int) (ln tn op br rt0 : Int) : Nat → List (Int × Int) → rdT → Prop := fun _ new c' => ∃ u, new = [u] ∧ c' = (cO u :: rc, pd, 5, ln, tn, op, br, rt0) ∧ ∀ tt : List Bool, tt.length < 32 → tyV [u] tt (false :: tt)
theorem m_unit (H : sm_sh Rf K) (hp : pM Z T len s ms D) (hms : ms.length ≤ s) {rc pd : List Int} {st ln tn op br rt rt0 : Int} (hen : enU (tkS T len s) st rt rt0) (hcap : rc.length + pd.length + 1 ≤ s) (hpd : pd.length < 40) : ∃ Z' r, outc T len Z Z' s ms D (rc, pd, st, ln, tn, op, br, rt) (GU rc pd ln tn op br rt0) r ∧ ∀ Q, sm_call (d + 8) 151 [.inr (some 79)] (Z, Rf, K, n, z) Q = Q (some (.inl (b2i r))) (Z', Rf, K, n, z) := by
  have h4 := hp.2.1.2.2.2
  have hsl := hp.2.2.1.2.2.2.2.2
  have h16 := hp.2.2.1.2.1
  have h18 := hp.2.2.1.2.2.2.1
  have hvb := hp.2.2.1.2.2.2.2.1
  have ht0 := tkS_0 (len := len) (s := s) hp.2.1.2.1
  have hb : rc.length + pd.length < 400 ∧ pd.length < 40 := ⟨by omega, hpd⟩
  have e := enU_rdS (v := vlS T len s) (ln := ln) (tn := tn) (op := op) (br := br) hen hb
  have head : ∀ Q, sm_call (d + 8) 151 [.inr (some 79)] (Z, Rf, K, n, z) Q = if tkS T len s = 2 ∨ (41 ≤ tkS T len s ∧ tkS T len s ≤ 49) then sm_wp (d + 8) 151 30 [some (.inr (some 79)), some (.inl (b2i (isInB (tkS T len s) 41 49)))] [] (Z, Rf, K, n, z) Q else sm_wp (d + 8) 151 24 [some (.inr (some 79)), some (.inl (b2i (isInB (tkS T len s) 41 49)))] [] (Z, Rf, K, n, z) Q := by
    intro Q
    rw [ce151, b151_0, kk_79 H, h16]
    simp only [wr_id, wr_b2i, wr_wr, b2i_eq0, b2i_eq1, b2i_01, sm_rem_eq, sm_div_eq, wl_m2, wl_m1, wl_0, wl_1, wl_2, wl_3, wl_4, wl_5, wl_6, wl_7, wl_8, wl_9, wl_10, wl_12, wl_13, wl_14, wl_16, wl_20, wl_21, wl_22, wl_23, wl_32, wl_36, wl_40, wl_41, wl_42, wl_43, wl_44, wl_45, wl_46, wl_47, wl_48, wl_57, wl_59, wl_60, wl_61, wl_62, wl_65, wl_90, wl_97, wl_99, wl_100, wl_121, wl_122, wl_140, wl_142, wl_143, wl_145, wl_147, wl_160, wl_161, wl_162, wl_242, wl_380, wl_400, wl_420, wl_820, wl_1340, wl_5480, wl_9999, true_and, and_true, true_or, or_true, if_true, if_false, and_self, or_self, false_and, and_false, false_or, or_false, not_true_eq_false, not_false_eq_true, Int.reduceEq, Int.reduceLT, Int.reduceLE, Int.reduceToNat, Int.reduceAdd, Int.reduceMul, Int.reduceSub, Int.reduceMod, Int.reduceDiv, Int.reduceNeg, Nat.reduceEqDiff, sm_rd_ok, sm_rd_ok2, sm_wt_ok, sm_cp_ok, Option.isSome_some, Option.getD_some, w_cont, Option.toList_some, Option.toList_none, List.cons_append, List.nil_append]
    rw [m_isIn (by omega) (by omega) (by omega), w_cont]
    simp only [wr_id, wr_b2i, wr_wr, b2i_eq0, b2i_eq1, b2i_01, sm_rem_eq, sm_div_eq, wl_m2, wl_m1, wl_0, wl_1, wl_2, wl_3, wl_4, wl_5, wl_6, wl_7, wl_8, wl_9, wl_10, wl_12, wl_13, wl_14, wl_16, wl_20, wl_21, wl_22, wl_23, wl_32, wl_36, wl_40, wl_41, wl_42, wl_43, wl_44, wl_45, wl_46, wl_47, wl_48, wl_57, wl_59, wl_60, wl_61, wl_62, wl_65, wl_90, wl_97, wl_99, wl_100, wl_121, wl_122, wl_140, wl_142, wl_143, wl_145, wl_147, wl_160, wl_161, wl_162, wl_242, wl_380, wl_400, wl_420, wl_820, wl_1340, wl_5480, wl_9999, true_and, and_true, true_or, or_true, if_true, if_false, and_self, or_self, false_and, and_false, false_or, or_false, not_true_eq_false, not_false_eq_true, Int.reduceEq, Int.reduceLT, Int.reduceLE, Int.reduceToNat, Int.reduceAdd, Int.reduceMul, Int.reduceSub, Int.reduceMod, Int.reduceDiv, Int.reduceNeg, Nat.reduceEqDiff, sm_rd_ok, sm_rd_ok2, sm_wt_ok, sm_cp_ok, Option.isSome_some, Option.getD_some, w_cont, Option.toList_some, Option.toList_none, List.cons_append, List.nil_append]
    rw [b151_11, kk_79 H, h16]
    simp only [wr_id, wr_b2i, wr_wr, b2i_eq0, b2i_eq1, b2i_01, sm_rem_eq, sm_div_eq, wl_m2, wl_m1, wl_0, wl_1, wl_2, wl_3, wl_4, wl_5, wl_6, wl_7, wl_8, wl_9, wl_10, wl_12, wl_13, wl_14, wl_16, wl_20, wl_21, wl_22, wl_23, wl_32, wl_36, wl_40, wl_41, wl_42, wl_43, wl_44, wl_45, wl_46, wl_47, wl_48, wl_57, wl_59, wl_60, wl_61, wl_62, wl_65, wl_90, wl_97, wl_99, wl_100, wl_121, wl_122, wl_140, wl_142, wl_143, wl_145, wl_147, wl_160, wl_161, wl_162, wl_242, wl_380, wl_400, wl_420, wl_820, wl_1340, wl_5480, wl_9999, true_and, and_true, true_or, or_true, if_true, if_false, and_self, or_self, false_and, and_false, false_or, or_false, not_true_eq_false, not_false_eq_true, Int.reduceEq, Int.reduceLT, Int.reduceLE, Int.reduceToNat, Int.reduceAdd, Int.reduceMul, Int.reduceSub, Int.reduceMod, Int.reduceDiv, Int.reduceNeg, Nat.reduceEqDiff, sm_rd_ok, sm_rd_ok2, sm_wt_ok, sm_cp_ok, Option.isSome_some, Option.getD_some, w_cont, Option.toList_some, Option.toList_none, List.cons_append, List.nil_append]
    rw [wr_id (by omega) (by omega)]
    by_cases h2 : tkS T len s = 2
    · rw [if_pos h2, if_pos (Or.inl h2)]
    · rw [if_neg h2, b151_20]
      simp only [wr_id, wr_b2i, wr_wr, b2i_eq0, b2i_eq1, b2i_01, sm_rem_eq, sm_div_eq, wl_m2, wl_m1, wl_0, wl_1, wl_2, wl_3, wl_4, wl_5, wl_6, wl_7, wl_8, wl_9, wl_10, wl_12, wl_13, wl_14, wl_16, wl_20, wl_21, wl_22, wl_23, wl_32, wl_36, wl_40, wl_41, wl_42, wl_43, wl_44, wl_45, wl_46, wl_47, wl_48, wl_57, wl_59, wl_60, wl_61, wl_62, wl_65, wl_90, wl_97, wl_99, wl_100, wl_121, wl_122, wl_140, wl_142, wl_143, wl_145, wl_147, wl_160, wl_161, wl_162, wl_242, wl_380, wl_400, wl_420, wl_820, wl_1340, wl_5480, wl_9999, true_and, and_true, true_or, or_true, if_true, if_false, and_self, or_self, false_and, and_false, false_or, or_false, not_true_eq_false, not_false_eq_true, Int.reduceEq, Int.reduceLT, Int.reduceLE, Int.reduceToNat, Int.reduceAdd, Int.reduceMul, Int.reduceSub, Int.reduceMod, Int.reduceDiv, Int.reduceNeg, Nat.reduceEqDiff, sm_rd_ok, sm_rd_ok2, sm_wt_ok, sm_cp_ok, Option.isSome_some, Option.getD_some, w_cont, Option.toList_some, Option.toList_none, List.cons_append, List.nil_append, isInB, decide_eq_false_iff_not]
      by_cases h3 : 41 ≤ tkS T len s ∧ tkS T len s ≤ 49
      · rw [if_neg (fun g => g h3), if_pos (Or.inr h3)]
      · rw [if_pos h3, if_neg (by omega)]
  by_cases hok : tkS T len s = 2 ∨ (41 ≤ tkS T len s ∧ tkS T len s ≤ 49)
  · have hlt : s < len := by
      rcases Nat.lt_or_ge s len with h | h
      · exact h
      · have := ht0.2.2.2 h; omega
    obtain ⟨u, hu⟩ : ∃ u : Int × Int, u = ((if 41 ≤ tkS T len s ∧ tkS T len s ≤ 49 then tkS T len s - 40 else 0), Z 79 18) := ⟨_, rfl⟩
    obtain ⟨Z1, a1, a2, a3⟩ := m_lay1 (d := d + 7) (n := n) (z := z) H hp (by omega) u.1 u.2
    obtain ⟨Z2, b1, b2, b3⟩ := m_nx (d := d) (n := n) (z := z) H a1 hlt
    have hns := nsS_bd (T := T) hlt
    have hcO : (rdS (tkS T len s) (vlS T len s) (rc, pd, st, ln, tn, op, br, rt)) = (0, cO u :: rc, pd, 5, ln, tn, op, br, rt0) := by
      rw [e]
      simp only [tkUnit]
      by_cases h2 : tkS T len s = 2
      · rw [if_pos h2]
        have : cO u = 16 * vlS T len s + 0 := by
          unfold cO cOrd
          rw [hu, if_neg (show ¬ (41 ≤ tkS T len s ∧ tkS T len s ≤ 49) by omega)]
          show (if (0 : Int) = 0 then 16 * Z 79 18 else _) = _
          rw [if_pos rfl, h18 h2]
          omega
        rw [this]
      · have h3 := hok.resolve_left h2
        rw [if_neg h2, if_pos h3]
        have : cO u = 16 * (tkS T len s - 41) + 1 := by
          unfold cO cOrd
          rw [hu, if_pos h3]
          show (if tkS T len s - 40 = 0 then _ else if tkS T len s - 40 < 13 then 16 * (tkS T len s - 40 - 1) + 1 else _) = _
          rw [if_neg (by omega), if_pos (by omega)]
          omega
        rw [this]
    refine ⟨Z2, true, ⟨frP_trans a2 b2, fun _ => ⟨nsS T len s, [u], _, rch_step hlt (by omega) hcO, by simp; omega, hns.2, b1, u, rfl, rfl, fun tt htt => ⟨tt, rfl, ?_⟩⟩, fun g => Bool.noConfusion g⟩, fun Q => ?_⟩
    · rw [hu]
      by_cases h3 : 41 ≤ tkS T len s ∧ tkS T len s ≤ 49
      · right; left
        show (1 ≤ (if 41 ≤ tkS T len s ∧ tkS T len s ≤ 49 then tkS T len s - 40 else 0) ∧ (if 41 ≤ tkS T len s ∧ tkS T len s ≤ 49 then tkS T len s - 40 else 0) ≤ 9) ∧ tt.length < 32 ∧ false :: tt = false :: tt
        rw [if_pos h3]
        exact ⟨by omega, htt, rfl⟩
      · left
        show (if 41 ≤ tkS T len s ∧ tkS T len s ≤ 49 then tkS T len s - 40 else 0) = 0 ∧ tt.length < 32 ∧ (0 ≤ Z 79 18 ∧ Z 79 18 ≤ 9999) ∧ false :: tt = false :: tt
        rw [if_neg h3]
        exact ⟨rfl, htt, hvb (hok.resolve_right h3), rfl⟩
    · rw [head, if_pos hok, b151_30]
      simp only [wr_id, wr_b2i, wr_wr, b2i_eq0, b2i_eq1, b2i_01, sm_rem_eq, sm_div_eq, wl_m2, wl_m1, wl_0, wl_1, wl_2, wl_3, wl_4, wl_5, wl_6, wl_7, wl_8, wl_9, wl_10, wl_12, wl_13, wl_14, wl_16, wl_20, wl_21, wl_22, wl_23, wl_32, wl_36, wl_40, wl_41, wl_42, wl_43, wl_44, wl_45, wl_46, wl_47, wl_48, wl_57, wl_59, wl_60, wl_61, wl_62, wl_65, wl_90, wl_97, wl_99, wl_100, wl_121, wl_122, wl_140, wl_142, wl_143, wl_145, wl_147, wl_160, wl_161, wl_162, wl_242, wl_380, wl_400, wl_420, wl_820, wl_1340, wl_5480, wl_9999, true_and, and_true, true_or, or_true, if_true, if_false, and_self, or_self, false_and, and_false, false_or, or_false, not_true_eq_false, not_false_eq_true, Int.reduceEq, Int.reduceLT, Int.reduceLE, Int.reduceToNat, Int.reduceAdd, Int.reduceMul, Int.reduceSub, Int.reduceMod, Int.reduceDiv, Int.reduceNeg, Nat.reduceEqDiff, sm_rd_ok, sm_rd_ok2, sm_wt_ok, sm_cp_ok, Option.isSome_some, Option.getD_some, w_cont, Option.toList_some, Option.toList_none, List.cons_append, List.nil_append, isInB, decide_eq_false_iff_not]
      have fin : ∀ k, k = u.1 → sm_wp (d + 8) 151 46 [some (.inr (some 79)), some (.inl (b2i (decide (41 ≤ tkS T len s ∧ tkS T len s ≤ 49))))] [.inl k, .inr (some 79)] (Z, Rf, K, n, z) Q = Q (some (.inl (b2i true))) (Z2, Rf, K, n, z) := by
        intro k hk
        have hu2 : Z 79 18 = u.2 := by rw [hu]
        rw [b151_46, kk_79 H, hk, hu2]
        simp only [wr_id, wr_b2i, wr_wr, b2i_eq0, b2i_eq1, b2i_01, sm_rem_eq, sm_div_eq, wl_m2, wl_m1, wl_0, wl_1, wl_2, wl_3, wl_4, wl_5, wl_6, wl_7, wl_8, wl_9, wl_10, wl_12, wl_13, wl_14, wl_16, wl_20, wl_21, wl_22, wl_23, wl_32, wl_36, wl_40, wl_41, wl_42, wl_43, wl_44, wl_45, wl_46, wl_47, wl_48, wl_57, wl_59, wl_60, wl_61, wl_62, wl_65, wl_90, wl_97, wl_99, wl_100, wl_121, wl_122, wl_140, wl_142, wl_143, wl_145, wl_147, wl_160, wl_161, wl_162, wl_242, wl_380, wl_400, wl_420, wl_820, wl_1340, wl_5480, wl_9999, true_and, and_true, true_or, or_true, if_true, if_false, and_self, or_self, false_and, and_false, false_or, or_false, not_true_eq_false, not_false_eq_true, Int.reduceEq, Int.reduceLT, Int.reduceLE, Int.reduceToNat, Int.reduceAdd, Int.reduceMul, Int.reduceSub, Int.reduceMod, Int.reduceDiv, Int.reduceNeg, Nat.reduceEqDiff, sm_rd_ok, sm_rd_ok2, sm_wt_ok, sm_cp_ok, Option.isSome_some, Option.getD_some, w_cont, Option.toList_some, Option.toList_none, List.cons_append, List.nil_append]
        refine (a3 _).trans ?_
        rw [w_cont]
        simp only [wr_id, wr_b2i, wr_wr, b2i_eq0, b2i_eq1, b2i_01, sm_rem_eq, sm_div_eq, wl_m2, wl_m1, wl_0, wl_1, wl_2, wl_3, wl_4, wl_5, wl_6, wl_7, wl_8, wl_9, wl_10, wl_12, wl_13, wl_14, wl_16, wl_20, wl_21, wl_22, wl_23, wl_32, wl_36, wl_40, wl_41, wl_42, wl_43, wl_44, wl_45, wl_46, wl_47, wl_48, wl_57, wl_59, wl_60, wl_61, wl_62, wl_65, wl_90, wl_97, wl_99, wl_100, wl_121, wl_122, wl_140, wl_142, wl_143, wl_145, wl_147, wl_160, wl_161, wl_162, wl_242, wl_380, wl_400, wl_420, wl_820, wl_1340, wl_5480, wl_9999, true_and, and_true, true_or, or_true, if_true, if_false, and_self, or_self, false_and, and_false, false_or, or_false, not_true_eq_false, not_false_eq_true, Int.reduceEq, Int.reduceLT, Int.reduceLE, Int.reduceToNat, Int.reduceAdd, Int.reduceMul, Int.reduceSub, Int.reduceMod, Int.reduceDiv, Int.reduceNeg, Nat.reduceEqDiff, sm_rd_ok, sm_rd_ok2, sm_wt_ok, sm_cp_ok, Option.isSome_some, Option.getD_some, w_cont, Option.toList_some, Option.toList_none, List.cons_append, List.nil_append]
        rw [b151_53, kk_79 H]
        simp only [wr_id, wr_b2i, wr_wr, b2i_eq0, b2i_eq1, b2i_01, sm_rem_eq, sm_div_eq, wl_m2, wl_m1, wl_0, wl_1, wl_2, wl_3, wl_4, wl_5, wl_6, wl_7, wl_8, wl_9, wl_10, wl_12, wl_13, wl_14, wl_16, wl_20, wl_21, wl_22, wl_23, wl_32, wl_36, wl_40, wl_41, wl_42, wl_43, wl_44, wl_45, wl_46, wl_47, wl_48, wl_57, wl_59, wl_60, wl_61, wl_62, wl_65, wl_90, wl_97, wl_99, wl_100, wl_121, wl_122, wl_140, wl_142, wl_143, wl_145, wl_147, wl_160, wl_161, wl_162, wl_242, wl_380, wl_400, wl_420, wl_820, wl_1340, wl_5480, wl_9999, true_and, and_true, true_or, or_true, if_true, if_false, and_self, or_self, false_and, and_false, false_or, or_false, not_true_eq_false, not_false_eq_true, Int.reduceEq, Int.reduceLT, Int.reduceLE, Int.reduceToNat, Int.reduceAdd, Int.reduceMul, Int.reduceSub, Int.reduceMod, Int.reduceDiv, Int.reduceNeg, Nat.reduceEqDiff, sm_rd_ok, sm_rd_ok2, sm_wt_ok, sm_cp_ok, Option.isSome_some, Option.getD_some, w_cont, Option.toList_some, Option.toList_none, List.cons_append, List.nil_append]
        refine (b3 _).trans ?_
        rw [w_cont]
        simp only [wr_id, wr_b2i, wr_wr, b2i_eq0, b2i_eq1, b2i_01, sm_rem_eq, sm_div_eq, wl_m2, wl_m1, wl_0, wl_1, wl_2, wl_3, wl_4, wl_5, wl_6, wl_7, wl_8, wl_9, wl_10, wl_12, wl_13, wl_14, wl_16, wl_20, wl_21, wl_22, wl_23, wl_32, wl_36, wl_40, wl_41, wl_42, wl_43, wl_44, wl_45, wl_46, wl_47, wl_48, wl_57, wl_59, wl_60, wl_61, wl_62, wl_65, wl_90, wl_97, wl_99, wl_100, wl_121, wl_122, wl_140, wl_142, wl_143, wl_145, wl_147, wl_160, wl_161, wl_162, wl_242, wl_380, wl_400, wl_420, wl_820, wl_1340, wl_5480, wl_9999, true_and, and_true, true_or, or_true, if_true, if_false, and_self, or_self, false_and, and_false, false_or, or_false, not_true_eq_false, not_false_eq_true, Int.reduceEq, Int.reduceLT, Int.reduceLE, Int.reduceToNat, Int.reduceAdd, Int.reduceMul, Int.reduceSub, Int.reduceMod, Int.reduceDiv, Int.reduceNeg, Nat.reduceEqDiff, sm_rd_ok, sm_rd_ok2, sm_wt_ok, sm_cp_ok, Option.isSome_some, Option.getD_some, w_cont, Option.toList_some, Option.toList_none, List.cons_append, List.nil_append]
        rw [b151_57]
        simp only [wr_id, wr_b2i, wr_wr, b2i_eq0, b2i_eq1, b2i_01, sm_rem_eq, sm_div_eq, wl_m2, wl_m1, wl_0, wl_1, wl_2, wl_3, wl_4, wl_5, wl_6, wl_7, wl_8, wl_9, wl_10, wl_12, wl_13, wl_14, wl_16, wl_20, wl_21, wl_22, wl_23, wl_32, wl_36, wl_40, wl_41, wl_42, wl_43, wl_44, wl_45, wl_46, wl_47, wl_48, wl_57, wl_59, wl_60, wl_61, wl_62, wl_65, wl_90, wl_97, wl_99, wl_100, wl_121, wl_122, wl_140, wl_142, wl_143, wl_145, wl_147, wl_160, wl_161, wl_162, wl_242, wl_380, wl_400, wl_420, wl_820, wl_1340, wl_5480, wl_9999, true_and, and_true, true_or, or_true, if_true, if_false, and_self, or_self, false_and, and_false, false_or, or_false, not_true_eq_false, not_false_eq_true, Int.reduceEq, Int.reduceLT, Int.reduceLE, Int.reduceToNat, Int.reduceAdd, Int.reduceMul, Int.reduceSub, Int.reduceMod, Int.reduceDiv, Int.reduceNeg, Nat.reduceEqDiff, sm_rd_ok, sm_rd_ok2, sm_wt_ok, sm_cp_ok, Option.isSome_some, Option.getD_some, w_cont, Option.toList_some, Option.toList_none, List.cons_append, List.nil_append]
        rfl
      by_cases h3 : 41 ≤ tkS T len s ∧ tkS T len s ≤ 49
      · rw [if_neg (fun g => g h3), b151_35, kk_79 H, h16]
        simp only [wr_id, wr_b2i, wr_wr, b2i_eq0, b2i_eq1, b2i_01, sm_rem_eq, sm_div_eq, wl_m2, wl_m1, wl_0, wl_1, wl_2, wl_3, wl_4, wl_5, wl_6, wl_7, wl_8, wl_9, wl_10, wl_12, wl_13, wl_14, wl_16, wl_20, wl_21, wl_22, wl_23, wl_32, wl_36, wl_40, wl_41, wl_42, wl_43, wl_44, wl_45, wl_46, wl_47, wl_48, wl_57, wl_59, wl_60, wl_61, wl_62, wl_65, wl_90, wl_97, wl_99, wl_100, wl_121, wl_122, wl_140, wl_142, wl_143, wl_145, wl_147, wl_160, wl_161, wl_162, wl_242, wl_380, wl_400, wl_420, wl_820, wl_1340, wl_5480, wl_9999, true_and, and_true, true_or, or_true, if_true, if_false, and_self, or_self, false_and, and_false, false_or, or_false, not_true_eq_false, not_false_eq_true, Int.reduceEq, Int.reduceLT, Int.reduceLE, Int.reduceToNat, Int.reduceAdd, Int.reduceMul, Int.reduceSub, Int.reduceMod, Int.reduceDiv, Int.reduceNeg, Nat.reduceEqDiff, sm_rd_ok, sm_rd_ok2, sm_wt_ok, sm_cp_ok, Option.isSome_some, Option.getD_some, w_cont, Option.toList_some, Option.toList_none, List.cons_append, List.nil_append]
        exact fin _ (by rw [hu]; show _ = if 41 ≤ tkS T len s ∧ tkS T len s ≤ 49 then _ else _; rw [if_pos h3])
      · rw [if_pos h3, b151_45]
        exact fin _ (by rw [hu]; show _ = if 41 ≤ tkS T len s ∧ tkS T len s ≤ 49 then _ else _; rw [if_neg h3])
  · obtain ⟨Z1, a1, a2, a3⟩ := m_bad1 (d := d + 7) (n := n) (z := z) H hp 1
    have hst : ¬ st = 0 := by rcases hen with h | h <;> omega
    refine ⟨Z1, false, ⟨a2, fun g => Bool.noConfusion g, fun _ => ⟨1, s, by decide, flt_step (fun g => hst g.2) (by decide) ?_, a1.1, a1.2⟩⟩, fun Q => ?_⟩
    · rw [e]
      simp only [tkUnit]
      rw [if_neg (fun g => hok (Or.inl g)), if_neg (fun g => hok (Or.inr g))]
    · rw [head, if_neg hok, b151_24, kk_79 H]
      simp only [wr_id, wr_b2i, wr_wr, b2i_eq0, b2i_eq1, b2i_01, sm_rem_eq, sm_div_eq, wl_m2, wl_m1, wl_0, wl_1, wl_2, wl_3, wl_4, wl_5, wl_6, wl_7, wl_8, wl_9, wl_10, wl_12, wl_13, wl_14, wl_16, wl_20, wl_21, wl_22, wl_23, wl_32, wl_36, wl_40, wl_41, wl_42, wl_43, wl_44, wl_45, wl_46, wl_47, wl_48, wl_57, wl_59, wl_60, wl_61, wl_62, wl_65, wl_90, wl_97, wl_99, wl_100, wl_121, wl_122, wl_140, wl_142, wl_143, wl_145, wl_147, wl_160, wl_161, wl_162, wl_242, wl_380, wl_400, wl_420, wl_820, wl_1340, wl_5480, wl_9999, true_and, and_true, true_or, or_true, if_true, if_false, and_self, or_self, false_and, and_false, false_or, or_false, not_true_eq_false, not_false_eq_true, Int.reduceEq, Int.reduceLT, Int.reduceLE, Int.reduceToNat, Int.reduceAdd, Int.reduceMul, Int.reduceSub, Int.reduceMod, Int.reduceDiv, Int.reduceNeg, Nat.reduceEqDiff, sm_rd_ok, sm_rd_ok2, sm_wt_ok, sm_cp_ok, Option.isSome_some, Option.getD_some, w_cont, Option.toList_some, Option.toList_none, List.cons_append, List.nil_append]
      refine (a3 _).trans ?_
      rw [w_cont]
      simp only [wr_id, wr_b2i, wr_wr, b2i_eq0, b2i_eq1, b2i_01, sm_rem_eq, sm_div_eq, wl_m2, wl_m1, wl_0, wl_1, wl_2, wl_3, wl_4, wl_5, wl_6, wl_7, wl_8, wl_9, wl_10, wl_12, wl_13, wl_14, wl_16, wl_20, wl_21, wl_22, wl_23, wl_32, wl_36, wl_40, wl_41, wl_42, wl_43, wl_44, wl_45, wl_46, wl_47, wl_48, wl_57, wl_59, wl_60, wl_61, wl_62, wl_65, wl_90, wl_97, wl_99, wl_100, wl_121, wl_122, wl_140, wl_142, wl_143, wl_145, wl_147, wl_160, wl_161, wl_162, wl_242, wl_380, wl_400, wl_420, wl_820, wl_1340, wl_5480, wl_9999, true_and, and_true, true_or, or_true, if_true, if_false, and_self, or_self, false_and, and_false, false_or, or_false, not_true_eq_false, not_false_eq_true, Int.reduceEq, Int.reduceLT, Int.reduceLE, Int.reduceToNat, Int.reduceAdd, Int.reduceMul, Int.reduceSub, Int.reduceMod, Int.reduceDiv, Int.reduceNeg, Nat.reduceEqDiff, sm_rd_ok, sm_rd_ok2, sm_wt_ok, sm_cp_ok, Option.isSome_some, Option.getD_some, w_cont, Option.toList_some, Option.toList_none, List.cons_append, List.nil_append]
      rw [b151_29]
      simp only [wr_id, wr_b2i, wr_wr, b2i_eq0, b2i_eq1, b2i_01, sm_rem_eq, sm_div_eq, wl_m2, wl_m1, wl_0, wl_1, wl_2, wl_3, wl_4, wl_5, wl_6, wl_7, wl_8, wl_9, wl_10, wl_12, wl_13, wl_14, wl_16, wl_20, wl_21, wl_22, wl_23, wl_32, wl_36, wl_40, wl_41, wl_42, wl_43, wl_44, wl_45, wl_46, wl_47, wl_48, wl_57, wl_59, wl_60, wl_61, wl_62, wl_65, wl_90, wl_97, wl_99, wl_100, wl_121, wl_122, wl_140, wl_142, wl_143, wl_145, wl_147, wl_160, wl_161, wl_162, wl_242, wl_380, wl_400, wl_420, wl_820, wl_1340, wl_5480, wl_9999, true_and, and_true, true_or, or_true, if_true, if_false, and_self, or_self, false_and, and_false, false_or, or_false, not_true_eq_false, not_false_eq_true, Int.reduceEq, Int.reduceLT, Int.reduceLE, Int.reduceToNat, Int.reduceAdd, Int.reduceMul, Int.reduceSub, Int.reduceMod, Int.reduceDiv, Int.reduceNeg, Nat.reduceEqDiff, sm_rd_ok, sm_rd_ok2, sm_wt_ok, sm_cp_ok, Option.isSome_some, Option.getD_some, w_cont, Option.toList_some, Option.toList_none, List.cons_append, List.nil_append]
      rfl
end PARSE
