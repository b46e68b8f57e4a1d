/-! The class's constructor. -/
def gK (N : Nat) (K : Nat → Nat × Nat) : Prop := ∀ a, a < N → K a = kF a
def oK (N : Nat) (K K0 : Nat → Nat × Nat) : Prop := ∀ a, N ≤ a → K a = K0 a
def oZ {α : Type} (N : Nat) (f g : Nat → Nat → α) : Prop := ∀ a, N ≤ a → f a = g a
def gR (l : List (Nat × Nat × Nat)) (Rf : Nat → Nat → Option Nat) : Prop := ∀ p ∈ l, Rf p.1 p.2.1 = some p.2.2
theorem gK_k {N n : Nat} {K : Nat → Nat × Nat} {v : Nat × Nat} (h : gK N K) (hn : n = N) (hv : v = kF N) : gK (N + 1) (sm_k K n v) := by
  intro a ha
  subst hn
  show (if a = n then v else K a) = kF a
  by_cases g : a = n
  · rw [if_pos g, g]; exact hv
  · rw [if_neg g]; exact h a (by omega)
theorem gK_z {K : Nat → Nat × Nat} : gK 0 K := fun a ha => absurd ha (by omega)
theorem oK_k {N n : Nat} {K K0 : Nat → Nat × Nat} {v : Nat × Nat} (h : oK N K K0) (hn : n < N) : oK N (sm_k K n v) K0 := by
  intro a ha
  show (if a = n then v else K a) = K0 a
  rw [if_neg (by omega)]
  exact h a ha
theorem oK_z {N : Nat} {K : Nat → Nat × Nat} : oK N K K := fun _ _ => rfl
theorem oZ_r {α : Type} {N n : Nat} {f g : Nat → Nat → α} {v : Nat → α} (h : oZ N f g) (hn : n < N) : oZ N (sm_r f n v) g := by
  intro a ha
  rw [sm_rw_ne (by omega)]
  exact h a ha
theorem oZ_u {α : Type} {N n i : Nat} {f g : Nat → Nat → α} {v : α} (h : oZ N f g) (hn : n < N) : oZ N (sm_u f n i v) g := by
  intro a ha
  rw [sm_u_row (by omega)]
  exact h a ha
theorem oZ_z {α : Type} {N : Nat} {f : Nat → Nat → α} : oZ N f f := fun _ _ => rfl
theorem gR_set {l : List (Nat × Nat × Nat)} {Rf : Nat → Nat → Option Nat} {a k v : Nat} (h : gR l Rf) (hl : l.all (fun p => !(p.1 == a && p.2.1 == k)) = true) : gR ((a, k, v) :: l) (sm_u Rf a k (some v)) := by
  intro p hp
  rcases List.mem_cons.mp hp with g | g
  · rw [g]
    exact sm_u_self
  · have := List.all_eq_true.mp hl p g
    have hne : ¬ (p.1 = a ∧ p.2.1 = k) := by
      intro q
      rw [q.1, q.2] at this
      simp at this
    show (if p.1 = a ∧ p.2.1 = k then some v else Rf p.1 p.2.1) = _
    rw [if_neg hne]
    exact h p g
theorem gR_new {l : List (Nat × Nat × Nat)} {Rf : Nat → Nat → Option Nat} {n : Nat} {v : Nat → Option Nat} (h : gR l Rf) (hl : l.all (fun p => !(p.1 == n)) = true) : gR l (sm_r Rf n v) := by
  intro p hp
  have := List.all_eq_true.mp hl p hp
  have hne : p.1 ≠ n := by
    intro q
    rw [q] at this
    simp at this
  rw [sm_rw_ne hne]
  exact h p hp
theorem gR_z {Rf : Nat → Nat → Option Nat} : gR [] Rf := fun p hp => absurd hp List.not_mem_nil
def rN (N : Nat) (Rf : Nat → Nat → Option Nat) : Prop := ∀ a k, a < N → a ≠ 18 → a ≠ 43 → k < 37 → (kF a).1 < 12 → sm_ft (kF a).1 k = 1 → Rf a k = rF a k
theorem rN_of {N : Nat} {l : List (Nat × Nat × Nat)} {Rf : Nat → Nat → Option Nat} (h : gR l Rf) (hl : (List.range N).all (fun a => (List.range 37).all (fun k => decide (a = 18) || decide (a = 43) || !(decide ((kF a).1 < 12) && decide (sm_ft (kF a).1 k = 1)) || l.any (fun p => decide (p.1 = a) && decide (p.2.1 = k) && decide (rF a k = some p.2.2)))) = true) : rN N Rf := by
  intro a k ha h1 h2 hk h3 h4
  have g := List.all_eq_true.mp (List.all_eq_true.mp hl a (List.mem_range.mpr ha)) k (List.mem_range.mpr hk)
  simp only [h1, h2, h3, h4, decide_true, decide_false, Bool.and_self, Bool.not_true, Bool.or_false, Bool.false_or] at g
  obtain ⟨p, hp, hq⟩ := List.any_eq_true.mp g
  simp only [Bool.and_eq_true, decide_eq_true_eq] at hq
  rw [hq.2, ← hq.1.1, ← hq.1.2]
  exact h p hp
section CTOR
variable {d n z : Nat} {Rf : Nat → Nat → Option Nat} {K : Nat → Nat × Nat} {Z : Nat → Nat → Int} {Q : Option sm_V → sm_S → Prop}
theorem g51 {r m : Nat} {x : Int} (h0 : ¬ wr x < (0 : Int)) (hx : wr (x * 5) = (m : Int)) (hm : m ≤ 65536) (hK : (K r).1 = 5) (hr : r ≠ n) (hn : n < 1000000) : sm_call d 51 [.inr (some r), .inl x] (Z, Rf, K, n, z) Q = Q none (sm_r (sm_u Z r 0 x) n (fun _ => 0), sm_u (sm_r Rf n (fun _ => none)) r 1 (some n), sm_k K n (100, m), n + 1, z + m) := by
  rw [ce51, b51_0, if_neg h0, sm_u_self, hx, Int.toNat_natCast, sm_k_ne hr]
  refine propext ⟨fun h => h.2.2.2.2, fun h => ⟨hK, hK, ⟨hn, by omega, by omega⟩, hK, h⟩⟩
def sh9 (Rf : Nat → Nat → Option Nat) (K : Nat → Nat × Nat) : Prop := gK 79 K ∧ rN 79 Rf
theorem sh9_u (H : sh9 Rf K) {k : Nat} {v : Option Nat} : sh9 (sm_u Rf 18 k v) K := ⟨H.1, fun a j ha h1 h2 hk h3 h4 => by rw [sm_u_row h1]; exact H.2 a j ha h1 h2 hk h3 h4⟩
set_option maxHeartbeats 4000000 in
theorem c_startAnew0 {w h : Int} (H : sh9 Rf K) : sm_call (d + 2) 6 [.inr (some 1), .inl w, .inl h] (Z, Rf, K, n, z) Q = Q none (c_new Z w h, hbE Rf, K, n, z) := by
  have H4 : sh9 (sm_u (sm_u (sm_u (sm_u Rf 18 0 (some 19)) 18 1 (some 19)) 18 2 (some 19)) 18 3 (some 19)) K := sh9_u (sh9_u (sh9_u (sh9_u H)))
  rw [ce6]
  repeat' first | (simp (disch := first | omega | assumption) only [wr_id, wr_b2i, wr_wr, b2i_eq0, b2i_eq1, b2i_01, sm_rem_eq, sm_div_eq, wl_m2, wl_m1, wl_0, wl_1, wl_2, wl_3, wl_4, wl_5, wl_6, wl_7, wl_8, wl_9, wl_10, wl_12, wl_13, wl_14, wl_16, wl_20, wl_21, wl_22, wl_23, wl_32, wl_36, wl_40, wl_41, wl_42, wl_43, wl_44, wl_45, wl_46, wl_47, wl_48, wl_57, wl_59, wl_60, wl_61, wl_62, wl_65, wl_90, wl_97, wl_99, wl_100, wl_121, wl_122, wl_140, wl_142, wl_143, wl_145, wl_147, wl_160, wl_161, wl_162, wl_242, wl_380, wl_400, wl_420, wl_820, wl_1340, wl_5480, wl_9999, true_and, and_true, true_or, or_true, if_true, if_false, and_self, or_self, false_and, and_false, false_or, or_false, not_true_eq_false, not_false_eq_true, Int.reduceEq, Int.reduceLT, Int.reduceLE, Int.reduceToNat, Int.reduceAdd, Int.reduceMul, Int.reduceSub, Int.reduceMod, Int.reduceDiv, Int.reduceNeg, Nat.reduceEqDiff, sm_rd_ok, sm_rd_ok2, sm_wt_ok, sm_cp_ok, Option.isSome_some, Option.getD_some, w_cont, Option.toList_some, Option.toList_none, List.cons_append, List.nil_append, nc4, (show K 1 = (1, 19) from H.1 1 (by decide)), (show K 10 = (5, 3) from H.1 10 (by decide)), (show K 12 = (5, 3) from H.1 12 (by decide)), (show K 14 = (5, 3) from H.1 14 (by decide)), (show K 16 = (5, 3) from H.1 16 (by decide)), (show K 18 = (101, 4) from H.1 18 (by decide)), (show K 19 = (2, 2) from H.1 19 (by decide)), (show K 21 = (9, 3) from H.1 21 (by decide)), (show Rf 1 4 = some 2 from H.2 1 4 (by decide) (by decide) (by decide) (by decide) (by decide) (by decide)), (show Rf 1 5 = some 3 from H.2 1 5 (by decide) (by decide) (by decide) (by decide) (by decide) (by decide)), (show Rf 1 6 = some 4 from H.2 1 6 (by decide) (by decide) (by decide) (by decide) (by decide) (by decide)), (show Rf 1 7 = some 5 from H.2 1 7 (by decide) (by decide) (by decide) (by decide) (by decide) (by decide)), (show Rf 1 8 = some 6 from H.2 1 8 (by decide) (by decide) (by decide) (by decide) (by decide) (by decide)), (show Rf 1 9 = some 7 from H.2 1 9 (by decide) (by decide) (by decide) (by decide) (by decide) (by decide)), (show Rf 1 10 = some 8 from H.2 1 10 (by decide) (by decide) (by decide) (by decide) (by decide) (by decide)), (show Rf 1 11 = some 9 from H.2 1 11 (by decide) (by decide) (by decide) (by decide) (by decide) (by decide)), (show Rf 1 12 = some 10 from H.2 1 12 (by decide) (by decide) (by decide) (by decide) (by decide) (by decide)), (show Rf 1 13 = some 12 from H.2 1 13 (by decide) (by decide) (by decide) (by decide) (by decide) (by decide)), (show Rf 1 14 = some 14 from H.2 1 14 (by decide) (by decide) (by decide) (by decide) (by decide) (by decide)), (show Rf 1 15 = some 16 from H.2 1 15 (by decide) (by decide) (by decide) (by decide) (by decide) (by decide)), (show Rf 1 16 = some 18 from H.2 1 16 (by decide) (by decide) (by decide) (by decide) (by decide) (by decide)), (show Rf 1 17 = some 19 from H.2 1 17 (by decide) (by decide) (by decide) (by decide) (by decide) (by decide)), (show Rf 1 18 = some 21 from H.2 1 18 (by decide) (by decide) (by decide) (by decide) (by decide) (by decide)), sm_u_ne (show (1 : Nat) ≠ 18 by decide), c_fill (r := 2) (show K 2 = (100, 100) from H.1 2 (by decide)) (by decide), c_fill (r := 3) (show K 3 = (100, 100) from H.1 3 (by decide)) (by decide), c_fill (r := 4) (show K 4 = (100, 100) from H.1 4 (by decide)) (by decide), c_fill (r := 5) (show K 5 = (100, 100) from H.1 5 (by decide)) (by decide), c_fill (r := 6) (show K 6 = (100, 100) from H.1 6 (by decide)) (by decide), c_fill (r := 7) (show K 7 = (100, 100) from H.1 7 (by decide)) (by decide), c_fill (r := 8) (show K 8 = (100, 100) from H.1 8 (by decide)) (by decide), c_fill (r := 9) (show K 9 = (100, 121) from H.1 9 (by decide)) (by decide), c_clear (r := 21) (show K 21 = (9, 3) from H.1 21 (by decide)) (show (sm_u (sm_u (sm_u (sm_u Rf 18 0 (some 19)) 18 1 (some 19)) 18 2 (some 19)) 18 3 (some 19)) 21 0 = some 22 from H4.2 21 0 (by decide) (by decide) (by decide) (by decide) (by decide) (by decide)) (show (sm_u (sm_u (sm_u (sm_u Rf 18 0 (some 19)) 18 1 (some 19)) 18 2 (some 19)) 18 3 (some 19)) 21 1 = some 23 from H4.2 21 1 (by decide) (by decide) (by decide) (by decide) (by decide) (by decide)) (show (sm_u (sm_u (sm_u (sm_u Rf 18 0 (some 19)) 18 1 (some 19)) 18 2 (some 19)) 18 3 (some 19)) 21 2 = some 24 from H4.2 21 2 (by decide) (by decide) (by decide) (by decide) (by decide) (by decide)) (show K 22 = (100, 242) from H.1 22 (by decide)) (show K 23 = (100, 242) from H.1 23 (by decide)) (show K 24 = (5, 3) from H.1 24 (by decide))]) | split | rw [b6_0] | rw [b6_23] | rw [b6_31] | rw [b6_39] | rw [b6_47] | rw [b6_55] | rw [b6_63] | rw [b6_71] | rw [b6_79] | rw [b6_113] | rw [b6_118] | rw [b6_134] | rw [b6_141]
  rfl
def g82F (Z0 : Nat → Nat → Int) (Rf0 : Nat → Nat → Option Nat) (K0 : Nat → Nat × Nat) (Z : Nat → Nat → Int) (Rf : Nat → Nat → Option Nat) (K : Nat → Nat × Nat) : Prop := gK 79 K ∧ oK 79 K K0 ∧ rN 79 Rf ∧ oZ 79 Rf Rf0 ∧ (∀ k, Rf 43 k = none) ∧ oZ 79 Z Z0 ∧ stI Z ∧ (Z 0 2 = 0 ∧ Z 0 8 = 0 ∧ Z 0 9 = 0 ∧ Z 0 10 = -1 ∧ Z 0 12 = 0) ∧ (Z 19 0 = 0 ∧ Z 1 2 = 0) ∧ ∀ j, Z 77 j = 0
set_option maxHeartbeats 40000000 in
set_option maxRecDepth 100000 in
theorem g82 (Z0 : Nat → Nat → Int) (Rf0 : Nat → Nat → Option Nat) (K0 : Nat → Nat × Nat) : ∃ Z1 Rf1 K1 z1, g82F Z0 Rf0 K0 Z1 Rf1 K1 ∧ z1 ≤ 20000 ∧ ∀ Q, sm_call (d + 3) 6 [.inr (some 1), .inl 6, .inl 6] (Z1, Rf1, K1, 79, z1) (sm_cont (d + 4) 82 103 [some (.inr (some 0))] [] Q) → sm_call (d + 4) 82 [.inr (some 0)] (sm_r Z0 0 (fun _ => 0), sm_r Rf0 0 (fun _ => none), sm_k K0 0 (10, 13), 1, 13) Q := by
  refine ⟨?Z, ?R, ?K, ?z, ?f, ?b, fun Q hQ => ?w⟩
  case w =>
    rw [ce82]
    rw [b82_0]
    try simp only [Nat.reduceAdd]
    repeat (refine And.intro ?_ ?_; · first | exact rfl | decide)
    rw [ce5]
    rw [b5_0]
    try simp only [Nat.reduceAdd]
    repeat (refine And.intro ?_ ?_; · first | exact rfl | decide)
    rw [g51 (m := 30) (by decide) (by decide) (by decide) rfl (by decide) (by decide)]
    try simp only [Nat.reduceAdd]
    simp only [w_cont, Option.toList_none, List.nil_append]
    rw [b5_78]
    try simp only [Nat.reduceAdd]
    repeat (refine And.intro ?_ ?_; · first | exact rfl | decide)
    rw [g51 (m := 40) (by decide) (by decide) (by decide) rfl (by decide) (by decide)]
    try simp only [Nat.reduceAdd]
    simp only [w_cont, Option.toList_none, List.nil_append]
    rw [b5_91]
    try simp only [Nat.reduceAdd]
    repeat (refine And.intro ?_ ?_; · first | exact rfl | decide)
    rw [g51 (m := 30) (by decide) (by decide) (by decide) rfl (by decide) (by decide)]
    try simp only [Nat.reduceAdd]
    simp only [w_cont, Option.toList_none, List.nil_append]
    rw [b5_104]
    try simp only [Nat.reduceAdd]
    repeat (refine And.intro ?_ ?_; · first | exact rfl | decide)
    rw [g51 (m := 100) (by decide) (by decide) (by decide) rfl (by decide) (by decide)]
    try simp only [Nat.reduceAdd]
    simp only [w_cont, Option.toList_none, List.nil_append]
    rw [b5_117]
    try simp only [Nat.reduceAdd]
    repeat (refine And.intro ?_ ?_; · first | exact rfl | decide)
    rw [ce21]
    rw [b21_0]
    try simp only [Nat.reduceAdd]
    repeat (refine And.intro ?_ ?_; · first | exact rfl | decide)
    simp only [w_cont, Option.toList_none, List.nil_append]
    rw [b5_140]
    try simp only [Nat.reduceAdd]
    repeat (refine And.intro ?_ ?_; · first | exact rfl | decide)
    rw [ce75]
    rw [b75_0]
    try simp only [Nat.reduceAdd]
    repeat (refine And.intro ?_ ?_; · first | exact rfl | decide)
    rw [g51 (m := 495) (by decide) (by decide) (by decide) rfl (by decide) (by decide)]
    try simp only [Nat.reduceAdd]
    simp only [w_cont, Option.toList_none, List.nil_append]
    rw [b75_31]
    try simp only [Nat.reduceAdd]
    repeat (refine And.intro ?_ ?_; · first | exact rfl | decide)
    simp only [w_cont, Option.toList_none, List.nil_append]
    rw [b5_153]
    try simp only [Nat.reduceAdd]
    repeat (refine And.intro ?_ ?_; · first | exact rfl | decide)
    simp only [w_cont, Option.toList_none, List.nil_append]
    rw [b82_12]
    try simp only [Nat.reduceAdd]
    repeat (refine And.intro ?_ ?_; · first | exact rfl | decide)
    rw [ce5]
    rw [b5_0]
    try simp only [Nat.reduceAdd]
    repeat (refine And.intro ?_ ?_; · first | exact rfl | decide)
    rw [g51 (m := 30) (by decide) (by decide) (by decide) rfl (by decide) (by decide)]
    try simp only [Nat.reduceAdd]
    simp only [w_cont, Option.toList_none, List.nil_append]
    rw [b5_78]
    try simp only [Nat.reduceAdd]
    repeat (refine And.intro ?_ ?_; · first | exact rfl | decide)
    rw [g51 (m := 40) (by decide) (by decide) (by decide) rfl (by decide) (by decide)]
    try simp only [Nat.reduceAdd]
    simp only [w_cont, Option.toList_none, List.nil_append]
    rw [b5_91]
    try simp only [Nat.reduceAdd]
    repeat (refine And.intro ?_ ?_; · first | exact rfl | decide)
    rw [g51 (m := 30) (by decide) (by decide) (by decide) rfl (by decide) (by decide)]
    try simp only [Nat.reduceAdd]
    simp only [w_cont, Option.toList_none, List.nil_append]
    rw [b5_104]
    try simp only [Nat.reduceAdd]
    repeat (refine And.intro ?_ ?_; · first | exact rfl | decide)
    rw [g51 (m := 100) (by decide) (by decide) (by decide) rfl (by decide) (by decide)]
    try simp only [Nat.reduceAdd]
    simp only [w_cont, Option.toList_none, List.nil_append]
    rw [b5_117]
    try simp only [Nat.reduceAdd]
    repeat (refine And.intro ?_ ?_; · first | exact rfl | decide)
    rw [ce21]
    rw [b21_0]
    try simp only [Nat.reduceAdd]
    repeat (refine And.intro ?_ ?_; · first | exact rfl | decide)
    simp only [w_cont, Option.toList_none, List.nil_append]
    rw [b5_140]
    try simp only [Nat.reduceAdd]
    repeat (refine And.intro ?_ ?_; · first | exact rfl | decide)
    rw [ce75]
    rw [b75_0]
    try simp only [Nat.reduceAdd]
    repeat (refine And.intro ?_ ?_; · first | exact rfl | decide)
    rw [g51 (m := 495) (by decide) (by decide) (by decide) rfl (by decide) (by decide)]
    try simp only [Nat.reduceAdd]
    simp only [w_cont, Option.toList_none, List.nil_append]
    rw [b75_31]
    try simp only [Nat.reduceAdd]
    repeat (refine And.intro ?_ ?_; · first | exact rfl | decide)
    simp only [w_cont, Option.toList_none, List.nil_append]
    rw [b5_153]
    try simp only [Nat.reduceAdd]
    repeat (refine And.intro ?_ ?_; · first | exact rfl | decide)
    simp only [w_cont, Option.toList_none, List.nil_append]
    rw [b82_23]
    try simp only [Nat.reduceAdd]
    repeat (refine And.intro ?_ ?_; · first | exact rfl | decide)
    rw [ce59]
    rw [b59_0]
    try simp only [Nat.reduceAdd]
    repeat (refine And.intro ?_ ?_; · first | exact rfl | decide)
    rw [ce56]
    rw [b56_0]
    try simp only [Nat.reduceAdd]
    repeat (refine And.intro ?_ ?_; · first | exact rfl | decide)
    simp only [w_cont, Option.toList_none, List.nil_append]
    rw [b59_12]
    try simp only [Nat.reduceAdd]
    repeat (refine And.intro ?_ ?_; · first | exact rfl | decide)
    rw [ce0]
    rw [b0_0]
    try simp only [Nat.reduceAdd]
    repeat (refine And.intro ?_ ?_; · first | exact rfl | decide)
    simp only [w_cont, Option.toList_none, List.nil_append]
    rw [b59_23]
    try simp only [Nat.reduceAdd]
    repeat (refine And.intro ?_ ?_; · first | exact rfl | decide)
    rw [g51 (m := 40) (by decide) (by decide) (by decide) rfl (by decide) (by decide)]
    try simp only [Nat.reduceAdd]
    simp only [w_cont, Option.toList_none, List.nil_append]
    rw [b59_36]
    try simp only [Nat.reduceAdd]
    repeat (refine And.intro ?_ ?_; · first | exact rfl | decide)
    simp only [w_cont, Option.toList_none, List.nil_append]
    rw [b82_34]
    try simp only [Nat.reduceAdd]
    repeat (refine And.intro ?_ ?_; · first | exact rfl | decide)
    rw [ce64]
    rw [b64_0]
    try simp only [Nat.reduceAdd]
    repeat (refine And.intro ?_ ?_; · first | exact rfl | decide)
    rw [ce75]
    rw [b75_0]
    try simp only [Nat.reduceAdd]
    repeat (refine And.intro ?_ ?_; · first | exact rfl | decide)
    rw [g51 (m := 0) (by decide) (by decide) (by decide) rfl (by decide) (by decide)]
    try simp only [Nat.reduceAdd]
    simp only [w_cont, Option.toList_none, List.nil_append]
    rw [b75_31]
    try simp only [Nat.reduceAdd]
    repeat (refine And.intro ?_ ?_; · first | exact rfl | decide)
    simp only [w_cont, Option.toList_none, List.nil_append]
    rw [b64_13]
    try simp only [Nat.reduceAdd]
    repeat (refine And.intro ?_ ?_; · first | exact rfl | decide)
    simp only [w_cont, Option.toList_none, List.nil_append]
    rw [b82_45]
    try simp only [Nat.reduceAdd]
    repeat (refine And.intro ?_ ?_; · first | exact rfl | decide)
    rw [ce24]
    rw [b24_0]
    try simp only [Nat.reduceAdd]
    repeat (refine And.intro ?_ ?_; · first | exact rfl | decide)
    simp only [w_cont, Option.toList_none, List.nil_append]
    rw [b82_56]
    try simp only [Nat.reduceAdd]
    repeat (refine And.intro ?_ ?_; · first | exact rfl | decide)
    rw [ce29]
    rw [b29_0]
    try simp only [Nat.reduceAdd]
    repeat (refine And.intro ?_ ?_; · first | exact rfl | decide)
    simp only [w_cont, Option.toList_none, List.nil_append]
    rw [b82_67]
    try simp only [Nat.reduceAdd]
    repeat (refine And.intro ?_ ?_; · first | exact rfl | decide)
    exact hQ
  case b => decide
  case f =>
    refine ⟨?_, ?_, ?_, ?_, fun k => rfl, ?_, ⟨rfl, rfl, rfl, rfl, rfl, rfl, rfl, rfl⟩, ⟨rfl, rfl, rfl, rfl, rfl⟩, ⟨rfl, rfl⟩, fun j => rfl⟩
    · repeat refine gK_k ?_ rfl rfl
      exact gK_z
    · repeat refine oK_k ?_ (by decide)
      exact oK_z
    · apply rN_of
      case h =>
        repeat first | apply gR_set | apply gR_new
        exact gR_z
        all_goals decide +kernel
      case hl => decide +kernel
    · repeat first | refine oZ_u ?_ (by decide) | refine oZ_r ?_ (by decide)
      exact oZ_z
    · repeat first | refine oZ_u ?_ (by decide) | refine oZ_r ?_ (by decide)
      exact oZ_z
end CTOR
