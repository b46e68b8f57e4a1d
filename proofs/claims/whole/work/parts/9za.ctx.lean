/-! What the Statement gives of the start. -/
def FL : List Cond := flatC (Jvm.Cond.and given_1 narrow_1)
def exS (own : String) (k : Nat) (bs : List Int) : List Cond := .exactly (.string own k) "java/lang/String" :: .eq (.field (.string own k) "java/lang/String" "coder" "B") (.int 0) :: .arrayOf (.field (.string own k) "java/lang/String" "value" "[B") .byte :: .eq (.length (.field (.string own k) "java/lang/String" "value" "[B")) (.int (Int32.ofNat bs.length)) :: (List.range bs.length).map (fun j => .eq (.elem (.field (.string own k) "java/lang/String" "value" "[B") (.int (Int32.ofNat j))) (.int (zI (bs.getD j 0))))
def exA (n : String) (vs : List Int) : List Cond := .arrayOf (.static "SwallowSurvey" n "[I") .int :: .eq (.length (.static "SwallowSurvey" n "[I")) (.int (Int32.ofNat vs.length)) :: (List.range vs.length).map (fun j => .eq (.elem (.static "SwallowSurvey" n "[I") (.int (Int32.ofNat j))) (.int (zI (vs.getD j 0))))
theorem fl_sub {B N : Nat} {ex : List Cond} (h : (FL.drop B).take N = ex) : ∀ c ∈ ex, c ∈ FL := fun c hc => List.mem_of_mem_drop (List.mem_of_mem_take (by rw [h]; exact hc))
set_option maxRecDepth 100000 in
theorem fl_s0 : (FL.drop 55).take 88 = exS "SwallowSurvey$Reader" 115 (tXl.getD 0 []) := by decide +kernel
set_option maxRecDepth 100000 in
theorem fl_s1 : (FL.drop 258).take 6 = exS "SwallowSurveyModel" 115 (tXl.getD 1 []) := by decide +kernel
set_option maxRecDepth 100000 in
theorem fl_s2 : (FL.drop 274).take 6 = exS "SwallowSurveyModel" 121 (tXl.getD 2 []) := by decide +kernel
set_option maxRecDepth 100000 in
theorem fl_s3 : (FL.drop 291).take 6 = exS "SwallowSurveyModel" 123 (tXl.getD 3 []) := by decide +kernel
set_option maxRecDepth 100000 in
theorem fl_s4 : (FL.drop 309).take 6 = exS "SwallowSurveyModel" 125 (tXl.getD 4 []) := by decide +kernel
set_option maxRecDepth 100000 in
theorem fl_s5 : (FL.drop 328).take 10 = exS "SwallowSurveyModel" 127 (tXl.getD 5 []) := by decide +kernel
set_option maxRecDepth 100000 in
theorem fl_s6 : (FL.drop 352).take 7 = exS "SwallowSurveyModel" 129 (tXl.getD 6 []) := by decide +kernel
set_option maxRecDepth 100000 in
theorem fl_s7 : (FL.drop 374).take 8 = exS "SwallowSurveyModel" 131 (tXl.getD 7 []) := by decide +kernel
set_option maxRecDepth 100000 in
theorem fl_s8 : (FL.drop 398).take 8 = exS "SwallowSurveyModel" 133 (tXl.getD 8 []) := by decide +kernel
set_option maxRecDepth 100000 in
theorem fl_s9 : (FL.drop 423).take 11 = exS "SwallowSurveyModel" 135 (tXl.getD 9 []) := by decide +kernel
set_option maxRecDepth 100000 in
theorem fl_s10 : (FL.drop 143).take 8 = exS "SwallowSurveyModel" 137 (tXl.getD 10 []) := by decide +kernel
set_option maxRecDepth 100000 in
theorem fl_s11 : (FL.drop 152).take 6 = exS "SwallowSurveyModel" 139 (tXl.getD 11 []) := by decide +kernel
set_option maxRecDepth 100000 in
theorem fl_s12 : (FL.drop 160).take 7 = exS "SwallowSurveyModel" 141 (tXl.getD 12 []) := by decide +kernel
set_option maxRecDepth 100000 in
theorem fl_s13 : (FL.drop 170).take 7 = exS "SwallowSurveyModel" 143 (tXl.getD 13 []) := by decide +kernel
set_option maxRecDepth 100000 in
theorem fl_s14 : (FL.drop 181).take 9 = exS "SwallowSurveyModel" 145 (tXl.getD 14 []) := by decide +kernel
set_option maxRecDepth 100000 in
theorem fl_s15 : (FL.drop 195).take 8 = exS "SwallowSurveyModel" 147 (tXl.getD 15 []) := by decide +kernel
set_option maxRecDepth 100000 in
theorem fl_s16 : (FL.drop 209).take 9 = exS "SwallowSurveyModel" 149 (tXl.getD 16 []) := by decide +kernel
set_option maxRecDepth 100000 in
theorem fl_s17 : (FL.drop 225).take 8 = exS "SwallowSurveyModel" 151 (tXl.getD 17 []) := by decide +kernel
set_option maxRecDepth 100000 in
theorem fl_s18 : (FL.drop 241).take 8 = exS "SwallowSurveyModel" 152 (tXl.getD 18 []) := by decide +kernel
set_option maxRecDepth 100000 in
theorem fl_a0 : (FL.drop 28).take 6 = exA "DX" (zSl.getD 0 []) := by decide +kernel
set_option maxRecDepth 100000 in
theorem fl_a1 : (FL.drop 35).take 6 = exA "DY" (zSl.getD 1 []) := by decide +kernel
set_option maxRecDepth 100000 in
theorem fl_a2 : (FL.drop 42).take 6 = exA "LEFT_X" (zSl.getD 2 []) := by decide +kernel
set_option maxRecDepth 100000 in
theorem fl_a3 : (FL.drop 49).take 6 = exA "LEFT_Y" (zSl.getD 3 []) := by decide +kernel
set_option maxRecDepth 100000 in
theorem fl_a4 : (FL.drop 10).take 17 = exA "STRENGTH" (zSl.getD 4 []) := by decide +kernel
theorem fl_S : ∀ i ∈ [0, 1, 2, 3, 4, 5, 6, 7, 8, 9, 10, 11, 12, 13, 14, 15, 16, 17, 18], ∀ c ∈ exS (sm_cs (sm_lsT.getD i (0, 0, 0)).1) (sm_lsT.getD i (0, 0, 0)).2.1 (tXl.getD i []), c ∈ FL := (List.forall_mem_cons.mpr ⟨fl_sub fl_s0, (List.forall_mem_cons.mpr ⟨fl_sub fl_s1, (List.forall_mem_cons.mpr ⟨fl_sub fl_s2, (List.forall_mem_cons.mpr ⟨fl_sub fl_s3, (List.forall_mem_cons.mpr ⟨fl_sub fl_s4, (List.forall_mem_cons.mpr ⟨fl_sub fl_s5, (List.forall_mem_cons.mpr ⟨fl_sub fl_s6, (List.forall_mem_cons.mpr ⟨fl_sub fl_s7, (List.forall_mem_cons.mpr ⟨fl_sub fl_s8, (List.forall_mem_cons.mpr ⟨fl_sub fl_s9, (List.forall_mem_cons.mpr ⟨fl_sub fl_s10, (List.forall_mem_cons.mpr ⟨fl_sub fl_s11, (List.forall_mem_cons.mpr ⟨fl_sub fl_s12, (List.forall_mem_cons.mpr ⟨fl_sub fl_s13, (List.forall_mem_cons.mpr ⟨fl_sub fl_s14, (List.forall_mem_cons.mpr ⟨fl_sub fl_s15, (List.forall_mem_cons.mpr ⟨fl_sub fl_s16, (List.forall_mem_cons.mpr ⟨fl_sub fl_s17, (List.forall_mem_cons.mpr ⟨fl_sub fl_s18, (fun _ h => absurd h List.not_mem_nil)⟩)⟩)⟩)⟩)⟩)⟩)⟩)⟩)⟩)⟩)⟩)⟩)⟩)⟩)⟩)⟩)⟩)⟩)⟩)
theorem fl_A : ∀ i ∈ [0, 1, 2, 3, 4], ∀ c ∈ exA (sm_gsn i).2.1 (zSl.getD i []), c ∈ FL := (List.forall_mem_cons.mpr ⟨fl_sub fl_a0, (List.forall_mem_cons.mpr ⟨fl_sub fl_a1, (List.forall_mem_cons.mpr ⟨fl_sub fl_a2, (List.forall_mem_cons.mpr ⟨fl_sub fl_a3, (List.forall_mem_cons.mpr ⟨fl_sub fl_a4, (fun _ h => absurd h List.not_mem_nil)⟩)⟩)⟩)⟩)⟩)
theorem ls_A : ∀ i ∈ [0, 1, 2, 3, 4], Cond.laysStatic (sm_gsn i).1 (sm_gsn i).2.1 (sm_gsn i).2.2 ∈ lw_tbl := (List.forall_mem_cons.mpr ⟨sm_tb3 205 rfl, (List.forall_mem_cons.mpr ⟨sm_tb3 207 rfl, (List.forall_mem_cons.mpr ⟨sm_tb3 239 rfl, (List.forall_mem_cons.mpr ⟨sm_tb4 1 rfl, (List.forall_mem_cons.mpr ⟨sm_tb3 167 rfl, (fun _ h => absurd h List.not_mem_nil)⟩)⟩)⟩)⟩)⟩)
theorem gs_A : ∀ i ∈ [0, 1, 2, 3, 4], (sm_gsn i).1 = "SwallowSurvey" ∧ (sm_gsn i).2.2 = "[I" := (List.forall_mem_cons.mpr ⟨⟨rfl, rfl⟩, (List.forall_mem_cons.mpr ⟨⟨rfl, rfl⟩, (List.forall_mem_cons.mpr ⟨⟨rfl, rfl⟩, (List.forall_mem_cons.mpr ⟨⟨rfl, rfl⟩, (List.forall_mem_cons.mpr ⟨⟨rfl, rfl⟩, (fun _ h => absurd h List.not_mem_nil)⟩)⟩)⟩)⟩)⟩)
theorem cl_ins : ∀ r ∈ vwCl, Cond.instantiable r.1 r.2.2 ∈ lw_tbl := (List.forall_mem_cons.mpr ⟨sm_tb1 207 rfl, (List.forall_mem_cons.mpr ⟨sm_tb1 29 rfl, (List.forall_mem_cons.mpr ⟨sm_tb1 61 rfl, (List.forall_mem_cons.mpr ⟨sm_tb2 70 rfl, (List.forall_mem_cons.mpr ⟨sm_tb2 86 rfl, (List.forall_mem_cons.mpr ⟨sm_tb1 35 rfl, (List.forall_mem_cons.mpr ⟨sm_tb1 190 rfl, (List.forall_mem_cons.mpr ⟨sm_tb1 184 rfl, (List.forall_mem_cons.mpr ⟨sm_tb2 21 rfl, (List.forall_mem_cons.mpr ⟨sm_tb1 75 rfl, (List.forall_mem_cons.mpr ⟨sm_tb1 21 rfl, (List.forall_mem_cons.mpr ⟨sm_tb5 8 rfl, (fun _ h => absurd h List.not_mem_nil)⟩)⟩)⟩)⟩)⟩)⟩)⟩)⟩)⟩)⟩)⟩)⟩)
theorem fl_4 : Cond.eq (.static "java/lang/String" "COMPACT_STRINGS" "Z") (.int 1) ∈ FL := List.mem_of_getElem? (i := 4) (by decide +kernel)
theorem fl_5 : Cond.isRef (.static "jdk/internal/util/Preconditions" "SIOOBE_FORMATTER" "Ljava/util/function/BiFunction;") ∈ FL := List.mem_of_getElem? (i := 5) (by decide +kernel)
theorem st_one {args : Array Value} {s : State} {A : Nat → Prop} {own : String} {k : Nat} {bs : List Int} (hb : bs.length < 2 ^ 31) (h : ∀ c ∈ exS own k bs, c.before args s = true) (hA : ∀ a : Nat, a < s.heap.size → ¬ A a) : ∃ q : Nat × Nat, (Term.string own k).eval args s none [] s = some (.ref q.1) ∧ va_O "java/lang/String" q.1 A s s.heap ∧ va_OF "java/lang/String" "coder" "B" (.int 0) q.1 A s s.heap ∧ va_OF "java/lang/String" "value" "[B" (.ref q.2) q.1 A s s.heap ∧ va_T .byte q.2 bs.length (fun j => .int (zI (bs.getD j 0))) A s s.heap := by
  have h1 := h _ List.mem_cons_self
  have h2 := h _ (List.mem_cons_of_mem _ List.mem_cons_self)
  have h3 := h _ (List.mem_cons_of_mem _ (List.mem_cons_of_mem _ List.mem_cons_self))
  have h4 := h _ (List.mem_cons_of_mem _ (List.mem_cons_of_mem _ (List.mem_cons_of_mem _ List.mem_cons_self)))
  have h5 : ∀ j, j < bs.length → (Cond.eq (.elem (.field (.string own k) "java/lang/String" "value" "[B") (.int (Int32.ofNat j))) (.int (zI (bs.getD j 0)))).before args s = true := fun j hj => h _ (List.mem_cons_of_mem _ (List.mem_cons_of_mem _ (List.mem_cons_of_mem _ (List.mem_cons_of_mem _ (List.mem_map.mpr ⟨j, List.mem_range.mpr hj, rfl⟩)))))
  obtain ⟨a, c, cA, kA, q1, q2, q3, q4, q5, q6, -⟩ := Cond.exactly_spec (args := args) (first := s) (o := none) (s := s) (idx := []) (t := .string own k) (cls := "java/lang/String") h1
  obtain ⟨t, ht, hT⟩ := va_Tof (f := fun j => .int (zI (bs.getD j 0))) (A := A) hb h3 (va_eqt h4) (fun j hj => va_eqt (h5 j hj)) hA
  exact ⟨(a, t), q1, ⟨cA, q3, q5, by rw [q6]; exact q2, hA a (Array.getElem?_eq_some_iff.mp q3).1⟩, vk_OFof q1 (va_eqt h2) hA, vk_OFof q1 ht hA, hT⟩
theorem sa_one {args : Array Value} {s : State} {A : Nat → Prop} {n : String} {vs : List Int} (hb : vs.length < 2 ^ 31) (h : ∀ c ∈ exA n vs, c.before args s = true) (hA : ∀ a : Nat, a < s.heap.size → ¬ A a) : ∃ t : Nat, (Term.static "SwallowSurvey" n "[I").eval args s none [] s = some (.ref t) ∧ va_T .int t vs.length (fun j => .int (zI (vs.getD j 0))) A s s.heap := by
  have h1 := h _ List.mem_cons_self
  have h2 := h _ (List.mem_cons_of_mem _ List.mem_cons_self)
  have h5 : ∀ j, j < vs.length → (Cond.eq (.elem (.static "SwallowSurvey" n "[I") (.int (Int32.ofNat j))) (.int (zI (vs.getD j 0)))).before args s = true := fun j hj => h _ (List.mem_cons_of_mem _ (List.mem_cons_of_mem _ (List.mem_map.mpr ⟨j, List.mem_range.mpr hj, rfl⟩)))
  exact va_Tof (f := fun j => .int (zI (vs.getD j 0))) (A := A) hb h1 (va_eqt h2) (fun j hj => va_eqt (h5 j hj)) hA
def gZ (xs : Nat → Int32) (a j : Nat) : Int := if a = 4000000 then (xs j).toInt else if 3000000 ≤ a then (tXl.getD (a - 3000000) []).getD j 0 else if 1000000 ≤ a then (zSl.getD (a - 1000000) []).getD j 0 else 0
def gRf (q : Option Nat) (a k : Nat) : Option Nat := if a = 7000000 then q else if 2000000 ≤ a ∧ k = 0 then some (a + 1000000) else none
def gKd (L a : Nat) : Nat × Nat := if a = 4000000 then (102, L) else if 3000000 ≤ a ∧ a < 3000019 then (104, (tXl.getD (a - 3000000) []).length) else if 2000000 ≤ a ∧ a < 2000019 then (103, 2) else if 1000000 ≤ a ∧ a < 1000005 then (102, (zSl.getD (a - 1000000) []).length) else (200, 0)
def gAd (s0 b r : Nat) (sa : Nat → Nat) (st : Nat → Nat × Nat) (a : Nat) : Nat := if a < 1000000 then s0 + a else if a = 7000001 then r else if a = 4000000 then b else if 3000000 ≤ a then (st (a - 3000000)).2 else if 2000000 ≤ a then (st (a - 2000000)).1 else sa (a - 1000000)
theorem gKd_lo {L a : Nat} (h : a < 1000000) : gKd L a = (200, 0) := by
  unfold gKd
  rw [if_neg (by omega), if_neg (by omega), if_neg (by omega), if_neg (by omega)]
theorem gKd_cases (L a : Nat) : (a = 4000000 ∧ gKd L a = (102, L)) ∨ ((3000000 ≤ a ∧ a < 3000019) ∧ gKd L a = (104, (tXl.getD (a - 3000000) []).length)) ∨ ((2000000 ≤ a ∧ a < 2000019) ∧ gKd L a = (103, 2)) ∨ ((1000000 ≤ a ∧ a < 1000005) ∧ gKd L a = (102, (zSl.getD (a - 1000000) []).length)) ∨ gKd L a = (200, 0) := by
  unfold gKd
  by_cases g : a = 4000000
  · rw [if_pos g]; exact Or.inl ⟨g, rfl⟩
  · rw [if_neg g]
    by_cases g1 : 3000000 ≤ a ∧ a < 3000019
    · rw [if_pos g1]; exact Or.inr (Or.inl ⟨g1, rfl⟩)
    · rw [if_neg g1]
      by_cases g2 : 2000000 ≤ a ∧ a < 2000019
      · rw [if_pos g2]; exact Or.inr (Or.inr (Or.inl ⟨g2, rfl⟩))
      · rw [if_neg g2]
        by_cases g3 : 1000000 ≤ a ∧ a < 1000005
        · rw [if_pos g3]; exact Or.inr (Or.inr (Or.inr (Or.inl ⟨g3, rfl⟩)))
        · rw [if_neg g3]; exact Or.inr (Or.inr (Or.inr (Or.inr rfl)))
theorem g_cst (xs : Nat → Int32) (q : Option Nat) (L : Nat) : cst (gZ xs) (gRf q) (gKd L) := by
  refine ⟨fun i hi => ?_, fun i hi => ⟨?_, ?_, ?_⟩, fun i k hi hk => ?_, fun i k hi hk => ?_⟩
  · unfold gKd
    rw [if_neg (by omega), if_neg (by omega), if_neg (by omega), if_pos (by omega), Nat.add_sub_cancel_left]
  · unfold gKd
    rw [if_neg (by omega), if_neg (by omega), if_pos (by omega)]
  · unfold gRf
    rw [if_neg (by omega), if_pos ⟨by omega, rfl⟩]
    congr 1
    omega
  · unfold gKd
    rw [if_neg (by omega), if_pos (by omega), Nat.add_sub_cancel_left]
  · unfold gZ
    rw [if_neg (by omega), if_neg (by omega), if_pos (by omega), Nat.add_sub_cancel_left]
  · unfold gZ
    rw [if_neg (by omega), if_pos (by omega), Nat.add_sub_cancel_left]
theorem tX_small : ∀ i, (tXl.getD i []).length < 2 ^ 31 := by
  intro i
  rcases Nat.lt_or_ge i 19 with h | h
  · exact (show ∀ i, i < 19 → (tXl.getD i []).length < 2 ^ 31 by decide) i h
  · rw [List.getD_eq_getElem?_getD, List.getElem?_eq_none (show tXl.length ≤ i from h)]
    decide
theorem zS_small : ∀ i, (zSl.getD i []).length < 2 ^ 31 := by
  intro i
  rcases Nat.lt_or_ge i 5 with h | h
  · exact (show ∀ i, i < 5 → (zSl.getD i []).length < 2 ^ 31 by decide) i h
  · rw [List.getD_eq_getElem?_getD, List.getElem?_eq_none (show zSl.length ≤ i from h)]
    decide
theorem ls_at {q : Nat × Nat × Nat} (h : q ∈ sm_lsT) : q.2.2 < 19 ∧ sm_lsT.getD q.2.2 (0, 0, 0) = q := (show ∀ q ∈ sm_lsT, q.2.2 < 19 ∧ sm_lsT.getD q.2.2 (0, 0, 0) = q by decide) q h
set_option maxHeartbeats 2000000 in
theorem ctx_start {s : State} {b L : Nat} {xs : Nat → Int32} (c0 : ClassId) (hts : ∀ w ∈ lw_tbl, w.before #[Value.ref b] s = true) (hX : va_X b L xs s s.heap) (hbl : b < s.heap.size) (hgv : (Jvm.Cond.and given_1 narrow_1).before #[Value.ref b] s = true) : ∃ (G : sm_G) (ad : Nat → Nat) (D : va_G) (cI cH : ClassId), sm_ctx G s.heap.size ad D cI cH s ∧ sm_rel G s.heap.size ad D cI cH (G.1, G.2.1, G.2.2, 0, 0) s.heap ∧ cst G.1 G.2.1 G.2.2 ∧ G.2.2 4000000 = (102, L) ∧ (∀ j, aI (G.1 4000000 j)) ∧ ad 4000000 = b := by
  have hFL : ∀ c ∈ FL, c.before #[Value.ref b] s = true := flat_of_before _ hgv
  have hwd : ∀ w ∈ sm_wds, w.before #[Value.ref b] s = true := fun w hw => hts w (List.mem_filter.mp hw).1
  have hA : ∀ a : Nat, a < s.heap.size → ¬ sm_A s.heap.size a := fun a ha h => by unfold sm_A at h; omega
  have hst0 : ∀ i : Nat, ∃ q : Nat × Nat, i < 19 → (Term.string (sm_cs (sm_lsT.getD i (0, 0, 0)).1) (sm_lsT.getD i (0, 0, 0)).2.1).eval #[Value.ref b] s none [] s = some (.ref q.1) ∧ va_O "java/lang/String" q.1 (sm_A s.heap.size) s s.heap ∧ va_OF "java/lang/String" "coder" "B" (.int 0) q.1 (sm_A s.heap.size) s s.heap ∧ va_OF "java/lang/String" "value" "[B" (.ref q.2) q.1 (sm_A s.heap.size) s s.heap ∧ va_T .byte q.2 (tXl.getD i []).length (fun j => .int (zI ((tXl.getD i []).getD j 0))) (sm_A s.heap.size) s s.heap := by
    intro i
    by_cases hi : i < 19
    · obtain ⟨q, hq⟩ := st_one (args := #[Value.ref b]) (s := s) (A := sm_A s.heap.size) (tX_small i) (fun c hc => hFL c (fl_S i (show i ∈ List.range 19 from List.mem_range.mpr hi) c hc)) hA
      exact ⟨q, fun _ => hq⟩
    · exact ⟨(0, 0), fun h => absurd h hi⟩
  obtain ⟨st, hst⟩ := Classical.axiomOfChoice hst0
  have hsa0 : ∀ i : Nat, ∃ t : Nat, i < 5 → (Term.static (sm_gsn i).1 (sm_gsn i).2.1 (sm_gsn i).2.2).eval #[Value.ref b] s none [] s = some (.ref t) ∧ va_T .int t (zSl.getD i []).length (fun j => .int (zI ((zSl.getD i []).getD j 0))) (sm_A s.heap.size) s s.heap := by
    intro i
    by_cases hi : i < 5
    · have hm : i ∈ [0, 1, 2, 3, 4] := show i ∈ List.range 5 from List.mem_range.mpr hi
      obtain ⟨t, ht⟩ := sa_one (args := #[Value.ref b]) (s := s) (A := sm_A s.heap.size) (zS_small i) (fun c hc => hFL c (fl_A i hm c hc)) hA
      refine ⟨t, fun _ => ?_⟩
      rw [(gs_A i hm).1, (gs_A i hm).2]
      exact ht
    · exact ⟨0, fun h => absurd h hi⟩
  obtain ⟨sa, hsa⟩ := Classical.axiomOfChoice hsa0
  have hD0 : ∀ ci : Nat, ∃ q : ClassId × (Nat → Nat), ∀ r : vw_C, vwCl[ci]? = some r → u_Kn s r.1 r.2.1 r.2.2 q.1 q.2 := by
    intro ci
    cases h : vwCl[ci]? with
    | none => exact ⟨(c0, fun _ => 0), fun r hr => by cases hr⟩
    | some r0 =>
      obtain ⟨cC, iS, hk⟩ := u_known (C := r0.1) (T := r0.2.1) (N := r0.2.2) (n := r0.2.2) hwd (sm_cl_ok ci r0 h).2.2.1 (hts _ (cl_ins r0 (List.mem_of_getElem? h)))
      exact ⟨(cC, iS), fun r hr => by cases hr; exact hk⟩
  obtain ⟨dd, hdd⟩ := Classical.axiomOfChoice hD0
  obtain ⟨cI, kI, compI, i1, i2, i3⟩ := Cond.arrayClass_spec (hwd _ sm_w_ai)
  have hAO : va_AO "SwallowSurvey$Habit" s := va_AO.of (hts _ (sm_tb1 60 rfl))
  obtain ⟨compH, cH, kH, h1, h2, h3, h4, h5⟩ := Cond.arrayOver_spec hAO
  have hq : ∃ (q : Option Nat) (r : Nat), va_Z (sm_gsn 11).1 (sm_gsn 11).2.1 (sm_gsn 11).2.2 (match q with | none => Value.null | some _ => .ref r) (sm_A s.heap.size) s s.heap ∧ (q = none ∨ q = some 7000001) := by
    rcases va_Zqof (args := #[Value.ref b]) (A := sm_A s.heap.size) (hts (Cond.laysStatic (sm_gsn 11).1 (sm_gsn 11).2.1 (sm_gsn 11).2.2) (sm_tb3 83 rfl)) (hts (Cond.initialized (sm_gsn 11).1) (sm_tb1 18 rfl)) (hFL _ fl_5) hA with hz | ⟨t, hz⟩
    · exact ⟨none, 0, hz, Or.inl rfl⟩
    · exact ⟨some 7000001, t, hz, Or.inr rfl⟩
  obtain ⟨q, r, hz11, hq⟩ := hq
  refine ⟨(gZ xs, gRf q, gKd L), gAd s.heap.size b r sa st, (fun ci => (dd ci).1, fun ci => (dd ci).2), cI, cH, ?_, ?_, g_cst xs q L, ?_, fun j => ?_, ?_⟩
  · refine ⟨fun ci q hq => hdd ci q hq, ⟨fun n z => ⟨fun k h => (by cases h), kI, i2, compI, i3⟩, i1⟩, ⟨fun n z => ⟨fun k h => (by cases h), kH, h3, compH, h4⟩, ⟨kH, compH, h3, h4, h1, h5⟩⟩, hAO, fun q hq => va_Nw.of rfl (hts _ (sm_mnT_ok q hq).2.1), fun q hq => (sm_gsT_ok q hq).imp id (fun z => va_Nw.of rfl (hts _ z)), fun q hq => ?_, fun i hi => ?_, ?_, ?_, fun a ha => ⟨fun hk => ?_, fun hk => ?_, fun hk => ?_⟩⟩
    · obtain ⟨e1, e2⟩ := ls_at hq
      have g := (hst q.2.2 e1).1
      rw [e2] at g
      refine vk_R.of (A := #[Value.ref b]) (hts _ (sm_lsT_ok q hq)) ?_
      rw [show gAd s.heap.size b r sa st (2000000 + q.2.2) = (st q.2.2).1 by
        unfold gAd
        rw [if_neg (by omega), if_neg (by omega), if_neg (by omega), if_neg (by omega), if_pos (by omega), Nat.add_sub_cancel_left]]
      exact g
    · have hm : i ∈ [0, 1, 2, 3, 4] := show i ∈ List.range 5 from List.mem_range.mpr hi
      rw [show gAd s.heap.size b r sa st (1000000 + i) = sa i by
        unfold gAd
        rw [if_neg (by omega), if_neg (by omega), if_neg (by omega), if_neg (by omega), if_neg (by omega), Nat.add_sub_cancel_left]]
      exact va_Zof (args := #[Value.ref b]) (hts _ (ls_A i hm)) (by rw [(gs_A i hm).1]; exact hts _ (sm_tb1 1 rfl)) (hsa i hi).1 hA
    · exact va_Zof (args := #[Value.ref b]) (hts (Cond.laysStatic (sm_gsn 10).1 (sm_gsn 10).2.1 (sm_gsn 10).2.2) (sm_tb3 67 rfl)) (hts (Cond.initialized (sm_gsn 10).1) (sm_tb1 16 rfl)) (va_eqi (hFL _ fl_4)) hA
    · rcases hq with g | g
      · subst g
        exact hz11
      · subst g
        exact hz11
    · have hk : (gKd L a).1 = 102 := hk
      show va_T .int (gAd s.heap.size b r sa st a) (gKd L a).2 (fun j => .int (zI (gZ xs a j))) _ _ _
      rcases gKd_cases L a with ⟨g, e⟩ | ⟨g, e⟩ | ⟨g, e⟩ | ⟨g, e⟩ | e
      · subst g
        rw [e]
        obtain ⟨scr, x1, x2, x3, x4, x5⟩ := hX
        have e1 : gAd s.heap.size b r sa st 4000000 = b := by
          unfold gAd
          rw [if_neg (by decide), if_neg (by decide), if_pos rfl]
        have e3 : (fun j => Value.int (zI (gZ xs 4000000 j))) = (fun j => Value.int (xs j)) := by
          funext j
          unfold gZ
          rw [if_pos rfl, zI_of]
        rw [e1, e3]
        exact ⟨scr, x1, x2, x3, Nat.le_of_eq x4.symm, by rw [x4], x5, hA b hbl⟩
      · rw [e] at hk
        exact absurd hk (show ¬ (104 : Nat) = 102 by decide)
      · rw [e] at hk
        exact absurd hk (show ¬ (103 : Nat) = 102 by decide)
      · obtain ⟨i, hi⟩ : ∃ i, a = 1000000 + i := ⟨a - 1000000, by omega⟩
        subst hi
        have e1 : gAd s.heap.size b r sa st (1000000 + i) = sa i := by
          unfold gAd
          rw [if_neg (by omega), if_neg (by omega), if_neg (by omega), if_neg (by omega), if_neg (by omega), Nat.add_sub_cancel_left]
        have e3 : (fun j => Value.int (zI (gZ xs (1000000 + i) j))) = (fun j => Value.int (zI ((zSl.getD i []).getD j 0))) := by
          funext j
          unfold gZ
          rw [if_neg (by omega), if_neg (by omega), if_pos (by omega), Nat.add_sub_cancel_left]
        rw [Nat.add_sub_cancel_left] at e
        rw [e1, e, e3]
        exact (hsa i (by omega)).2
      · rw [e] at hk
        exact absurd hk (show ¬ (200 : Nat) = 102 by decide)
    · have hk : (gKd L a).1 = 104 := hk
      show va_T .byte (gAd s.heap.size b r sa st a) (gKd L a).2 (fun j => .int (zI (gZ xs a j))) _ _ _
      rcases gKd_cases L a with ⟨g, e⟩ | ⟨g, e⟩ | ⟨g, e⟩ | ⟨g, e⟩ | e
      · rw [e] at hk
        exact absurd hk (show ¬ (102 : Nat) = 104 by decide)
      · obtain ⟨i, hi⟩ : ∃ i, a = 3000000 + i := ⟨a - 3000000, by omega⟩
        subst hi
        have e1 : gAd s.heap.size b r sa st (3000000 + i) = (st i).2 := by
          unfold gAd
          rw [if_neg (by omega), if_neg (by omega), if_neg (by omega), if_pos (by omega), Nat.add_sub_cancel_left]
        have e3 : (fun j => Value.int (zI (gZ xs (3000000 + i) j))) = (fun j => Value.int (zI ((tXl.getD i []).getD j 0))) := by
          funext j
          unfold gZ
          rw [if_neg (by omega), if_pos (by omega), Nat.add_sub_cancel_left]
        rw [Nat.add_sub_cancel_left] at e
        rw [e1, e, e3]
        exact (hst i (by omega)).2.2.2.2
      · rw [e] at hk
        exact absurd hk (show ¬ (103 : Nat) = 104 by decide)
      · rw [e] at hk
        exact absurd hk (show ¬ (102 : Nat) = 104 by decide)
      · rw [e] at hk
        exact absurd hk (show ¬ (200 : Nat) = 104 by decide)
    · have hk : (gKd L a).1 = 103 := hk
      show va_O "java/lang/String" (gAd s.heap.size b r sa st a) _ _ _ ∧ va_OF "java/lang/String" "coder" "B" (.int 0) (gAd s.heap.size b r sa st a) _ _ _ ∧ va_OF "java/lang/String" "value" "[B" (sm_tr (gAd s.heap.size b r sa st) (.inr (gRf q a 0))) (gAd s.heap.size b r sa st a) _ _ _
      rcases gKd_cases L a with ⟨g, e⟩ | ⟨g, e⟩ | ⟨g, e⟩ | ⟨g, e⟩ | e
      · rw [e] at hk
        exact absurd hk (show ¬ (102 : Nat) = 103 by decide)
      · rw [e] at hk
        exact absurd hk (show ¬ (104 : Nat) = 103 by decide)
      · obtain ⟨i, hi⟩ : ∃ i, a = 2000000 + i := ⟨a - 2000000, by omega⟩
        subst hi
        have g2 := (hst i (by omega)).2
        have e1 : gAd s.heap.size b r sa st (2000000 + i) = (st i).1 := by
          unfold gAd
          rw [if_neg (by omega), if_neg (by omega), if_neg (by omega), if_neg (by omega), if_pos (by omega), Nat.add_sub_cancel_left]
        have e2 : gRf q (2000000 + i) 0 = some (3000000 + i) := by
          unfold gRf
          rw [if_neg (by omega), if_pos ⟨by omega, rfl⟩]
          congr 1
          omega
        have e3 : gAd s.heap.size b r sa st (3000000 + i) = (st i).2 := by
          unfold gAd
          rw [if_neg (by omega), if_neg (by omega), if_neg (by omega), if_pos (by omega), Nat.add_sub_cancel_left]
        rw [e1, e2]
        refine ⟨g2.1, g2.2.1, ?_⟩
        show va_OF "java/lang/String" "value" "[B" (.ref (gAd s.heap.size b r sa st (3000000 + i))) _ _ _ _
        rw [e3]
        exact g2.2.2.1
      · rw [e] at hk
        exact absurd hk (show ¬ (102 : Nat) = 103 by decide)
      · rw [e] at hk
        exact absurd hk (show ¬ (200 : Nat) = 103 by decide)
  · refine ⟨by show s.heap.size = s.heap.size + 0; rfl, by show 0 ≤ 1000000; omega, fun a ha => ?_, fun a ha => ⟨rfl, rfl, rfl, ?_⟩, fun a ha => ?_⟩
    · show gAd s.heap.size b r sa st a = _
      unfold gAd
      rw [if_pos ha]
    · show 102 ≤ (gKd L a).1
      rcases gKd_cases L a with ⟨g, e⟩ | ⟨g, e⟩ | ⟨g, e⟩ | ⟨g, e⟩ | e
      · rw [e]; exact (show 102 ≤ 102 by decide)
      · rw [e]; exact (show 102 ≤ 104 by decide)
      · rw [e]; exact (show 102 ≤ 103 by decide)
      · rw [e]; exact (show 102 ≤ 102 by decide)
      · rw [e]; exact (show 102 ≤ 200 by decide)
    · have e : gKd L a = (200, 0) := gKd_lo ha
      refine ⟨⟨fun h => ?_, fun h => ?_, fun h => ?_⟩, ?_, ?_, ?_⟩
      · have h : (gKd L a).1 < 12 := h
        rw [e] at h
        exact absurd h (by decide)
      · have h : (gKd L a).1 = 100 := h
        rw [e] at h
        exact absurd h (by decide)
      · have h : (gKd L a).1 = 101 := h
        rw [e] at h
        exact absurd h (by decide)
      · show (gKd L a).1 ≠ 102
        rw [e]
        decide
      · show (gKd L a).1 ≠ 103
        rw [e]
        decide
      · show (gKd L a).1 ≠ 104
        rw [e]
        decide
  · show gKd L 4000000 = (102, L)
    unfold gKd
    rw [if_pos rfl]
  · show aI (gZ xs 4000000 j)
    unfold gZ
    rw [if_pos rfl]
    have q1 := Int32.le_toInt (xs j)
    have q2 := Int32.toInt_lt (xs j)
    unfold aI
    omega
  · show gAd s.heap.size b r sa st 4000000 = b
    unfold gAd
    rw [if_neg (by decide), if_neg (by decide), if_pos rfl]
