/-! How a state of the small machine lies in the heap. -/
abbrev sm_G : Type := (Nat → Nat → Int) × (Nat → Nat → Option Nat) × (Nat → Nat × Nat)
def sm_tr (ad : Nat → Nat) (v : sm_V) : Value := match v with
  | .inl x => .int (zI x)
  | .inr none => .null
  | .inr (some k) => .ref (ad k)
def sm_A (s0 : Nat) : Nat → Prop := fun q => s0 ≤ q
theorem sm_cat (ad : Nat → Nat) (v : sm_V) : (sm_tr ad v).category = 1 := by
  rcases v with x | (_ | k) <;> rfl
theorem sm_cats (ad : Nat → Nat) (st : List sm_V) : ((st.map (sm_tr ad)).map fun v => v.category).sum = st.length := by
  induction st with
  | nil => rfl
  | cons a l ih => simp only [List.map_cons, List.sum_cons, List.length_cons, ih, sm_cat]; omega
def sm_lv (ad : Nat → Nat) (L : sm_L) : List (Nat × Value) := (List.range L.length).filterMap (fun i => (sm_lk i L).map (fun v => (i, sm_tr ad v)))
def sm_lh (ad : Nat → Nat) (ls : Array Slot) (nL : Nat) (L : sm_L) : Prop := L.length = nL ∧ lv_has ls nL (sm_lv ad L)
theorem sm_lk_lt {k : Nat} {L : sm_L} {v : sm_V} (h : sm_lk k L = some v) : k < L.length := by
  unfold sm_lk at h
  by_cases hk : k < L.length
  · exact hk
  · rw [List.getElem?_eq_none (by omega)] at h
    cases h
theorem sm_lv_mem {ad : Nat → Nat} {L : sm_L} {q : Nat × Value} : q ∈ sm_lv ad L ↔ ∃ v, sm_lk q.1 L = some v ∧ q.2 = sm_tr ad v := by
  unfold sm_lv
  rw [List.mem_filterMap]
  constructor
  · rintro ⟨i, -, h2⟩
    cases hk : sm_lk i L with
    | none => rw [hk] at h2; cases h2
    | some v =>
      rw [hk] at h2
      cases h2
      exact ⟨v, hk, rfl⟩
  · rintro ⟨v, h1, h2⟩
    refine ⟨q.1, List.mem_range.mpr (sm_lk_lt h1), ?_⟩
    rw [h1, Option.map_some, ← h2]
theorem sm_lh.get {ad : Nat → Nat} {ls : Array Slot} {nL : Nat} {L : sm_L} (h : sm_lh ad ls nL L) {k : Nat} {v : sm_V} (hk : sm_lk k L = some v) : ls[k]? = some (.val (sm_tr ad v)) :=
  h.2.2.2 (k, sm_tr ad v) (sm_lv_mem.mpr ⟨v, hk, rfl⟩)
theorem sm_lh.set {ad : Nat → Nat} {ls : Array Slot} {nL : Nat} {L : sm_L} (hn : L.length = nL) {i : Nat} (hi : i < L.length) {v : sm_V} (h : lv_has ls nL ((i, sm_tr ad v) :: (sm_lv ad L).filter (fun q => !(q.1 == i) && !(q.1 + 1 == i && q.2.category == 2)))) : sm_lh ad ls nL (L.set i (some v)) := by
  refine ⟨by rw [List.length_set]; exact hn, h.1, h.2.1, fun q hq => ?_⟩
  obtain ⟨w, h1, h2⟩ := sm_lv_mem.mp hq
  by_cases hqi : q.1 = i
  · have e : sm_lk q.1 (L.set i (some v)) = some v := by
      unfold sm_lk
      rw [hqi, List.getElem?_set_self hi]
      rfl
    rw [e] at h1
    cases h1
    rw [hqi, h2]
    exact h.2.2 _ List.mem_cons_self
  · have e : sm_lk q.1 (L.set i (some v)) = sm_lk q.1 L := by
      unfold sm_lk
      rw [List.getElem?_set_ne (Ne.symm hqi)]
    rw [e] at h1
    refine h.2.2 q (List.mem_cons_of_mem _ (List.mem_filter.mpr ⟨sm_lv_mem.mpr ⟨w, h1, h2⟩, ?_⟩))
    rw [h2, sm_cat]
    simp [hqi]
def sm_cell (ad : Nat → Nat) (D : va_G) (cI cH : ClassId) (S : sm_S) (H : Heap) (a : Nat) : Prop :=
  ((S.2.2.1 a).1 < 12 → a < S.2.2.2.1 ∧ ∃ r : vw_C, vwCl[(S.2.2.1 a).1]? = some r ∧ t_OB (ad a) (D.1 (S.2.2.1 a).1) r.2.2 (D.2 (S.2.2.1 a).1) H (fun k => sm_tr ad (sm_fv S (S.2.2.1 a).1 a k))) ∧
  ((S.2.2.1 a).1 = 100 → a < S.2.2.2.1 ∧ H[ad a]? = some (arrV cI (S.2.2.1 a).2 (fun j => .int (zI (S.1 a j))))) ∧
  ((S.2.2.1 a).1 = 101 → a < S.2.2.2.1 ∧ H[ad a]? = some (arrV cH (S.2.2.1 a).2 (fun j => sm_tr ad (.inr (S.2.1 a j)))))
def sm_rel (G : sm_G) (s0 : Nat) (ad : Nat → Nat) (D : va_G) (cI cH : ClassId) (S : sm_S) (H : Heap) : Prop :=
  H.size = s0 + S.2.2.2.1 ∧ S.2.2.2.1 ≤ 1000000 ∧ (∀ a, a < 1000000 → ad a = s0 + a) ∧ (∀ a, 1000000 ≤ a → S.1 a = G.1 a ∧ S.2.1 a = G.2.1 a ∧ S.2.2.1 a = G.2.2 a ∧ 102 ≤ (G.2.2 a).1) ∧
  ∀ a, a < 1000000 → sm_cell ad D cI cH S H a ∧ (S.2.2.1 a).1 ≠ 102 ∧ (S.2.2.1 a).1 ≠ 103 ∧ (S.2.2.1 a).1 ≠ 104
theorem sm_cell.kept {ad : Nat → Nat} {D : va_G} {cI cH : ClassId} {S S' : sm_S} {H H' : Heap} {a : Nat} (h : sm_cell ad D cI cH S H a) (hn : S.2.2.2.1 ≤ S'.2.2.2.1) (h1 : S'.1 a = S.1 a) (h2 : S'.2.1 a = S.2.1 a) (h3 : S'.2.2.1 a = S.2.2.1 a) (hH : a < S.2.2.2.1 → H'[ad a]? = H[ad a]?) : sm_cell ad D cI cH S' H' a := by
  unfold sm_cell
  rw [h3]
  refine ⟨fun k => ?_, fun k => ?_, fun k => ?_⟩
  · obtain ⟨g1, r, g2, g3⟩ := h.1 k
    refine ⟨by omega, r, g2, (g3.kept (hH g1)).to fun j _ => ?_⟩
    unfold sm_fv
    rw [h1, h2]
  · obtain ⟨g1, g2⟩ := h.2.1 k
    refine ⟨by omega, ?_⟩
    rw [hH g1, g2, h1]
  · obtain ⟨g1, g2⟩ := h.2.2 k
    refine ⟨by omega, ?_⟩
    rw [hH g1, g2, h2]
theorem sm_rel.lt {G : sm_G} {s0 : Nat} {ad : Nat → Nat} {D : va_G} {cI cH : ClassId} {S : sm_S} {H : Heap} (h : sm_rel G s0 ad D cI cH S H) {q : Nat} (hk : (S.2.2.1 q).1 < 102) : q < 1000000 := by
  rcases Nat.lt_or_ge q 1000000 with c | c
  · exact c
  · have := h.2.2.2.1 q c
    rw [this.2.2.1] at hk
    omega
theorem sm_rel.upd {G : sm_G} {s0 : Nat} {ad : Nat → Nat} {D : va_G} {cI cH : ClassId} {S S' : sm_S} {H H' : Heap} (h : sm_rel G s0 ad D cI cH S H) {q : Nat} (hq : q < S.2.2.2.1) (hn : S'.2.2 = S.2.2) (h1 : ∀ b, b ≠ q → S'.1 b = S.1 b ∧ S'.2.1 b = S.2.1 b) (hz : H'.size = H.size) (ho : ∀ x, x ≠ ad q → H'[x]? = H[x]?) (hc : sm_cell ad D cI cH S' H' q) : sm_rel G s0 ad D cI cH S' H' := by
  obtain ⟨a1, a2, a3, a4, a5⟩ := h
  refine ⟨by rw [hz, a1, hn], by rw [hn]; exact a2, a3, fun a ha => ?_, fun a ha => ?_⟩
  · obtain ⟨b1, b2, b3, b4⟩ := a4 a ha
    have hne : a ≠ q := by omega
    exact ⟨by rw [(h1 a hne).1, b1], by rw [(h1 a hne).2, b2], by rw [hn]; exact b3, b4⟩
  · obtain ⟨b1, b2⟩ := a5 a ha
    rw [hn]
    refine ⟨?_, b2⟩
    by_cases hne : a = q
    · rw [hne]; exact hc
    · refine b1.kept (by rw [hn]; exact Nat.le_refl _) (h1 a hne).1 (h1 a hne).2 (by rw [hn]) fun hlt => ho _ ?_
      rw [a3 a ha, a3 q (by omega)]
      omega
theorem sm_rel.new {G : sm_G} {s0 : Nat} {ad : Nat → Nat} {D : va_G} {cI cH : ClassId} {S S' : sm_S} {H H' : Heap} (h : sm_rel G s0 ad D cI cH S H) (hq : S.2.2.2.1 < 1000000) (hn : S'.2.2.2.1 = S.2.2.2.1 + 1) (h1 : ∀ b, b ≠ S.2.2.2.1 → S'.1 b = S.1 b ∧ S'.2.1 b = S.2.1 b ∧ S'.2.2.1 b = S.2.2.1 b) (hz : H'.size = H.size + 1) (ho : ∀ x, x < H.size → H'[x]? = H[x]?) (hc : sm_cell ad D cI cH S' H' S.2.2.2.1) (hk : (S'.2.2.1 S.2.2.2.1).1 < 102) : sm_rel G s0 ad D cI cH S' H' := by
  obtain ⟨a1, a2, a3, a4, a5⟩ := h
  refine ⟨by rw [hz, a1, hn]; omega, by rw [hn]; omega, a3, fun a ha => ?_, fun a ha => ?_⟩
  · obtain ⟨b1, b2, b3, b4⟩ := a4 a ha
    have hne : a ≠ S.2.2.2.1 := by omega
    exact ⟨by rw [(h1 a hne).1, b1], by rw [(h1 a hne).2.1, b2], by rw [(h1 a hne).2.2, b3], b4⟩
  · obtain ⟨b1, b2⟩ := a5 a ha
    by_cases hne : a = S.2.2.2.1
    · rw [hne]
      exact ⟨hc, by omega, by omega, by omega⟩
    · rw [(h1 a hne).2.2]
      refine ⟨b1.kept (by rw [hn]; omega) (h1 a hne).1 (h1 a hne).2.1 (h1 a hne).2.2 fun hlt => ho _ ?_, b2⟩
      rw [a3 a ha, a1]
      omega
/-- what is so at a method's start, of classes, tables and constants -/
def sm_ctx (G : sm_G) (s0 : Nat) (ad : Nat → Nat) (D : va_G) (cI cH : ClassId) (U : State) : Prop :=
  (∀ (ci : Nat) (q : vw_C), vwCl[ci]? = some q → u_Kn U q.1 q.2.1 q.2.2 (D.1 ci) (D.2 ci)) ∧
  (ArrOfT U cI .int ∧ U.vm.findClass ("[" ++ FieldType.int.toString) = some cI) ∧
  (ArrOfT U cH (.object "SwallowSurvey$Habit") ∧ va_RA U cH (.object "SwallowSurvey$Habit")) ∧
  va_AO "SwallowSurvey$Habit" U ∧
  (∀ q ∈ sm_mnT, va_Nw (.methodLinkNest (sm_cs q.1) q.2.1 (sm_y q.2.2) "SwallowSurvey") U) ∧
  (∀ q ∈ sm_gsT, Cond.fieldLink (sm_cs q.1) q.2.1 (sm_gsn q.2.2).1 (sm_gsn q.2.2).2.1 (sm_gsn q.2.2).2.2 ∈ sm_wds ∨ va_Nw (.fieldLinkNest (sm_cs q.1) q.2.1 (sm_gsn q.2.2).1 (sm_gsn q.2.2).2.1 (sm_gsn q.2.2).2.2 "SwallowSurvey") U) ∧
  (∀ q ∈ sm_lsT, vk_R (sm_cs q.1) q.2.1 (sm_lsX.getD q.2.2 "") (ad (2000000 + q.2.2)) U) ∧
  (∀ i, i < 5 → va_Z (sm_gsn i).1 (sm_gsn i).2.1 (sm_gsn i).2.2 (.ref (ad (1000000 + i))) (sm_A s0) U U.heap) ∧
  va_Z (sm_gsn 10).1 (sm_gsn 10).2.1 (sm_gsn 10).2.2 (.int 1) (sm_A s0) U U.heap ∧
  va_Z (sm_gsn 11).1 (sm_gsn 11).2.1 (sm_gsn 11).2.2 (sm_tr ad (.inr (G.2.1 7000000 0))) (sm_A s0) U U.heap ∧
  ∀ a, 1000000 ≤ a → ((G.2.2 a).1 = 102 → va_T .int (ad a) (G.2.2 a).2 (fun j => .int (zI (G.1 a j))) (sm_A s0) U U.heap) ∧
    ((G.2.2 a).1 = 104 → va_T .byte (ad a) (G.2.2 a).2 (fun j => .int (zI (G.1 a j))) (sm_A s0) U U.heap) ∧
    ((G.2.2 a).1 = 103 → va_O "java/lang/String" (ad a) (sm_A s0) U U.heap ∧ va_OF "java/lang/String" "coder" "B" (.int 0) (ad a) (sm_A s0) U U.heap ∧ va_OF "java/lang/String" "value" "[B" (sm_tr ad (.inr (G.2.1 a 0))) (ad a) (sm_A s0) U U.heap)
theorem sm_ctx.moved {G : sm_G} {s0 : Nat} {ad : Nat → Nat} {D : va_G} {cI cH : ClassId} {s U : State} (hW : s.WarmedH U.vm) (hk : ∀ a : Nat, a < s.heap.size → ¬ sm_A s0 a → U.heap[a]? = s.heap[a]?) (h : sm_ctx G s0 ad D cI cH s) : sm_ctx G s0 ad D cI cH U := by
  have hvm : s.vm.Alike U.vm := hW.alike
  obtain ⟨h1, h2, h3, h4, h5, h6, h7, h8, h9, h10, h11⟩ := h
  refine ⟨fun ci q hq => u_Kn_moved hvm (h1 ci q hq), ⟨arrOfT_moved hvm h2.1, by rw [hvm.findClass]; exact h2.2⟩, ⟨arrOfT_moved hvm h3.1, h3.2.moved hvm⟩, h4.moved hvm, fun q hq => (h5 q hq).warmM hW, fun q hq => (h6 q hq).imp id (fun z => z.warmF hW), fun q hq => (h7 q hq).warm hW, fun i hi => ((h8 i hi).moved hvm).kept hk, (h9.moved hvm).kept hk, (h10.moved hvm).kept hk, fun a ha => ⟨fun k => (((h11 a ha).1 k).moved hvm).kept hk, fun k => (((h11 a ha).2.1 k).moved hvm).kept hk, fun k => ?_⟩⟩
  obtain ⟨g1, g2, g3⟩ := (h11 a ha).2.2 k
  exact ⟨(va_O.moved hvm g1).kept hk, (va_OF.moved hvm g2).kept hk, (va_OF.moved hvm g3).kept hk⟩
