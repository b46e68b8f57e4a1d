section SMS
variable {p : Program} {l : Launch} {e : Env} {R : Room} {s : State} {m : MethodId} {args : Array Value} {below : List Frame} {meth : Method} {c : Code} {Q : State → Prop}
variable {G : sm_G} {s0 : Nat} {ad : Nat → Nat} {D : va_G} {cI cH : ClassId}
theorem sm_goon {H : Heap} {locs : List Loc} {cells slots mc ms pc : Nat} {ls : Array Slot} {st0 rest : List Value} {Qa : State → Outcome → State → Prop} {free : Addr → Prop} (hr : va_Run p l e R s m args below meth c H locs cells slots mc ms (F0 m pc ls st0) rest Qa free)
    (kk : ∀ (v : Option Value) (st₀ t : State) (H1 : Heap) (L : List Loc), st₀.heap = H → t.heap = H1 → Qa st₀ (.returned v) t → (∀ q ∈ L, free q.base) → W p l e R s m args below meth c H1 (locs ++ L) (cells + mc) (slots + ms) Q (F0 m (pc + 3) ls (v.toList ++ rest))) : W p l e R s m args below meth c H locs cells slots Q (F0 m pc ls st0) := by
  intro T hT X
  obtain ⟨v, st₀, t, T', L, h0, X', hL, e1, e2, hq, st⟩ := hr T hT X
  obtain ⟨t2, a1, b1⟩ := kk v st₀ t T'.heap L h0 e1.symm hq hL T' rfl X'
  exact ⟨t2, st t2 a1, b1⟩
def sm_Rm (d mc ms : Nat) : Room := { frames := d + 1, cells := mc, slots := ms, locals := 64 * (d + 1) }
def sm_Pc (G : sm_G) (s0 : Nat) (ad : Nat → Nat) (D : va_G) (cI cH : ClassId) (as : List sm_V) (S : sm_S) : Array Value → State → Prop := va_Pc (as.map (sm_tr ad)) (fun U => sm_ctx G s0 ad D cI cH U ∧ s0 ≤ U.heap.size ∧ sm_rel G s0 ad D cI cH S U.heap)
def sm_Qc (G : sm_G) (s0 : Nat) (ad : Nat → Nat) (D : va_G) (cI cH : ClassId) (r : Option sm_V × sm_S) : Array Value → State → Outcome → State → Prop := fun _ st o t => o = .returned (r.1.map (sm_tr ad)) ∧ sm_rel G s0 ad D cI cH r.2 t.heap ∧ st.heap.size ≤ t.heap.size ∧ ∀ q : Nat, q < st.heap.size → ¬ sm_A s0 q → t.heap[q]? = st.heap[q]?
def sm_ws (j : Nat) : List Cond := Cond.code (sm_y j) (sm_b j) (sm_ml j) (sm_rt j) :: sm_wds
/-- how a method's end looks: its answer on the stack, at a return of its kind -/
def sm_end (j : Nat) (i : Instr) (r : Option sm_V) : Prop :=
  (i = .ireturn ∧ ∃ x, r = some (.inl x) ∧ (sm_rt j = some .int ∨ (sm_rt j = some .boolean ∧ (wr x = 0 ∨ wr x = 1)) ∨ (sm_rt j = some .char ∧ 0 ≤ wr x ∧ wr x < 65536) ∨ (sm_rt j = some .byte ∧ -128 ≤ wr x ∧ wr x < 128))) ∨ (i = .areturn ∧ ∃ x, r = some (.inr x) ∧ ((∃ n, sm_rt j = some (.object n)) ∨ ∃ t, sm_rt j = some (.array t))) ∨ (i = .return_ ∧ r = none ∧ sm_rt j = none)
/-- the whole walk of a method from a place on -/
def sm_Snd (f : Nat) : Prop := ∀ (d j pc : Nat) (L : sm_L) (st : List sm_V) (S : sm_S) (r : Option sm_V × sm_S), sm_run f d j pc L st S = some r →
  ∀ (p : Program) (l : Launch) (e : Env) (R : Room) (s : State) (m : MethodId) (args : Array Value) (below : List Frame) (meth : Method) (c : Code) (Q : State → Prop) (G : sm_G) (s0 : Nat) (ad : Nat → Nat) (D : va_G) (cI cH : ClassId),
  p.tables.exec = Jvm.exec → c.code = sm_b j → c.maxLocals = sm_ml j → s.vm.findClass (sm_cs (sm_own j)) = some m.cls → (∀ w ∈ sm_wds, w.before args s = true) → meth.name = (sm_y j).name → sm_ctx G s0 ad D cI cH s → s0 ≤ s.heap.size → d + 1 ≤ R.frames → 64 * (d + 1) ≤ R.locals →
  ∀ (ls : Array Slot) (H : Heap) (locs : List Loc) (cells slots : Nat), sm_lh ad ls (sm_ml j) L → sm_rel G s0 ad D cI cH S H → va_S (sm_A s0) s.heap H locs → cells + (r.2.2.2.2.1 - S.2.2.2.1) ≤ R.cells → slots + (r.2.2.2.2.2 - S.2.2.2.2) ≤ R.slots →
  (∀ (pc' : Nat) (ls' : Array Slot) (H' : Heap) (locs' : List Loc) (cells' slots' : Nat) (i : Instr), decode (sm_b j) pc' = .ok (i, 1) → sm_end j i r.1 → sm_rel G s0 ad D cI cH r.2 H' → va_S (sm_A s0) s.heap H' locs' → cells' = cells + (r.2.2.2.2.1 - S.2.2.2.1) → slots' = slots + (r.2.2.2.2.2 - S.2.2.2.2) → W p l e R s m args below meth c H' locs' cells' slots' Q (F0 m pc' ls' (r.1.toList.map (sm_tr ad)))) →
  W p l e R s m args below meth c H locs cells slots Q (F0 m pc ls (st.map (sm_tr ad)))
theorem sm_bool {x : Int} (h : wr x = 0 ∨ wr x = 1) : narrow .boolean (.int (zI x)) = .int (zI x) := by
  have hz : zI x = 0 ∨ zI x = 1 := h.imp (zI_eq0 x).mpr (zI_eq x 1).mpr
  rcases hz with hz | hz <;> rw [hz] <;> decide
theorem sm_nat {x : Int} (h0 : 0 ≤ wr x) : ((zI x).toBitVec.toNat : Int) = wr x := by
  have h : wr x = if 2 * (zI x).toBitVec.toNat < 2 ^ 32 then ((zI x).toBitVec.toNat : Int) else ((zI x).toBitVec.toNat : Int) - ((2 ^ 32 : Nat) : Int) := BitVec.toInt_eq_toNat_cond _
  have hb : (zI x).toBitVec.toNat < 2 ^ 32 := (zI x).toBitVec.isLt
  split at h <;> omega
theorem sm_char {x : Int} (h0 : 0 ≤ wr x) (h : wr x < 65536) : narrow .char (.int (zI x)) = .int (zI x) := by
  have hn := sm_nat h0
  show Value.int ((zI x).toUInt32.toUInt16.toUInt32.toInt32) = Value.int (zI x)
  congr 1
  apply Int32.toBitVec_inj.mp
  apply BitVec.eq_of_toNat_eq
  have e : (zI x).toUInt32.toUInt16.toUInt32.toInt32.toBitVec = BitVec.setWidth 32 (BitVec.setWidth 16 (zI x).toBitVec) := rfl
  rw [e, BitVec.toNat_setWidth, BitVec.toNat_setWidth]
  omega
theorem sm_byte {x : Int} (h0 : -128 ≤ wr x) (h : wr x < 128) : narrow .byte (.int (zI x)) = .int (zI x) := by
  show Value.int ((zI x).toInt8.toInt32) = Value.int (zI x)
  congr 1
  apply Int32.toInt_inj.mp
  rw [Int8.toInt_toInt32, Int32.toInt_toInt8, wr_eq]
  exact Int.bmod_eq_of_le (by omega) (by omega)
set_option maxHeartbeats 4000000 in
/-- a method's contract out of its walk -/
theorem sm_met {f : Nat} (ih : sm_Snd f) {d j : Nat} (hcd : sm_cdP j) (hown : sm_cs (sm_own j) = (sm_y j).cls) {as : List sm_V} {S : sm_S} {r : Option sm_V × sm_S} (hlen : as.length ≤ sm_ml j) (h : sm_run f d j 0 (sm_entry j as) [] S = some r) :
    Met l (sm_y j) (sm_ws j) (sm_Rm d (r.2.2.2.2.1 - S.2.2.2.1) (r.2.2.2.2.2 - S.2.2.2.2)) (sm_Pc G s0 ad D cI cH as S) (sm_Qc G s0 ad D cI cH r) (r.2.2.2.2.1 - S.2.2.2.1) (r.2.2.2.2.2 - S.2.2.2.2) (sm_A s0) := by
  refine Met.ofW (cc := sm_b j) (maxL := sm_ml j) (ret := sm_rt j) hcd.2.2.1 rfl ?_
  intro p e s m args below meth c s₁ B hml hv
  obtain ⟨rfl, hctx, hs0, hrel⟩ := hv
  have hts0 := atoms_spec (ws := sm_ws j) B.pre
  have hts : ∀ w ∈ sm_wds, w.before (as.map (sm_tr ad)).toArray s = true := fun w hw => hts0 w (List.mem_cons_of_mem _ hw)
  have hownc : s.vm.findClass (sm_cs (sm_own j)) = some m.cls := by rw [hown]; exact findClass_of_methodNamed B.named
  have hlocks := B.notSynchronized
  have hr := B.returns
  rw [lg_entry_eq]
  refine ih d j 0 (sm_entry j as) [] S r h p l e _ s m _ below meth c _ G s0 ad D cI cH B.exec B.bytes hml hownc hts (name_of_methodNamed B.named B.method).1 hctx hs0 (Nat.le_refl _) (Nat.le_refl _) _ s.heap [] 0 0 (sm_lh_entry ad j as hlen) hrel va_S.rf (by show 0 + _ ≤ _; rw [Nat.zero_add]; exact Nat.le_refl _) (by show 0 + _ ≤ _; rw [Nat.zero_add]; exact Nat.le_refl _) ?_
  intro pc' ls' H' locs' cells' slots' i hdg hend hrel' hS' ec es
  rw [Nat.zero_add] at ec es
  subst ec; subst es
  have hq : ∀ (v : Option Value), v = r.1.map (sm_tr ad) → ∀ t : State, t.heap = H' → s.WarmedH t.vm → sm_Qc G s0 ad D cI cH r (as.map (sm_tr ad)).toArray s (.returned v) t := fun v hv t ht _ => ⟨by rw [hv], by rw [ht]; exact hrel', by rw [ht]; exact hS'.1, fun q h1 h2 => by rw [ht]; exact hS'.2.1 q h1 h2⟩
  rcases hend with ⟨rfl, x, hx, hk⟩ | ⟨rfl, x, hx, hk⟩ | ⟨rfl, hx, hk⟩
  · have hstk : r.1.toList.map (sm_tr ad) = [.int (zI x)] := by rw [hx]; rfl
    rw [hstk]
    have hqx := hq (some (.int (zI x))) (by rw [hx]; rfl)
    rcases hk with hk | ⟨hk, h1⟩ | ⟨hk, h1, h2⟩ | ⟨hk, h1, h2⟩
    · exact W.iret B.exec B.bytes (hr.trans hk) hqx hS'.2.2 hdg hlocks
    · exact W.zret B.exec B.bytes (hr.trans hk) (sm_bool h1) hqx hS'.2.2 hdg hlocks
    · exact W.zret B.exec B.bytes (hr.trans hk) (sm_char h1 h2) hqx hS'.2.2 hdg hlocks
    · exact W.zret B.exec B.bytes (hr.trans hk) (sm_byte h1 h2) hqx hS'.2.2 hdg hlocks
  · have hstk : r.1.toList.map (sm_tr ad) = [sm_tr ad (.inr x)] := by rw [hx]; rfl
    rw [hstk]
    have hqx := hq (some (sm_tr ad (.inr x))) (by rw [hx]; rfl)
    have hv : sm_tr ad (.inr x) = .null ∨ ∃ a, sm_tr ad (.inr x) = .ref a := by
      cases x with
      | none => exact Or.inl rfl
      | some k => exact Or.inr ⟨_, rfl⟩
    rcases hk with ⟨n, hk⟩ | ⟨t, hk⟩
    · exact W.aret B.exec B.bytes (hr.trans hk) (Or.inl ⟨n, rfl⟩) hv hqx hS'.2.2 hdg hlocks
    · exact W.aret B.exec B.bytes (hr.trans hk) (Or.inr ⟨t, rfl⟩) hv hqx hS'.2.2 hdg hlocks
  · have hstk : r.1.toList.map (sm_tr ad) = [] := by rw [hx]; rfl
    rw [hstk]
    exact W.vret B.exec B.bytes (hr.trans hk) (hq none (by rw [hx]; rfl)) hS'.2.2 hdg hlocks
theorem sm_blind (as : List sm_V) (S : sm_S) : FrameBlind (sm_Pc G s0 ad D cI cH as S) := fun a U g mk q => by
  obtain ⟨q0, q1, q2, q3⟩ := q
  exact ⟨q0, sm_ctx.moved (s := U) (U := U.calling g mk a) (State.WarmedH.refl U) (fun _ _ _ => rfl) q1, q2, q3⟩
theorem sm_pre {H : Heap} {locs : List Loc} (hctx : sm_ctx G s0 ad D cI cH s) (hs0 : s0 ≤ s.heap.size) {S : sm_S} (hrel : sm_rel G s0 ad D cI cH S H) (hS : va_S (sm_A s0) s.heap H locs) (as : List sm_V) : ∀ U : State, U.heap = H → s.WarmedH U.vm → sm_Pc G s0 ad D cI cH as S (as.map (sm_tr ad)).toArray U := fun U hU hW =>
  ⟨rfl, sm_ctx.moved hW (fun a h1 h2 => by rw [hU]; exact hS.2.1 a h1 h2) hctx, by rw [hU]; exact Nat.le_trans hs0 hS.1, by rw [hU]; exact hrel⟩
theorem sm_ml45 (j : Nat) : sm_ml j ≤ 45 := by
  have h : (List.range sm_mt.length).all (fun j => decide (sm_ml j ≤ 45)) = true := by decide +kernel
  rcases Nat.lt_or_ge j sm_mt.length with q | q
  · exact of_decide_eq_true (List.all_eq_true.mp h j (List.mem_range.mpr q))
  · have e : sm_mm j = (x, code, maxLocals, ret) := by
      unfold sm_mm
      rw [List.getD_eq_getElem?_getD, List.getElem?_eq_none q]
      rfl
    show (sm_mm j).2.2.1 ≤ 45
    rw [e]
    decide
theorem sm_owns : (sm_mvT.all (fun q => decide (sm_cs (sm_own q.2.2) = (sm_y q.2.2).cls)) && sm_msT.all (fun q => decide (sm_cs (sm_own q.2.2) = (sm_y q.2.2).cls)) && sm_miT.all (fun q => decide (sm_cs (sm_own q.2.2) = (sm_y q.2.2).cls)) && sm_mnT.all (fun q => decide (sm_cs (sm_own q.2.2) = (sm_y q.2.2).cls))) = true := by decide +kernel
set_option maxHeartbeats 4000000 in
/-- a call of a method of the table -/
theorem sm_callW {f : Nat} (ih : sm_Snd f) (hx : p.tables.exec = Jvm.exec) {j : Nat} (hb : c.code = sm_b j) (hml : c.maxLocals = sm_ml j) (hown : s.vm.findClass (sm_cs (sm_own j)) = some m.cls) (hts : ∀ w ∈ sm_wds, w.before args s = true)
    (hctx : sm_ctx G s0 ad D cI cH s) (hs0 : s0 ≤ s.heap.size) {d : Nat} (hd : 0 < d) (hfr : d + 1 ≤ R.frames) (hlo : 64 * (d + 1) ≤ R.locals) {pc len : Nat} {i : Instr} {a b : Nat} {v : Int} (hdg : decode (sm_b j) pc = .ok (i, len)) (hck : sm_ckI (sm_own j) j pc len i a b v = true) (hc : sm_isCall i a = true)
    {st : List sm_V} {S : sm_S} {r : Option sm_V × sm_S} (h1 : b ≤ st.length) (h2 : (st.drop b).length ≤ 8) (h3 : b ≤ sm_ml a) (h4 : sm_rok (sm_rk a) ((st.take b).reverse) S = true) (h : sm_run f (d - 1) a 0 (sm_entry a (st.take b).reverse) [] S = some r)
    {ls : Array Slot} {H : Heap} {locs : List Loc} {cells slots : Nat} (hls : ls.size = sm_ml j) (hrel : sm_rel G s0 ad D cI cH S H) (hS : va_S (sm_A s0) s.heap H locs) (hcc : cells + (r.2.2.2.2.1 - S.2.2.2.1) ≤ R.cells) (hss : slots + (r.2.2.2.2.2 - S.2.2.2.2) ≤ R.slots)
    (kk : ∀ (H' : Heap) (locs' : List Loc), sm_rel G s0 ad D cI cH r.2 H' → va_S (sm_A s0) s.heap H' locs' → W p l e R s m args below meth c H' locs' (cells + (r.2.2.2.2.1 - S.2.2.2.1)) (slots + (r.2.2.2.2.2 - S.2.2.2.2)) Q (F0 m (pc + len) ls ((r.1.toList ++ st.drop b).map (sm_tr ad)))) :
    W p l e R s m args below meth c H locs cells slots Q (F0 m pc ls (st.map (sm_tr ad))) := by
  have hlen : len = sm_ilen i len := by
    unfold sm_ckI at hck
    rw [Bool.and_eq_true] at hck
    exact of_decide_eq_true hck.1
  replace hck := (Bool.and_eq_true _ _ ▸ (show (decide (len = sm_ilen i len) && _) = true from hck)).2
  have howns := sm_owns
  simp only [Bool.and_eq_true, List.all_eq_true, decide_eq_true_eq] at howns
  have hal : (st.take b).reverse.length = b := by rw [List.length_reverse, List.length_take]; omega
  have hm45 := sm_ml45 a
  have hR : (sm_Rm (d - 1) (r.2.2.2.2.1 - S.2.2.2.1) (r.2.2.2.2.2 - S.2.2.2.2)).frames + 1 ≤ R.frames ∧ 8 + (sm_ml a + 11) + (sm_Rm (d - 1) (r.2.2.2.2.1 - S.2.2.2.1) (r.2.2.2.2.2 - S.2.2.2.2)).locals ≤ R.locals := by
    constructor
    · show d - 1 + 1 + 1 ≤ _; omega
    · show 8 + (sm_ml a + 11) + 64 * (d - 1 + 1) ≤ _; omega
  have hWr : 2 * (F0 m pc ls (st.map (sm_tr ad))).monitorRoom + (((st.drop b).map (sm_tr ad)).map fun v => v.category).sum ≤ 8 := by
    show 2 * 0 + _ ≤ _
    rw [sm_cats]
    omega
  have hfix : CallFix p m c (sm_b j) (sm_ml j) s args sm_wds (sm_cs (sm_own j)) := ⟨hx, hb, hml, hown, hts⟩
  have hgws : sm_cdP a → GoodIn sm_wds (sm_ws a) := fun hcd => sm_good (fun w hw => by
    rcases List.mem_cons.mp hw with rfl | hw
    · exact hcd.1
    · exact hw)
  have hstk : st.map (sm_tr ad) = ((st.take b).reverse.map (sm_tr ad)).reverse ++ (st.drop b).map (sm_tr ad) := by
    rw [← List.map_reverse, List.reverse_reverse, ← List.map_append, List.take_append_drop]
  have hgo : va_Run p l e R s m args below meth c H locs cells slots (r.2.2.2.2.1 - S.2.2.2.1) (r.2.2.2.2.2 - S.2.2.2.2) (F0 m pc ls (st.map (sm_tr ad))) ((st.drop b).map (sm_tr ad)) (sm_Qc G s0 ad D cI cH r ((st.take b).reverse.map (sm_tr ad)).toArray) (sm_A s0) → len = 3 → W p l e R s m args below meth c H locs cells slots Q (F0 m pc ls (st.map (sm_tr ad))) := by
    intro hrun hl3
    subst hl3
    refine sm_goon hrun fun v st₀ t H1 L e0 e1 hq hL => ?_
    obtain ⟨q1, q2, q3, q4⟩ := hq
    cases q1
    rw [e0] at q3 q4
    rw [e1] at q2 q3 q4
    refine W.eq ?_ (kk H1 (locs ++ L) q2 ⟨Nat.le_trans hS.1 q3, fun x g1 g2 => by rw [q4 x (Nat.lt_of_lt_of_le g1 hS.1) g2]; exact hS.2.1 x g1 g2, fun x hx => (List.mem_append.mp hx).elim (hS.2.2 x) (hL x)⟩)
    rw [List.map_append]
    cases r.1 <;> rfl
  cases i with
  | invokevirtual k =>
    dsimp only at hck
    simp only [sm_isCall, decide_eq_true_eq] at hc
    simp only [Bool.or_eq_true, Bool.and_eq_true, decide_eq_true_eq] at hck
    have hck := hck.resolve_left (by omega)
    have hmem := List.contains_iff_mem.mp hck.1
    obtain ⟨hcd, w1, w2, w3, w4⟩ := sm_mvT_ok _ hmem
    dsimp only at hcd w1 w2 w3 w4
    have hne : sm_rk a ≠ 999 := by
      rcases w4 with ⟨w4, -⟩ | ⟨T, N, w4⟩
      · omega
      · intro hz
        rw [hz] at w4
        cases w4
    cases has : (st.take b).reverse with
    | nil => rw [has] at h4; simp [sm_rok, hne] at h4
    | cons q0 as' =>
      have hq0 : ∃ q, q0 = .inr (some q) ∧ (S.2.2.1 q).1 = sm_rk a := by
        rw [has] at h4
        simp only [sm_rok, Bool.or_eq_true, decide_eq_true_eq] at h4
        have h4 := h4.resolve_left hne
        split at h4
        · rename_i q _ heq
          cases heq
          exact ⟨q, rfl, of_decide_eq_true (h4.resolve_left hne)⟩
        · cases h4
      obtain ⟨q, rfl, hkq⟩ := hq0
      have hM := sm_met (l := l) (G := G) (s0 := s0) (ad := ad) (D := D) (cI := cI) (cH := cH) ih hcd (howns.1.1.1 _ hmem) (by rw [hal]; exact h3) h
      rw [has] at hM hstk hgo
      have hcell : ∃ cellB : Cell, H[ad q]? = some cellB ∧ cellB.vm.isStatics = false ∧ s.vm.findClass (sm_y a).cls = some cellB.cls := by
        rcases w4 with ⟨w4, w5⟩ | ⟨T, N, w4⟩
        · obtain ⟨g1, g2, g3, g4⟩ := sm_con hrel (hkq.trans w4) (Or.inr (Or.inl rfl))
          have g5 := ((hctx.2.2.2.2.2.2.2.2.2.2 q g1).2.2 (by rw [← g4]; exact hkq.trans w4)).1
          obtain ⟨cell, f1, f2, f3, -⟩ := g5.kept hS.2.1
          exact ⟨cell, f1, f2, by rw [w5]; exact f3⟩
        · have hlt : sm_rk a < 12 := by
            rcases Nat.lt_or_ge (sm_rk a) 12 with z | z
            · exact z
            · rw [List.getElem?_eq_none (by exact z)] at w4
              cases w4
          obtain ⟨g1, g2, r', g3, cell, g4, g5, g6, g7⟩ := sm_obj hrel hkq hlt
          exact ⟨cell, g4, by rw [g6]; rfl, by rw [g5]; exact (hctx.1 _ _ w4).2.1⟩
      dsimp only [sm_ilen] at hlen
      subst hlen
      refine hgo (va_runV (n := b - 1) (b := ad q) (As := as'.map (sm_tr ad)) hfix hM (cwV (b - 1) hts (sm_good ?_) rfl rfl rfl ⟨rfl, hcd.2.2.2.1, hcd.2.2.2.2.1, by have := hcd.2.2.2.2.2; rw [if_neg hne] at this; rw [this, hck.2]⟩ hR) ⟨sm_blind _ _, hcell, sm_pre hctx hs0 hrel hS _⟩ rfl (by rw [List.length_map]; have := hal; rw [has] at this; simp at this; omega) hls (by rw [hstk]; simp [sm_tr]) hWr hdg ⟨hcc, hss⟩) rfl
      intro w hw
      rcases List.mem_append.mp hw with hw | hw
      · simp only [List.mem_cons, List.not_mem_nil, or_false] at hw
        rcases hw with rfl | rfl | rfl | rfl
        · exact w1
        · exact w2
        · exact w3
        · exact hcd.2.1
      · rcases List.mem_cons.mp hw with rfl | hw
        · exact hcd.1
        · exact hw
  | invokestatic k =>
    dsimp only at hck
    simp only [sm_isCall, decide_eq_true_eq] at hc
    rw [if_neg (by omega), if_neg (by omega), if_neg (by omega), if_neg (by omega)] at hck
    simp only [Bool.or_eq_true, Bool.and_eq_true, decide_eq_true_eq] at hck
    have hck := hck.resolve_left (by omega)
    have hmem := List.contains_iff_mem.mp hck.1
    obtain ⟨hcd, w1, w2, w3⟩ := sm_msT_ok _ hmem
    dsimp only at hcd w1 w2 w3
    have hM := sm_met (l := l) (G := G) (s0 := s0) (ad := ad) (D := D) (cI := cI) (cH := cH) ih hcd (howns.1.1.2 _ hmem) (by rw [hal]; exact h3) h
    dsimp only [sm_ilen] at hlen
    subst hlen
    refine hgo (va_runS (n := b) hfix hM (va_cwS b hts (sm_good ?_) rfl rfl rfl ⟨hcd.2.2.2.1, hcd.2.2.2.2.1, by have := hcd.2.2.2.2.2; rw [if_pos w3] at this; rw [this, hck.2]⟩ hR) ⟨sm_blind _ _, sm_pre hctx hs0 hrel hS _⟩ rfl (by rw [List.length_map]; exact hal) hls hstk hWr hdg ⟨hcc, hss⟩) rfl
    intro w hw
    rcases List.mem_append.mp hw with hw | hw
    · simp only [List.mem_cons, List.not_mem_nil, or_false] at hw
      rcases hw with rfl | rfl | rfl
      · exact w1
      · exact w2
      · exact hcd.2.1
    · rcases List.mem_cons.mp hw with rfl | hw
      · exact hcd.1
      · exact hw
  | invokespecial k =>
    dsimp only at hck
    simp only [sm_isCall, decide_eq_true_eq] at hc
    rw [if_neg (by omega)] at hck
    simp only [Bool.or_eq_true, Bool.and_eq_true, decide_eq_true_eq] at hck
    have hck := hck.resolve_left (by omega)
    dsimp only [sm_ilen] at hlen
    subst hlen
    have hmain : ∀ (hcd : sm_cdP a) (hown2 : sm_cs (sm_own a) = (sm_y a).cls) (hrt : sm_rt a = none) (hk12 : sm_rk a < 12), (∀ (q : Nat) (as' : List sm_V), (st.take b).reverse = .inr (some q) :: as' → Met l (sm_y a) (sm_ws a) (sm_Rm (d - 1) (r.2.2.2.2.1 - S.2.2.2.1) (r.2.2.2.2.2 - S.2.2.2.2)) (sm_Pc G s0 ad D cI cH (.inr (some q) :: as') S) (sm_Qc G s0 ad D cI cH r) (r.2.2.2.2.1 - S.2.2.2.1) (r.2.2.2.2.2 - S.2.2.2.2) (sm_A s0) → (parseMethodDescriptor (sm_y a).desc).map (fun d => d.parameters.length) = some (b - 1) → va_Run p l e R s m args below meth c H locs cells slots (r.2.2.2.2.1 - S.2.2.2.1) (r.2.2.2.2.2 - S.2.2.2.2) (F0 m pc ls (st.map (sm_tr ad))) ((st.drop b).map (sm_tr ad)) (sm_Qc G s0 ad D cI cH r (((Sum.inr (some q) : sm_V) :: as').map (sm_tr ad)).toArray) (sm_A s0)) → W p l e R s m args below meth c H locs cells slots Q (F0 m pc ls (st.map (sm_tr ad))) := by
      intro hcd hown2 hrt hk12 hrunI
      cases has : (st.take b).reverse with
      | nil => rw [has] at h4; simp [sm_rok] at h4; omega
      | cons q0 as' =>
        have hq0 : ∃ q, q0 = .inr (some q) := by
          rw [has] at h4
          simp only [sm_rok, Bool.or_eq_true, decide_eq_true_eq] at h4
          have h4 := h4.resolve_left (by omega)
          split at h4
          · rename_i q _ heq
            cases heq
            exact ⟨q, rfl⟩
          · cases h4
        obtain ⟨q, rfl⟩ := hq0
        have hM := sm_met (l := l) (G := G) (s0 := s0) (ad := ad) (D := D) (cI := cI) (cH := cH) ih hcd hown2 (by rw [hal]; exact h3) h
        rw [has] at hM hgo
        exact hgo (hrunI q as' has hM (by have := hcd.2.2.2.2.2; rw [if_neg (by omega)] at this; rw [this, hck.2])) rfl
    have hst2 : ∀ (q : Nat) (as' : List sm_V), (st.take b).reverse = .inr (some q) :: as' → st.map (sm_tr ad) = (as'.map (sm_tr ad)).reverse ++ .ref (ad q) :: (st.drop b).map (sm_tr ad) := fun q as' e => by
      rw [hstk, e]; simp [sm_tr]
    have hln : ∀ (q : Nat) (as' : List sm_V), (st.take b).reverse = .inr (some q) :: as' → (as'.map (sm_tr ad)).length = b - 1 := fun q as' e => by
      rw [List.length_map]; have := hal; rw [e] at this; simp at this; omega
    rcases hck.1 with hmem | hmem
    · have hmem := List.contains_iff_mem.mp hmem
      obtain ⟨hcd, w1, w2, w3, w4, w5⟩ := sm_miT_ok _ hmem
      dsimp only at hcd w1 w2 w3 w4 w5
      refine hmain hcd (howns.1.2 _ hmem) w4 w5 fun q as' has hM hpd => ?_
      exact va_runI (n := b - 1) (b := ad q) (As := as'.map (sm_tr ad)) hfix hM (cwI (b - 1) hts (hgws hcd) (by rw [← w4]; rfl) rfl rfl (hts _ hcd.2.1) (hts _ w1) (hts _ w2) w3 ⟨hcd.2.2.2.1, hcd.2.2.2.2.1, hpd⟩ hR) ⟨sm_blind _ _, sm_pre hctx hs0 hrel hS (.inr (some q) :: as')⟩ rfl (hln q as' has) hls (hst2 q as' has) hWr hdg ⟨hcc, hss⟩
    · have hmem := List.contains_iff_mem.mp hmem
      obtain ⟨hcd, w1, w2, w3, w4, w5⟩ := sm_mnT_ok _ hmem
      dsimp only at hcd w1 w2 w3 w4 w5
      have hnest := hctx.2.2.2.2.1 _ hmem
      refine hmain hcd (howns.2 _ hmem) w4 w5 fun q as' has hM hpd => ?_
      exact va_runIN (n := b - 1) (b := ad q) (As := as'.map (sm_tr ad)) hfix hM ⟨va_cnB (b - 1) hts (hgws hcd) (by rw [← w4]; rfl) rfl rfl hnest (hts _ hcd.2.1) ⟨hcd.2.2.2.1, hcd.2.2.2.2.1, hpd⟩ hR, w3, hts _ w2⟩ ⟨sm_blind _ _, sm_pre hctx hs0 hrel hS (.inr (some q) :: as')⟩ rfl (hln q as' has) hls (hst2 q as' has) hWr hdg ⟨hcc, hss⟩
  | _ => cases hc
set_option maxHeartbeats 4000000 in
theorem sm_sound : ∀ f : Nat, sm_Snd f := by
  intro f
  induction f with
  | zero => intro d j pc L st S r h; cases h
  | succ f ih =>
    intro d j pc L st S r h p l e R s m args below meth c Q G s0 ad D cI cH hx hb hml hown hts hnm hctx hs0 hfr hlo ls H locs cells slots hl hrel hS hcc hss hend
    unfold sm_run at h
    split at h
    · cases h
    · rename_i len i a b v hat
      obtain ⟨hdg, hck, hrck⟩ := sm_at_ok hat
      split at h
      · rename_i hc
        split at h
        · rename_i hcond
          obtain ⟨h1, h2, h3, h4, h5⟩ := hcond
          split at h
          · cases h
          · rename_i r1 S1 hrun
            have m1 := sm_run_mono hrun
            have m2 := sm_run_mono h
            dsimp only at m1
            refine sm_callW ih hx hb hml hown hts hctx hs0 h1 hfr hlo hdg hck hc h2 h3 h4 h5 hrun hl.2.1 hrel hS (by dsimp only; omega) (by dsimp only; omega) fun H' locs' hrel' hS' => ?_
            exact ih d j (pc + len) L _ S1 r h p l e R s m args below meth c Q G s0 ad D cI cH hx hb hml hown hts hnm hctx hs0 hfr hlo ls H' locs' _ _ hl hrel' hS' (by dsimp only; omega) (by dsimp only; omega) (fun pc' ls' H2 locs2 cells' slots' i' d1 d2 d3 d4 d5 d6 => hend pc' ls' H2 locs2 cells' slots' i' d1 d2 d3 d4 (by dsimp only at d5; omega) (by dsimp only at d6; omega))
        · cases h
      · split at h
        · cases h
        · rename_i pc1 L1 st1 S1 hstep
          have m1 := sm_step_mono hstep
          have m2 := sm_run_mono h
          refine sm_stepW (o := sm_own j) (j := j) hx hb hml hown hts hnm hctx hs0 (by omega) (by omega) hdg hck hstep hl hrel hS (by omega) (by omega) fun ls' H' locs' cells' slots' hl' hrel' hS' ec es => ?_
          exact ih d j pc1 L1 st1 S1 r h p l e R s m args below meth c Q G s0 ad D cI cH hx hb hml hown hts hnm hctx hs0 hfr hlo ls' H' locs' _ _ hl' hrel' hS' (by omega) (by omega) (fun pc' ls' H2 locs2 cells' slots' i' d1 d2 d3 d4 d5 d6 => hend pc' ls' H2 locs2 cells' slots' i' d1 d2 d3 d4 (by omega) (by omega))
        · rename_i r1 hstep
          cases h
          obtain ⟨e1, he⟩ := sm_step_end hstep
          have hlen : len = sm_ilen i len := by
            unfold sm_ckI at hck
            rw [Bool.and_eq_true] at hck
            exact of_decide_eq_true hck.1
          have key : ∀ (hl1 : len = 1) (hst : st.map (sm_tr ad) = r.1.toList.map (sm_tr ad)) (hen : sm_end j i r.1), W p l e R s m args below meth c H locs cells slots Q (F0 m pc ls (st.map (sm_tr ad))) := by
            intro hl1 hst hen
            rw [hst]
            subst hl1
            exact hend pc ls H locs cells slots i hdg hen (by rw [e1]; exact hrel) hS (by rw [e1]; omega) (by rw [e1]; omega)
          rcases he with ⟨rfl, x, rfl, hr, hk⟩ | ⟨rfl, x, rfl, hr⟩ | ⟨rfl, rfl, hr⟩
          · refine key hlen (by rw [hr]; rfl) (Or.inl ⟨rfl, x, hr, ?_⟩)
            simp only [sm_rck, Bool.or_eq_true, Bool.and_eq_true, decide_eq_true_eq] at hrck
            rcases hrck with ((⟨z1, z2⟩ | ⟨z1, z2⟩) | ⟨z1, z2⟩) | ⟨z1, z2⟩
            · exact Or.inl z2
            · exact Or.inr (Or.inl ⟨z2, by omega⟩)
            · exact Or.inr (Or.inr (Or.inl ⟨z2, by omega⟩))
            · exact Or.inr (Or.inr (Or.inr ⟨z2, by omega⟩))
          · refine key hlen (by rw [hr]; rfl) (Or.inr (Or.inl ⟨rfl, x, hr, ?_⟩))
            simp only [sm_rck] at hrck
            split at hrck
            · rename_i n hn; exact Or.inl ⟨n, hn⟩
            · rename_i t ht; exact Or.inr ⟨t, ht⟩
            · cases hrck
          · refine key hlen (by rw [hr]; rfl) (Or.inr (Or.inr ⟨rfl, hr, ?_⟩))
            simpa [sm_rck] using hrck
end SMS
