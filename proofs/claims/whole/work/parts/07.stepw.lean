section SMW
variable {p : Program} {l : Launch} {e : Env} {R : Room} {s : State} {m : MethodId} {args : Array Value} {below : List Frame} {meth : Method} {c : Code} {Q : State → Prop}
variable {cc : ByteArray} {G : sm_G} {s0 : Nat} {ad : Nat → Nat} {D : va_G} {cI cH : ClassId} {nL o j : Nat}
theorem sm_obj {S : sm_S} {H : Heap} (hrel : sm_rel G s0 ad D cI cH S H) {q a : Nat} (hk : (S.2.2.1 q).1 = a) (ha : a < 12) : q < S.2.2.2.1 ∧ q < 1000000 ∧ ∃ r : vw_C, vwCl[a]? = some r ∧ t_OB (ad q) (D.1 a) r.2.2 (D.2 a) H (fun k => sm_tr ad (sm_fv S a q k)) := by
  have hq := hrel.lt (q := q) (by omega)
  have h := (hrel.2.2.2.2 q hq).1.1 (by omega)
  rw [hk] at h
  exact ⟨h.1, hq, h.2⟩
theorem sm_row {S : sm_S} {H : Heap} (hrel : sm_rel G s0 ad D cI cH S H) {q : Nat} (hk : (S.2.2.1 q).1 = 100) : q < S.2.2.2.1 ∧ q < 1000000 ∧ H[ad q]? = some (arrV cI (S.2.2.1 q).2 (fun j => .int (zI (S.1 q j)))) := by
  have hq := hrel.lt (q := q) (by omega)
  have h := (hrel.2.2.2.2 q hq).1.2.1 hk
  exact ⟨h.1, hq, h.2⟩
theorem sm_rrow {S : sm_S} {H : Heap} (hrel : sm_rel G s0 ad D cI cH S H) {q : Nat} (hk : (S.2.2.1 q).1 = 101) : q < S.2.2.2.1 ∧ q < 1000000 ∧ H[ad q]? = some (arrV cH (S.2.2.1 q).2 (fun j => sm_tr ad (.inr (S.2.1 q j)))) := by
  have hq := hrel.lt (q := q) (by omega)
  have h := (hrel.2.2.2.2 q hq).1.2.2 hk
  exact ⟨h.1, hq, h.2⟩
theorem sm_con {S : sm_S} {H : Heap} (hrel : sm_rel G s0 ad D cI cH S H) {q k : Nat} (hk : (S.2.2.1 q).1 = k) (h2 : k = 102 ∨ k = 103 ∨ k = 104) : 1000000 ≤ q ∧ S.1 q = G.1 q ∧ S.2.1 q = G.2.1 q ∧ S.2.2.1 q = G.2.2 q := by
  rcases Nat.lt_or_ge q 1000000 with z | z
  · have := (hrel.2.2.2.2 q z).2
    omega
  · have := hrel.2.2.2.1 q z
    exact ⟨z, this.1, this.2.1, this.2.2.1⟩
theorem sm_set_row {S : sm_S} {H H' : Heap} (hrel : sm_rel G s0 ad D cI cH S H) {q k : Nat} {x : Int} (hk : (S.2.2.1 q).1 = 100) (e1 : H'[ad q]? = some ((arrV cI (S.2.2.1 q).2 (fun j => .int (zI (S.1 q j)))).setSlot k (.int (zI x)))) (z1 : H'.size = H.size) (o1 : ∀ x, x ≠ ad q → H'[x]? = H[x]?) : sm_rel G s0 ad D cI cH (sm_u S.1 q k x, S.2) H' := by
  obtain ⟨h1, h2, h3⟩ := sm_row hrel hk
  refine hrel.upd h1 rfl (fun b hb => ⟨?_, rfl⟩) z1 o1 ⟨fun z => ?_, fun _ => ⟨h1, ?_⟩, fun z => ?_⟩
  · funext i
    simp [sm_u, hb]
  · exact absurd z (by show ¬ (S.2.2.1 q).1 < 12; omega)
  · rw [e1, arrV_store]
    congr 2
    funext i
    by_cases hi : i = k
    · subst hi; simp [updV, sm_u]
    · simp [updV, sm_u, hi]
  · exact absurd z (by show ¬ (S.2.2.1 q).1 = 101; omega)
theorem sm_set_rrow {S : sm_S} {H H' : Heap} (hrel : sm_rel G s0 ad D cI cH S H) {q k : Nat} {x : Nat} (hk : (S.2.2.1 q).1 = 101) (e1 : H'[ad q]? = some ((arrV cH (S.2.2.1 q).2 (fun j => sm_tr ad (.inr (S.2.1 q j)))).setSlot k (.ref (ad x)))) (z1 : H'.size = H.size) (o1 : ∀ x, x ≠ ad q → H'[x]? = H[x]?) : sm_rel G s0 ad D cI cH (S.1, sm_u S.2.1 q k (some x), S.2.2) H' := by
  obtain ⟨h1, h2, h3⟩ := sm_rrow hrel hk
  refine hrel.upd h1 rfl (fun b hb => ⟨rfl, ?_⟩) z1 o1 ⟨fun z => ?_, fun z => ?_, fun _ => ⟨h1, ?_⟩⟩
  · funext i
    simp [sm_u, hb]
  · exact absurd z (by show ¬ (S.2.2.1 q).1 < 12; omega)
  · exact absurd z (by show ¬ (S.2.2.1 q).1 = 100; omega)
  · rw [e1, arrV_store]
    congr 2
    funext i
    by_cases hi : i = k
    · subst hi; simp [updV, sm_u, sm_tr]
    · simp [updV, sm_u, hi]
theorem sm_set_obj {S S' : sm_S} {H H' : Heap} (hrel : sm_rel G s0 ad D cI cH S H) {q a k : Nat} {v : sm_V} {r : vw_C} (hk : (S.2.2.1 q).1 = a) (ha : a < 12) (hr : vwCl[a]? = some r) {cell : Cell} (g1 : H[ad q]? = some cell) (g2 : cell.cls = D.1 a) (g3 : cell.vm = .none) (g4 : ∀ j, j < r.2.2 → cell.slots[(D.2 a) j]? = some (sm_tr ad (sm_fv S a q j))) (hap : ∀ x y, x < r.2.2 → y < r.2.2 → x ≠ y → (D.2 a) x ≠ (D.2 a) y) (hkr : k < r.2.2)
    (hS' : S'.2.2 = S.2.2) (hb : ∀ b, b ≠ q → S'.1 b = S.1 b ∧ S'.2.1 b = S.2.1 b) (hv : ∀ j, sm_fv S' a q j = if j = k then v else sm_fv S a q j)
    (e1 : H'[ad q]? = some (cell.setSlot ((D.2 a) k) (sm_tr ad v))) (z1 : H'.size = H.size) (o1 : ∀ x, x ≠ ad q → H'[x]? = H[x]?) : sm_rel G s0 ad D cI cH S' H' := by
  obtain ⟨h1, -, -⟩ := sm_obj hrel hk ha
  refine hrel.upd h1 hS' hb z1 o1 ⟨fun _ => ⟨by rw [hS']; exact h1, r, ?_, ?_⟩, fun z => ?_, fun z => ?_⟩
  · rw [hS', hk]; exact hr
  · rw [hS', hk]
    refine t_OB.to (V := updV (fun j => sm_tr ad (sm_fv S a q j)) k (sm_tr ad v)) ⟨_, e1, g2, g3, t_set g4 hap hkr _⟩ (fun j _ => ?_)
    rw [hv]
    by_cases hj : j = k
    · simp [updV, hj]
    · simp [updV, hj]
  · exact absurd z (by rw [hS']; omega)
  · exact absurd z (by rw [hS']; omega)
set_option maxHeartbeats 4000000 in
theorem sm_putW (hx : p.tables.exec = Jvm.exec) (hb : c.code = cc) (hown : s.vm.findClass (sm_cs o) = some m.cls) (hts : ∀ w ∈ sm_wds, w.before args s = true) (hnm : meth.name = (sm_y j).name)
    (hctx : sm_ctx G s0 ad D cI cH s) {pc k a b q : Nat} {v : sm_V} {r : List sm_V} (hdg : decode cc pc = .ok (.putfield k, 3)) (hck : (sm_flT.contains (o, k, a, b) && (!(sm_fin a b) || (decide ((sm_y j).name = "<init>") && decide (o = a)))) = true)
    {S S' : sm_S} (hk : (S.2.2.1 q).1 = a) (hv : (sm_ft a b = 0 ∧ ∃ x, v = .inl x) ∨ (sm_ft a b = 1 ∧ ∃ x, v = .inr x) ∨ (sm_ft a b = 2 ∧ ∃ x, v = .inl x ∧ (wr x = 0 ∨ wr x = 1)))
    (hS' : S'.2.2 = S.2.2) (hbb : ∀ b, b ≠ q → S'.1 b = S.1 b ∧ S'.2.1 b = S.2.1 b) (hvv : ∀ i, sm_fv S' a q i = if i = b then v else sm_fv S a q i)
    {ls : Array Slot} {H : Heap} {locs : List Loc} {cells slots : Nat} (hrel : sm_rel G s0 ad D cI cH S H) (hS : va_S (sm_A s0) s.heap H locs)
    (kk : ∀ (H' : Heap) (locs' : List Loc), sm_rel G s0 ad D cI cH S' H' → va_S (sm_A s0) s.heap H' locs' → W p l e R s m args below meth c H' locs' cells slots Q (F0 m (pc + 3) ls (r.map (sm_tr ad)))) :
    W p l e R s m args below meth c H locs cells slots Q (F0 m pc ls (sm_tr ad v :: .ref (ad q) :: r.map (sm_tr ad))) := by
  rw [Bool.and_eq_true] at hck
  obtain ⟨C, T, N, z1, z2, z3, z4⟩ := sm_flT_ok _ (List.contains_iff_mem.mp hck.1)
  dsimp only at z1 z2 z3 z4
  have ha12 : a < 12 := by
    rcases Nat.lt_or_ge a 12 with z | z
    · exact z
    · rw [List.getElem?_eq_none (by exact z)] at z1
      cases z1
  obtain ⟨g1, g2, r', g3, cell, g4, g5, g6, g7⟩ := sm_obj hrel hk ha12
  rw [z1] at g3
  cases g3
  obtain ⟨c1, c2, c3, c4, c5, c6, c7, c8, c9, c10⟩ := sm_cl_ok a _ z1
  obtain ⟨hSl, hfc, kC, hkC, hkind⟩ := hctx.1 a _ z1
  have hap : ∀ x y, x < N → y < N → x ≠ y → (D.2 a) x ≠ (D.2 a) y := by
    intro x y hx hy hne
    obtain ⟨_, _, _, fa, hia, ea⟩ := hSl x hx
    obtain ⟨_, _, _, fb, hib, eb⟩ := hSl y hy
    rw [← ea, ← eb]
    refine u_apart (u_lays hts c3 hx) (u_lays hts c3 hy) hia hib ?_
    rw [(State.fieldFound?_type hia (c1 x hx)).1, (State.fieldFound?_type hib (c1 y hy)).1]
    exact c2 x hx y hy hne
  obtain ⟨cf, kf, fi, f, hi, hsl⟩ := hSl b z2
  have hlay := hts _ (c3 _ (u_in_lay z2))
  have hst := (u_facts hfc hkC (u_lays hts c3 z2) hi).1
  have hd := c1 b z2
  have hnf : narrow (sm_ty a b) (sm_tr ad v) = sm_tr ad v ∧ fits (sm_ty a b) (sm_tr ad v) = true := by
    rcases hv with ⟨y1, x, rfl⟩ | ⟨y1, x, rfl⟩ | ⟨y1, x, rfl, y2⟩
    · rw [c5 b z2 y1]; exact ⟨rfl, rfl⟩
    · have hr := c7 b z2 y1
      cases hty : sm_ty a b <;> rw [hty] at hr <;> first | (cases hr; done) | (cases x <;> exact ⟨rfl, rfl⟩)
    · rw [c6 b z2 y1]
      have hz : zI x = 0 ∨ zI x = 1 := by
        rcases y2 with y2 | y2
        · exact Or.inl ((zI_eq0 x).mpr y2)
        · exact Or.inr ((zI_eq x 1).mpr y2)
      rcases hz with hz | hz <;> (show narrow .boolean (.int (zI x)) = .int (zI x) ∧ fits .boolean (.int (zI x)) = true) <;> rw [hz] <;> exact ⟨by decide, by decide⟩
  have hA : sm_A s0 (ad q) := by rw [hrel.2.2.1 q g2]; exact Nat.le_add_right _ _
  have hi2 : s.fieldFound? C (T b).2.1 (T b).2.2.1 = some (cf, kf, fi, f) := by rw [z3] at hi; exact hi
  have hfinE : sm_fin a b = (T b).2.2.2 := by unfold sm_fin; rw [z1]
  unfold u_lay at hlay
  by_cases hfin : (T b).2.2.2 = true
  · rw [hfinE, hfin] at hck
    simp only [Bool.not_true, Bool.false_or, Bool.and_eq_true, decide_eq_true_eq] at hck
    rw [if_pos hfin] at hlay
    have hcf : m.cls = cf := by
      obtain ⟨_, _, c', _, _, _, -, -, hf', -, -, -, hown2, -⟩ := Cond.laysFinal_spec hlay
      have e1 : c' = cf := by have := hi.symm.trans hf'; simp at this; exact this.1.symm
      rw [z3] at hown2
      have c9' : C = sm_cs a := c9
      rw [c9', ← hck.2.2] at hown2
      rw [← e1]; exact Option.some.inj (hown.symm.trans hown2)
    have h6 := u_fits hfc hkC hkind (Or.inr hlay) hi hd hnf.1 hnf.2
    refine W.putFinK hx hb hown (hts _ z4) hi2 hst hcf (hnm.trans hck.2.1) (by rw [g5]; exact h6) g4 g6 (by rw [hsl]; exact k2_hasslot (g7 b z2)) rfl rfl hdg fun H' e1 e2 e3 => ?_
    rw [hsl] at e1 ⊢
    exact kk H' _ (sm_set_obj hrel hk ha12 z1 g4 g5 g6 g7 hap z2 hS' hbb hvv e1 e2 e3) (hS.put e2 e3 hA)
  · rw [if_neg hfin] at hlay
    have h6 := u_store hfc hkC hkind hlay hi hd hnf.1 hnf.2
    refine W.putK hx hb (f := f) ⟨hown, hts _ z4, ⟨_, _, _, hi2⟩, hst⟩ (by rw [g5]; exact h6) g4 g6 (by rw [hsl]; exact k2_hasslot (g7 b z2)) rfl rfl hdg fun H' e1 e2 e3 => ?_
    rw [hsl] at e1 ⊢
    exact kk H' _ (sm_set_obj hrel hk ha12 z1 g4 g5 g6 g7 hap z2 hS' hbb hvv e1 e2 e3) (hS.put e2 e3 hA)
theorem sm_nfw : nativeFrameWords "java/lang/System" "arraycopy" 5 + 11 ≤ 50 := by decide +kernel
set_option maxHeartbeats 4000000 in
theorem sm_copyW (hx : p.tables.exec = Jvm.exec) (hb : c.code = cc) (hml : c.maxLocals = nL) (hown : s.vm.findClass (sm_cs o) = some m.cls) (hts : ∀ w ∈ sm_wds, w.before args s = true)
    (hctx : sm_ctx G s0 ad D cI cH s) (hfr : 1 ≤ R.frames) (hlo : 64 ≤ R.locals) {pc k p1 q : Nat} {sp dp n : Int} {r : List sm_V} (hdg : decode cc pc = .ok (.invokestatic k, 3)) (hck : (o, k) ∈ sm_acT) (hr : r.length ≤ 8)
    {S : sm_S} (hp : (S.2.2.1 p1).1 = 100) (hq : (S.2.2.1 q).1 = 100) (h1 : 0 ≤ wr sp) (h2 : 0 ≤ wr dp) (h3 : 0 ≤ wr n) (h4 : wr sp + wr n ≤ ((S.2.2.1 p1).2 : Int)) (h5 : wr dp + wr n ≤ ((S.2.2.1 q).2 : Int))
    {ls : Array Slot} {H : Heap} {locs : List Loc} {cells slots : Nat} (hls : ls.size = nL) (hrel : sm_rel G s0 ad D cI cH S H) (hS : va_S (sm_A s0) s.heap H locs)
    (kk : ∀ (H' : Heap) (locs' : List Loc), sm_rel G s0 ad D cI cH (sm_r S.1 q (fun k => if (wr dp).toNat ≤ k ∧ k < (wr dp).toNat + (wr n).toNat then S.1 p1 ((wr sp).toNat + (k - (wr dp).toNat)) else S.1 q k), S.2) H' → va_S (sm_A s0) s.heap H' locs' → W p l e R s m args below meth c H' locs' cells slots Q (F0 m (pc + 3) ls (r.map (sm_tr ad)))) :
    W p l e R s m args below meth c H locs cells slots Q (F0 m pc ls (.int (zI n) :: .int (zI dp) :: .ref (ad q) :: .int (zI sp) :: .ref (ad p1) :: r.map (sm_tr ad))) := by
  obtain ⟨a1, a2, a3⟩ := sm_row hrel hp
  obtain ⟨b1, b2, b3⟩ := sm_row hrel hq
  intro T hT X
  obtain ⟨-, k0, hk0, cm0, hkk0⟩ := hctx.2.1.1 (S.2.2.1 p1).2 (fun j => .int (zI (S.1 p1 j)))
  obtain ⟨-, k1, hk1, cm1, hkk1⟩ := hctx.2.1.1 (S.2.2.1 q).2 (fun j => .int (zI (S.1 q j)))
  obtain ⟨vm', X', step⟩ := X.arraycopy hx hown (hts _ (sm_acT_ok _ hck)) (hts _ sm_w_ac1) (hts _ sm_w_ac2) (hts _ sm_w_ac3) (src := ad p1) (dst := ad q) (cs := arrV cI (S.2.2.1 p1).2 (fun j => .int (zI (S.1 p1 j)))) (cd := arrV cI (S.2.2.1 q).2 (fun j => .int (zI (S.1 q j)))) (srcPos := zI sp) (destPos := zI dp) (n := zI n) (by rw [hT]; exact a3) (by rw [hT]; exact b3)
    (fun _ h => by cases h) (fun _ h => by cases h) (fun h => by cases h) (fun h => by cases h) hk0 hk1 hkk0 hkk1 (by simp) (by rw [zI_lt0]; omega) (by rw [zI_lt0]; omega) (by rw [zI_lt0]; omega)
    (by rw [wr_eq, wr_eq, arrV_size]; omega)
    (by rw [wr_eq, wr_eq, arrV_size]; omega)
    (fun vm₁ _ i hi => by
      rw [zI_clamp] at hi
      have e : (arrV cI (S.2.2.1 p1).2 (fun j => .int (zI (S.1 p1 j)))).slots.getD ((zI sp).toNatClampNeg + i) .null = .int (zI (S.1 p1 ((zI sp).toNatClampNeg + i))) := by
        rw [Array.getD_eq_getD_getElem?, arrV_read _ _ (by rw [zI_clamp]; omega)]
        rfl
      refine ⟨?_, ?_⟩
      · rw [e]
        rfl
      · rw [e]
        exact trivial)
    (g := F0 m pc ls (.int (zI n) :: .int (zI dp) :: .ref (ad q) :: .int (zI sp) :: .ref (ad p1) :: r.map (sm_tr ad))) rfl (by rw [hml]; exact hls) (rest := r.map (sm_tr ad)) rfl (by rw [hb]; exact hdg) hfr (by show 2 * 0 + _ + _ ≤ _; rw [sm_cats]; exact Nat.le_trans (Nat.add_le_add_left sm_nfw _) (by omega))
  have e1 : copied (arrV cI (S.2.2.1 p1).2 (fun j => .int (zI (S.1 p1 j)))) (arrV cI (S.2.2.1 q).2 (fun j => .int (zI (S.1 q j)))) (zI sp) (zI dp) (zI n) = arrV cI (S.2.2.1 q).2 (fun j => .int (zI (va_cpy (S.1 p1) (S.1 q) (wr sp).toNat (wr dp).toNat (wr n).toNat j))) := va_copied (fun z => .int (zI z)) cI cI (S.1 p1) (S.1 q) (show (wr sp).toNat + (wr n).toNat ≤ (S.2.2.1 p1).2 by omega)
  rw [e1] at X' step
  have hl : ad q < H.size := (Array.getElem?_eq_some_iff.mp b3).1
  have hheap : ((T.setVm vm').setCell (ad q) (arrV cI (S.2.2.1 q).2 (fun j => .int (zI (va_cpy (S.1 p1) (S.1 q) (wr sp).toNat (wr dp).toNat (wr n).toNat j))))).heap = H.setIfInBounds (ad q) (arrV cI (S.2.2.1 q).2 (fun j => .int (zI (va_cpy (S.1 p1) (S.1 q) (wr sp).toNat (wr dp).toNat (wr n).toNat j)))) := by rw [← hT]; rfl
  have oq : ∀ x : Nat, x ≠ ad q → (H.setIfInBounds (ad q) (arrV cI (S.2.2.1 q).2 (fun j => .int (zI (va_cpy (S.1 p1) (S.1 q) (wr sp).toNat (wr dp).toNat (wr n).toNat j)))))[x]? = H[x]? := fun x hx => by simp [Array.getElem?_setIfInBounds, Ne.symm hx]
  have hA : sm_A s0 (ad q) := by rw [hrel.2.2.1 q b2]; exact Nat.le_add_right _ _
  have hnew : (H.setIfInBounds (ad q) (arrV cI (S.2.2.1 q).2 (fun j => .int (zI (va_cpy (S.1 p1) (S.1 q) (wr sp).toNat (wr dp).toNat (wr n).toNat j)))))[ad q]? = some (arrV cI (S.2.2.1 q).2 (fun j => .int (zI (sm_r S.1 q (fun k => if (wr dp).toNat ≤ k ∧ k < (wr dp).toNat + (wr n).toNat then S.1 p1 ((wr sp).toNat + (k - (wr dp).toNat)) else S.1 q k) q j)))) := by
    rw [Array.getElem?_setIfInBounds, if_pos rfl, if_pos hl]
    congr 2
    funext i
    simp only [sm_r, if_true, va_cpy]
  obtain ⟨t, c1, d1⟩ := kk _ _ (hrel.upd (S' := (sm_r S.1 q (fun k => if (wr dp).toNat ≤ k ∧ k < (wr dp).toNat + (wr n).toNat then S.1 p1 ((wr sp).toNat + (k - (wr dp).toNat)) else S.1 q k), S.2)) b1 rfl (fun b hb => ⟨by funext i; simp [sm_r, hb], rfl⟩) (by simp) oq ⟨fun z => absurd z (by show ¬ (S.2.2.1 q).1 < 12; omega), fun _ => ⟨b1, hnew⟩, fun z => absurd z (by show ¬ (S.2.2.1 q).1 = 101; omega)⟩) ⟨by simp; exact hS.1, fun x g1 g2 => by
      rw [oq x (fun e => g2 (by rw [e]; exact hA))]
      exact hS.2.1 x g1 g2, fun x hq => by
      rcases List.mem_append.mp hq with h | h
      · exact hS.2.2 x h
      · obtain ⟨z, -, hz⟩ := List.mem_map.mp h
        rw [← hz]
        exact hA⟩ _ hheap X'
  exact ⟨t, step t c1, d1⟩
end SMW
