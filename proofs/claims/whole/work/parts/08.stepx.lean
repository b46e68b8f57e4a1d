section SMX
variable {p : Program} {l : Launch} {e : Env} {R : Room} {s : State} {m : MethodId} {args : Array Value} {below : List Frame} {meth : Method} {c : Code} {Q : State → Prop}
variable {cc : ByteArray} {G : sm_G} {s0 : Nat} {ad : Nat → Nat} {D : va_G} {cI cH : ClassId} {nL o j : Nat}
set_option maxHeartbeats 4000000 in
set_option maxRecDepth 100000 in
theorem sm_stepW (hx : p.tables.exec = Jvm.exec) (hb : c.code = cc) (hml : c.maxLocals = nL) (hown : s.vm.findClass (sm_cs o) = some m.cls) (hts : ∀ w ∈ sm_wds, w.before args s = true) (hnm : meth.name = (sm_y j).name)
    (hctx : sm_ctx G s0 ad D cI cH s) (hs0 : s0 ≤ s.heap.size) (hfr : 1 ≤ R.frames) (hlo : 64 ≤ R.locals) {pc len : Nat} {i : Instr} {a b : Nat} {v : Int} (hdg : decode cc pc = .ok (i, len)) (hck : sm_ckI o j pc len i a b v = true)
    {L L' : sm_L} {st st' : List sm_V} {S S' : sm_S} {pc' : Nat} (h : sm_step pc len i a b v L st S = some (.inl (pc', L', st', S')))
    {ls : Array Slot} {H : Heap} {locs : List Loc} {cells slots : Nat} (hl : sm_lh ad ls nL L) (hrel : sm_rel G s0 ad D cI cH S H) (hS : va_S (sm_A s0) s.heap H locs) (hcc : cells + (S'.2.2.2.1 - S.2.2.2.1) ≤ R.cells) (hss : slots + (S'.2.2.2.2 - S.2.2.2.2) ≤ R.slots)
    (kk : ∀ (ls' : Array Slot) (H' : Heap) (locs' : List Loc) (cells' slots' : Nat), sm_lh ad ls' nL L' → sm_rel G s0 ad D cI cH S' H' → va_S (sm_A s0) s.heap H' locs' → cells' = cells + (S'.2.2.2.1 - S.2.2.2.1) → slots' = slots + (S'.2.2.2.2 - S.2.2.2.2) → W p l e R s m args below meth c H' locs' cells' slots' Q (F0 m pc' ls' (st'.map (sm_tr ad)))) :
    W p l e R s m args below meth c H locs cells slots Q (F0 m pc ls (st.map (sm_tr ad))) := by
  have hlen : len = sm_ilen i len := by
    unfold sm_ckI at hck
    rw [Bool.and_eq_true] at hck
    exact of_decide_eq_true hck.1
  replace hck := (Bool.and_eq_true _ _ ▸ (show (decide (len = sm_ilen i len) && _) = true from hck)).2
  have k0 : S' = S → L' = L → W p l e R s m args below meth c H locs cells slots Q (F0 m pc' ls (st'.map (sm_tr ad))) := fun h1 h2 => kk ls H locs cells slots (h2 ▸ hl) (h1 ▸ hrel) hS (by rw [h1]; omega) (by rw [h1]; omega)
  have hlv : lv_has ls nL (sm_lv ad L) := hl.2
  cases i with
  | iconst x =>
    cases h
    dsimp only [sm_ilen] at hlen
    subst hlen
    exact lv_iconst hx hb hdg rfl (k0 rfl rfl)
  | bipush x =>
    cases h
    dsimp only [sm_ilen] at hlen
    subst hlen
    exact lv_bipush hx hb hdg (of_decide_eq_true hck) (k0 rfl rfl)
  | sipush x =>
    cases h
    dsimp only [sm_ilen] at hlen
    subst hlen
    exact lv_sipush hx hb hdg (of_decide_eq_true hck) (k0 rfl rfl)
  | aconst_null =>
    cases h
    dsimp only [sm_ilen] at hlen
    subst hlen
    exact lv_null hx hb hdg (k0 rfl rfl)
  | iload_n k =>
    simp only [sm_step] at h
    split at h
    · rename_i x hk
      cases h
      dsimp only [sm_ilen] at hlen
      subst hlen
      exact lv_iload_n hx hb hdg rfl (hl.get hk) (k0 rfl rfl)
    · cases h
  | iload k =>
    simp only [sm_step] at h
    split at h
    · rename_i x hk
      cases h
      dsimp only [sm_ilen] at hlen
      subst hlen
      exact lv_iload hx hb hdg (hl.get hk) (k0 rfl rfl)
    · cases h
  | aload_n k =>
    simp only [sm_step] at h
    split at h
    · rename_i x hk
      cases h
      dsimp only [sm_ilen] at hlen
      subst hlen
      cases x with
      | none => exact lv_aload_nN hx hb hdg rfl (hl.get hk) (k0 rfl rfl)
      | some x => exact lv_aload_n hx hb hdg rfl (hl.get hk) (k0 rfl rfl)
    · cases h
  | aload k =>
    simp only [sm_step] at h
    split at h
    · rename_i x hk
      cases h
      dsimp only [sm_ilen] at hlen
      subst hlen
      cases x with
      | none => exact lv_aloadN hx hb hdg (hl.get hk) (k0 rfl rfl)
      | some x => exact lv_aload hx hb hdg (hl.get hk) (k0 rfl rfl)
    · cases h
  | istore_n k =>
    simp only [sm_step] at h
    split at h
    · split at h
      · rename_i x r hk
        cases h
        dsimp only [sm_ilen] at hlen
        subst hlen
        exact lv_istore_n hx hb hdg rfl hlv (by rw [← hl.1]; exact hk) rfl (fun ls' h' => kk ls' H locs cells slots (sm_lh.set (v := .inl x) hl.1 hk h') hrel hS (by omega) (by omega))
      · cases h
    · cases h
  | istore k =>
    simp only [sm_step] at h
    split at h
    · split at h
      · rename_i x r hk
        cases h
        dsimp only [sm_ilen] at hlen
        subst hlen
        exact lv_istore hx hb hdg hlv (by rw [← hl.1]; exact hk) rfl (fun ls' h' => kk ls' H locs cells slots (sm_lh.set (v := .inl x) hl.1 hk h') hrel hS (by omega) (by omega))
      · cases h
    · cases h
  | astore_n k =>
    simp only [sm_step] at h
    split at h
    · split at h
      · rename_i x r hk
        cases h
        dsimp only [sm_ilen] at hlen
        subst hlen
        cases x with
        | none => exact lv_astore_nN hx hb hdg rfl hlv (by rw [← hl.1]; exact hk) rfl (fun ls' h' => kk ls' H locs cells slots (sm_lh.set (v := .inr none) hl.1 hk h') hrel hS (by omega) (by omega))
        | some x => exact lv_astore_n hx hb hdg rfl hlv (by rw [← hl.1]; exact hk) rfl (fun ls' h' => kk ls' H locs cells slots (sm_lh.set (v := .inr (some x)) hl.1 hk h') hrel hS (by omega) (by omega))
      · cases h
    · cases h
  | astore k =>
    simp only [sm_step] at h
    split at h
    · split at h
      · rename_i x r hk
        cases h
        dsimp only [sm_ilen] at hlen
        subst hlen
        cases x with
        | none => exact lv_astoreN hx hb hdg hlv (by rw [← hl.1]; exact hk) rfl (fun ls' h' => kk ls' H locs cells slots (sm_lh.set (v := .inr none) hl.1 hk h') hrel hS (by omega) (by omega))
        | some x => exact lv_astore hx hb hdg hlv (by rw [← hl.1]; exact hk) rfl (fun ls' h' => kk ls' H locs cells slots (sm_lh.set (v := .inr (some x)) hl.1 hk h') hrel hS (by omega) (by omega))
      · cases h
    · cases h
  | iinc k n =>
    simp only [sm_step] at h
    split at h
    · split at h
      · rename_i x hk hlt
        cases h
        dsimp only [sm_ilen] at hlen
        subst hlen
        obtain ⟨w, hw⟩ := List.getElem?_of_mem (sm_lv_mem (ad := ad) (q := (k, sm_tr ad (.inl x))) |>.mpr ⟨_, hk, rfl⟩)
        exact lv_iinc (v := zI (x + n)) (x := zI x) (k := w) hx hb hdg hlv hw (by rw [zI_add]; rfl) (by rw [← hl.1]; exact hlt) rfl (fun ls' h' => kk ls' H locs cells slots (sm_lh.set (v := .inl (x + n)) hl.1 hlt h') hrel hS (by omega) (by omega))
      · cases h
    · cases h
  | iadd =>
    simp only [sm_step] at h
    split at h
    · rename_i y x r
      cases h
      dsimp only [sm_ilen] at hlen
      subst hlen
      exact lv_iadd hx hb hdg (W.eq (by rw [← zI_add]; rfl) (k0 rfl rfl))
    · cases h
  | isub =>
    simp only [sm_step] at h
    split at h
    · rename_i y x r
      cases h
      dsimp only [sm_ilen] at hlen
      subst hlen
      exact lv_isub hx hb hdg (W.eq (by rw [← zI_sub]; rfl) (k0 rfl rfl))
    · cases h
  | imul =>
    simp only [sm_step] at h
    split at h
    · rename_i y x r
      cases h
      dsimp only [sm_ilen] at hlen
      subst hlen
      exact lv_imul hx hb hdg (W.eq (by rw [← zI_mul]; rfl) (k0 rfl rfl))
    · cases h
  | idiv =>
    simp only [sm_step] at h
    split at h
    · split at h
      · cases h
      · rename_i y x r hy
        cases h
        dsimp only [sm_ilen] at hlen
        subst hlen
        exact lv_idiv hx hb hdg (fun z => hy ((zI_eq0 y).mp z)) (W.eq (by rw [← zI_of (zI x / zI y)]; rfl) (k0 rfl rfl))
    · cases h
  | irem =>
    simp only [sm_step] at h
    split at h
    · split at h
      · cases h
      · rename_i y x r hy
        cases h
        dsimp only [sm_ilen] at hlen
        subst hlen
        exact lv_irem hx hb hdg (fun z => hy ((zI_eq0 y).mp z)) (W.eq (by rw [← zI_of (zI x - zI x / zI y * zI y)]; rfl) (k0 rfl rfl))
    · cases h
  | iand =>
    simp only [sm_step] at h
    split at h
    · rename_i y x r
      cases h
      dsimp only [sm_ilen] at hlen
      subst hlen
      exact lv_iand hx hb hdg (W.eq (by rw [← zI_of (zI x &&& zI y)]; rfl) (k0 rfl rfl))
    · cases h
  | ior =>
    simp only [sm_step] at h
    split at h
    · rename_i y x r
      cases h
      dsimp only [sm_ilen] at hlen
      subst hlen
      exact lv_ior hx hb hdg (W.eq (by rw [← zI_of (zI x ||| zI y)]; rfl) (k0 rfl rfl))
    · cases h
  | ishl =>
    simp only [sm_step] at h
    split at h
    · rename_i y x r
      cases h
      dsimp only [sm_ilen] at hlen
      subst hlen
      exact lv_ishl hx hb hdg (W.eq (by rw [← zI_of (zI x <<< (zI y &&& 31))]; rfl) (k0 rfl rfl))
    · cases h
  | ishr =>
    simp only [sm_step] at h
    split at h
    · rename_i y x r
      cases h
      dsimp only [sm_ilen] at hlen
      subst hlen
      exact lv_ishr hx hb hdg (W.eq (by rw [← zI_of (zI x >>> (zI y &&& 31))]; rfl) (k0 rfl rfl))
    · cases h
  | iushr =>
    simp only [sm_step] at h
    split at h
    · rename_i y x r
      cases h
      dsimp only [sm_ilen] at hlen
      subst hlen
      exact lv_iushr hx hb hdg (zI_of _).symm (k0 rfl rfl)
    · cases h
  | ineg =>
    simp only [sm_step] at h
    split at h
    · rename_i x r
      cases h
      dsimp only [sm_ilen] at hlen
      subst hlen
      exact lv_ineg hx hb hdg (W.eq (by rw [← zI_neg]; rfl) (k0 rfl rfl))
    · cases h
  | i2c =>
    simp only [sm_step] at h
    split at h
    · rename_i x r
      cases h
      dsimp only [sm_ilen] at hlen
      subst hlen
      exact lv_i2c hx hb hdg (zI_of _).symm (k0 rfl rfl)
    · cases h
  | goto x =>
    cases h
    dsimp only [sm_ilen] at hlen
    subst hlen
    exact lv_goto hx hb hdg (sm_tgt (of_decide_eq_true hck)) (k0 rfl rfl)
  | ifnonnull x =>
    have ht := sm_tgt (of_decide_eq_true hck)
    simp only [sm_step] at h
    split at h
    · cases h
      dsimp only [sm_ilen] at hlen
      subst hlen
      exact lv_ifnonnullN hx hb hdg (k0 rfl rfl)
    · cases h
      dsimp only [sm_ilen] at hlen
      subst hlen
      exact lv_ifnonnull hx hb hdg ht (k0 rfl rfl)
    · cases h
  | ifCond cd x =>
    have ht := sm_tgt (of_decide_eq_true hck)
    simp only [sm_step] at h
    split at h
    · rename_i y r
      injection h with h
      injection h with h
      injection h with h1 h2
      injection h2 with h2 h3
      injection h3 with h3 h4
      subst h2; subst h3; subst h4
      dsimp only [sm_ilen] at hlen
      subst hlen
      subst h1
      have k0 := k0 rfl rfl
      cases cd with
      | eq => exact lv_if_eq hx hb hdg ht (fun z => by rw [if_pos (show sm_cmp .eq (wr y) 0 = true from decide_eq_true ((zI_eq0 y).mp z))] at k0; exact k0) (fun z => by rw [if_neg (show ¬ sm_cmp .eq (wr y) 0 = true from fun q => z ((zI_eq0 y).mpr (of_decide_eq_true q)))] at k0; exact k0)
      | ne => exact lv_if_ne hx hb hdg ht (fun z => by rw [if_pos (show sm_cmp .ne (wr y) 0 = true from decide_eq_true (fun q => z ((zI_eq0 y).mpr q)))] at k0; exact k0) (fun z => by rw [if_neg (show ¬ sm_cmp .ne (wr y) 0 = true from fun q => (of_decide_eq_true q) ((zI_eq0 y).mp z))] at k0; exact k0)
      | lt => exact lv_if_lt hx hb hdg ht (fun z => by rw [if_pos (show sm_cmp .lt (wr y) 0 = true from decide_eq_true ((zI_lt0 y).mp z))] at k0; exact k0) (fun z => by rw [if_neg (show ¬ sm_cmp .lt (wr y) 0 = true from fun q => z ((zI_lt0 y).mpr (of_decide_eq_true q)))] at k0; exact k0)
      | ge => exact lv_if_ge hx hb hdg ht (fun z => by rw [if_pos (show sm_cmp .ge (wr y) 0 = true from decide_eq_true ((zI_ge0 y).mp z))] at k0; exact k0) (fun z => by rw [if_neg (show ¬ sm_cmp .ge (wr y) 0 = true from fun q => z ((zI_ge0 y).mpr (of_decide_eq_true q)))] at k0; exact k0)
      | gt => exact lv_if_gt hx hb hdg ht (fun z => by rw [if_pos (show sm_cmp .gt (wr y) 0 = true from decide_eq_true ((zI_gt0 y).mp z))] at k0; exact k0) (fun z => by rw [if_neg (show ¬ sm_cmp .gt (wr y) 0 = true from fun q => z ((zI_gt0 y).mpr (of_decide_eq_true q)))] at k0; exact k0)
      | le => exact lv_if_le hx hb hdg ht (fun z => by rw [if_pos (show sm_cmp .le (wr y) 0 = true from decide_eq_true ((zI_le0 y).mp z))] at k0; exact k0) (fun z => by rw [if_neg (show ¬ sm_cmp .le (wr y) 0 = true from fun q => z ((zI_le0 y).mpr (of_decide_eq_true q)))] at k0; exact k0)
    · cases h
  | if_icmp cd x =>
    have ht := sm_tgt (of_decide_eq_true hck)
    simp only [sm_step] at h
    split at h
    · rename_i y w r
      injection h with h
      injection h with h
      injection h with h1 h2
      injection h2 with h2 h3
      injection h3 with h3 h4
      subst h2; subst h3; subst h4
      dsimp only [sm_ilen] at hlen
      subst hlen
      subst h1
      have k0 := k0 rfl rfl
      cases cd with
      | eq => exact lv_icmp_eq hx hb hdg ht (fun z => by rw [if_pos (show sm_cmp .eq (wr w) (wr y) = true from decide_eq_true ((zI_eq w y).mp z))] at k0; exact k0) (fun z => by rw [if_neg (show ¬ sm_cmp .eq (wr w) (wr y) = true from fun q => z ((zI_eq w y).mpr (of_decide_eq_true q)))] at k0; exact k0)
      | ne => exact lv_icmp_ne hx hb hdg ht (fun z => by rw [if_pos (show sm_cmp .ne (wr w) (wr y) = true from decide_eq_true (fun q => z ((zI_eq w y).mpr q)))] at k0; exact k0) (fun z => by rw [if_neg (show ¬ sm_cmp .ne (wr w) (wr y) = true from fun q => (of_decide_eq_true q) ((zI_eq w y).mp z))] at k0; exact k0)
      | lt => exact lv_icmp_lt hx hb hdg ht (fun z => by rw [if_pos (show sm_cmp .lt (wr w) (wr y) = true from decide_eq_true ((zI_lt w y).mp z))] at k0; exact k0) (fun z => by rw [if_neg (show ¬ sm_cmp .lt (wr w) (wr y) = true from fun q => z ((zI_lt w y).mpr (of_decide_eq_true q)))] at k0; exact k0)
      | ge => exact lv_icmp_ge hx hb hdg ht (fun z => by rw [if_pos (show sm_cmp .ge (wr w) (wr y) = true from decide_eq_true ((zI_le y w).mp z))] at k0; exact k0) (fun z => by rw [if_neg (show ¬ sm_cmp .ge (wr w) (wr y) = true from fun q => z ((zI_le y w).mpr (of_decide_eq_true q)))] at k0; exact k0)
      | gt => exact lv_icmp_gt hx hb hdg ht (fun z => by rw [if_pos (show sm_cmp .gt (wr w) (wr y) = true from decide_eq_true ((zI_lt y w).mp z))] at k0; exact k0) (fun z => by rw [if_neg (show ¬ sm_cmp .gt (wr w) (wr y) = true from fun q => z ((zI_lt y w).mpr (of_decide_eq_true q)))] at k0; exact k0)
      | le => exact lv_icmp_le hx hb hdg ht (fun z => by rw [if_pos (show sm_cmp .le (wr w) (wr y) = true from decide_eq_true ((zI_le w y).mp z))] at k0; exact k0) (fun z => by rw [if_neg (show ¬ sm_cmp .le (wr w) (wr y) = true from fun q => z ((zI_le w y).mpr (of_decide_eq_true q)))] at k0; exact k0)
    · cases h
  | tableswitch d lo hi offs =>
    simp only [Bool.and_eq_true, decide_eq_true_eq, List.all_eq_true] at hck
    simp only [sm_step] at h
    split at h
    · rename_i y r
      split at h
      · rename_i hout
        cases h
        exact lv_tableOut hx hb hdg hout (sm_tgt hck.1) (k0 rfl rfl)
      · rename_i hout
        split at h
        · rename_i of hof
          cases h
          exact lv_tableIn hx hb hdg (fun z => hout (Or.inl z)) (fun z => hout (Or.inr z)) hof (sm_tgt (hck.2 _ (by rw [← Array.getElem?_toList] at hof; exact List.mem_of_getElem? hof))) (k0 rfl rfl)
        · cases h
    · cases h
  | lookupswitch d ps =>
    simp only [Bool.and_eq_true, decide_eq_true_eq] at hck
    simp only [sm_step] at h
    split at h
    · rename_i y r
      cases h
      exact lv_lookup hx hb hdg hck.2 rfl (sm_tgt (sm_lookup_tgt hck.1.1 (fun q hq => of_decide_eq_true (List.all_eq_true.mp hck.1.2 q hq)))) (k0 rfl rfl)
    · cases h
  | dup =>
    simp only [sm_step] at h
    split at h
    · rename_i x r
      cases h
      dsimp only [sm_ilen] at hlen
      subst hlen
      exact lv_dup hx hb hdg (sm_cat ad x) (k0 rfl rfl)
    · cases h
  | dup2 =>
    simp only [sm_step] at h
    split at h
    · rename_i x y r
      cases h
      dsimp only [sm_ilen] at hlen
      subst hlen
      exact lv_dup2_11 hx hb hdg (sm_cat ad x) (sm_cat ad y) (k0 rfl rfl)
    · cases h
  | pop =>
    simp only [sm_step] at h
    split at h
    · rename_i x r
      cases h
      dsimp only [sm_ilen] at hlen
      subst hlen
      exact lv_pop hx hb hdg (sm_cat ad x) (k0 rfl rfl)
    · cases h
  | ldc k =>
    simp only [sm_step] at h
    dsimp only at hck
    split at h
    · rename_i ha
      rw [if_pos ha] at hck
      cases h
      dsimp only [sm_ilen] at hlen
      subst hlen
      exact lv_ldc hx hb hown (hts _ (sm_ldT_ok _ (List.contains_iff_mem.mp hck))) hdg (k0 rfl rfl)
    · rename_i ha
      rw [if_neg ha] at hck
      simp only [Bool.and_eq_true, decide_eq_true_eq] at hck
      cases h
      dsimp only [sm_ilen] at hlen
      subst hlen
      have hq := hctx.2.2.2.2.2.2.1 _ (List.contains_iff_mem.mp hck.2)
      have e1 : 2000000 + (b - 2000000) = b := by omega
      dsimp only at hq
      rw [e1] at hq
      exact va_ldcS hx hb hown hq hdg (k0 rfl rfl)
  | getfield k =>
    simp only [sm_step] at h
    dsimp only at hck
    split at h
    · rename_i q r
      split at h
      · rename_i hk
        obtain ⟨hk, hsm⟩ := hk
        cases h
        dsimp only [sm_ilen] at hlen
        subst hlen
        have k0 := k0 rfl rfl
        by_cases ha : a = 103
        · rw [if_pos ha] at hck
          obtain ⟨g1, g2, g3, g4⟩ := sm_con hrel (hk.trans ha) (Or.inr (Or.inl rfl))
          have g5 := (hctx.2.2.2.2.2.2.2.2.2.2 q g1).2.2 (by rw [← g4]; exact hk.trans ha)
          rcases sm_sfT_ok _ (List.contains_iff_mem.mp hck) with ⟨z1, z2⟩ | ⟨z1, z2⟩
          · dsimp only at z1 z2
            have hso : (S.2.1 q 0).isSome = true := by
              rcases hsm with z | z | z
              · omega
              · exact absurd ha z.1
              · rw [← z1]; exact z
            have e1 : sm_gf S a q b = .inr (G.2.1 q 0) := by
              unfold sm_gf
              rw [if_pos ha, if_pos z1, ← g3]
              cases hq : S.2.1 q 0 with
              | none => rw [hq] at hso; cases hso
              | some w => rfl
            rw [e1] at k0
            exact vk_getf hx hb g5.2.2 hS hown (hts _ z2) (fun _ h9 => h9) hdg k0
          · dsimp only at z1 z2
            have e1 : sm_gf S a q b = .inl 0 := by
              unfold sm_gf
              rw [if_pos ha, if_neg (by omega)]
            rw [e1] at k0
            exact vk_getf hx hb g5.2.1 hS hown (hts _ z2) (fun _ h9 => h9) hdg k0
        · rw [if_neg ha] at hck
          obtain ⟨C, T, N, z1, z2, z3, z4⟩ := sm_flT_ok _ (List.contains_iff_mem.mp hck)
          dsimp only at z1 z2 z3 z4
          have ha12 : a < 12 := by
            rcases Nat.lt_or_ge a 12 with z | z
            · exact z
            · rw [List.getElem?_eq_none (by exact z)] at z1
              cases z1
          obtain ⟨g1, g2, r', g3, cell, g4, g5, g6, g7⟩ := sm_obj hrel hk ha12
          rw [z1] at g3
          cases g3
          obtain ⟨c1, c2, c3, c4, c5⟩ := sm_cl_ok a _ z1
          obtain ⟨hSl, hfc, kC, hkC, hkind⟩ := hctx.1 a _ z1
          obtain ⟨cf, kf, fi, f, hi, hsl⟩ := hSl b z2
          rw [z3] at hi
          have e1 : sm_gf S a q b = sm_fv S a q b := by
            unfold sm_gf sm_fv
            rw [if_neg ha]
            by_cases hft : sm_ft a b = 1
            · rw [if_pos hft, if_pos hft]
              have hso : (S.2.1 q b).isSome = true := by
                rcases hsm with z | z | z
                · exact absurd z.1 ha
                · exact absurd hft z.2
                · exact z
              cases hq : S.2.1 q b with
              | none => rw [hq] at hso; cases hso
              | some w => rfl
            · rw [if_neg hft, if_neg hft]
          rw [e1] at k0
          exact W.getf hx hb hown (hts _ z4) hi (u_facts hfc hkC (u_lays hts c3 z2) (by rw [z3]; exact hi)).1 g4 (by rw [g6]; exact fun h => by cases h) (v := sm_tr ad (sm_fv S a q b)) (by rw [hsl]; exact g7 b z2) rfl rfl hdg k0
      · cases h
    · cases h
  | iaload =>
    simp only [sm_step] at h
    split at h
    · rename_i x q r
      split at h
      · rename_i hk
        cases h
        dsimp only [sm_ilen] at hlen
        subst hlen
        obtain ⟨hk, h0, h1⟩ := hk
        rcases hk with hk | hk
        · obtain ⟨g1, g2, g3⟩ := sm_row hrel hk
          exact W.iald (v := .int (zI (S.1 q (wr x).toNat))) hx hb g3 (hctx.2.1.1 _ _) (fun z => by cases z) (by show ¬ (zI x < 0 ∨ (arrV _ _ _).slots.size ≤ _); rw [arrV_size]; exact zI_in h0 h1) (by show (arrV _ _ _).slots[(zI x).toNatClampNeg]? = _; rw [zI_clamp, arrV_read _ _ (by omega)]) rfl rfl hdg (k0 rfl rfl)
        · obtain ⟨g1, g2, g3, g4⟩ := sm_con hrel hk (Or.inl rfl)
          have g5 := (hctx.2.2.2.2.2.2.2.2.2.2 q g1).1 (by rw [← g4]; exact hk)
          exact va_ti hx hb g5 hS (zI_in h0 (by rw [← g4]; exact h1)) (v := .int (zI (S.1 q (wr x).toNat))) (by rw [g2]; rfl) hdg (k0 rfl rfl)
      · cases h
    · cases h
  | baload =>
    simp only [sm_step] at h
    split at h
    · rename_i x q r
      split at h
      · rename_i hk
        cases h
        dsimp only [sm_ilen] at hlen
        subst hlen
        obtain ⟨hk, h0, h1⟩ := hk
        obtain ⟨g1, g2, g3, g4⟩ := sm_con hrel hk (Or.inr (Or.inr rfl))
        have g5 := (hctx.2.2.2.2.2.2.2.2.2.2 q g1).2.1 (by rw [← g4]; exact hk)
        exact va_tb hx hb g5 hS (zI_in h0 (by rw [← g4]; exact h1)) (v := .int (zI (S.1 q (wr x).toNat))) (by rw [g2]; rfl) hdg (k0 rfl rfl)
      · cases h
    · cases h
  | aaload =>
    simp only [sm_step] at h
    split at h
    · rename_i x q r
      split at h
      · rename_i hk
        cases h
        dsimp only [sm_ilen] at hlen
        subst hlen
        obtain ⟨hk, h0, h1, hso⟩ := hk
        obtain ⟨g1, g2, g3⟩ := sm_rrow hrel hk
        have k0 := k0 rfl rfl
        have e1 : some ((S.2.1 q (wr x).toNat).getD 0) = S.2.1 q (wr x).toNat := by
          cases hq : S.2.1 q (wr x).toNat with
          | none => rw [hq] at hso; cases hso
          | some w => rfl
        rw [e1] at k0
        exact W.aald (v := sm_tr ad (.inr (S.2.1 q (wr x).toNat))) (ty := .object "SwallowSurvey$Habit") hx hb g3 (hctx.2.2.1.1 _ _) rfl (fun z => by cases z) (by show ¬ (zI x < 0 ∨ (arrV _ _ _).slots.size ≤ _); rw [arrV_size]; exact zI_in h0 h1) (by show (arrV _ _ _).slots[(zI x).toNatClampNeg]? = _; rw [zI_clamp, arrV_read _ _ (by omega)]) rfl rfl hdg k0
      · cases h
    · cases h
  | arraylength =>
    simp only [sm_step] at h
    split at h
    · rename_i q r
      split at h
      · rename_i hk
        cases h
        dsimp only [sm_ilen] at hlen
        subst hlen
        rcases hk with hk | hk | hk | hk
        · obtain ⟨g1, g2, g3⟩ := sm_row hrel hk
          exact W.alen (n := zI ((S.2.2.1 q).2 : Int)) (ty := .int) hx hb g3 (hctx.2.1.1 _ _) (by rw [arrV_size]; rfl) rfl rfl hdg (k0 rfl rfl)
        · obtain ⟨g1, g2, g3⟩ := sm_rrow hrel hk
          exact W.alen (n := zI ((S.2.2.1 q).2 : Int)) (ty := .object "SwallowSurvey$Habit") hx hb g3 (hctx.2.2.1.1 _ _) (by rw [arrV_size]; rfl) rfl rfl hdg (k0 rfl rfl)
        · obtain ⟨g1, g2, g3, g4⟩ := sm_con hrel hk (Or.inl rfl)
          obtain ⟨cell, f1, f2, f3, f4, f5, f6, f7⟩ := (hctx.2.2.2.2.2.2.2.2.2.2 q g1).1 (by rw [← g4]; exact hk)
          exact W.alen (n := zI ((S.2.2.1 q).2 : Int)) hx hb (by rw [hS.2.1 _ (Array.getElem?_eq_some_iff.mp f1).1 f7]; exact f1) f2 (by rw [f5, g4]; rfl) rfl rfl hdg (k0 rfl rfl)
        · obtain ⟨g1, g2, g3, g4⟩ := sm_con hrel hk (Or.inr (Or.inr rfl))
          obtain ⟨cell, f1, f2, f3, f4, f5, f6, f7⟩ := (hctx.2.2.2.2.2.2.2.2.2.2 q g1).2.1 (by rw [← g4]; exact hk)
          exact W.alen (n := zI ((S.2.2.1 q).2 : Int)) hx hb (by rw [hS.2.1 _ (Array.getElem?_eq_some_iff.mp f1).1 f7]; exact f1) f2 (by rw [f5, g4]; rfl) rfl rfl hdg (k0 rfl rfl)
      · cases h
    · cases h
  | iastore =>
    simp only [sm_step] at h
    split at h
    · rename_i x y q r
      split at h
      · rename_i hk
        cases h
        dsimp only [sm_ilen] at hlen
        subst hlen
        obtain ⟨hk, h0, h1⟩ := hk
        obtain ⟨g1, g2, g3⟩ := sm_row hrel hk
        refine W.iast hx hb g3 (hctx.2.1.1 _ _) (fun z => by cases z) (by show ¬ (zI y < 0 ∨ (arrV _ _ _).slots.size ≤ _); rw [arrV_size]; exact zI_in h0 h1) rfl rfl hdg fun H1 e1 z1 o1 => ?_
        rw [zI_clamp] at e1 ⊢
        exact kk ls H1 _ cells slots hl (sm_set_row hrel hk e1 z1 o1) (hS.put z1 o1 (by rw [hrel.2.2.1 q g2]; exact Nat.le_add_right _ _)) (by show cells = cells + (S.2.2.2.1 - S.2.2.2.1); omega) (by show slots = slots + (S.2.2.2.2 - S.2.2.2.2); omega)
      · cases h
    · cases h
  | aastore =>
    simp only [sm_step] at h
    split at h
    · rename_i x y q r
      split at h
      · rename_i hk
        cases h
        dsimp only [sm_ilen] at hlen
        subst hlen
        obtain ⟨hk, hx2, h0, h1⟩ := hk
        obtain ⟨g1, g2, g3⟩ := sm_rrow hrel hk
        obtain ⟨f1, f2, r', f3, cellV, f4, f5, f6, f7⟩ := sm_obj hrel hx2 (by decide)
        cases f3
        have hcls := (hctx.1 2 _ rfl).2
        obtain ⟨kA, comp, k1, k2, k3, -⟩ := hctx.2.2.1.2
        have hcomp : comp = D.1 2 := Option.some.inj (k3.symm.trans hcls.1)
        subst hcomp
        obtain ⟨kC, hkC, -⟩ := hcls.2
        refine W.aast hx hb g3 (fun q h => by cases h) (fun h => by cases h) k1 k2 rfl hkC ⟨fun z => by have := (zI_lt0 y).mp z; omega, by show _ < (arrV _ _ _).slots.size; rw [arrV_size, zI_clamp]; omega⟩ f4 (fun q h => by rw [f6] at h; cases h) (by rw [f5]; exact hkC) (by rw [f5]; exact va_assign hcls) rfl rfl hdg fun H1 e1 z1 o1 => ?_
        rw [zI_clamp] at e1 ⊢
        exact kk ls H1 _ cells slots hl (sm_set_rrow hrel hk e1 z1 o1) (hS.put z1 o1 (by rw [hrel.2.2.1 q g2]; exact Nat.le_add_right _ _)) (by show cells = cells + (S.2.2.2.1 - S.2.2.2.1); omega) (by show slots = slots + (S.2.2.2.2 - S.2.2.2.2); omega)
      · cases h
    · cases h
  | ireturn =>
    simp only [sm_step] at h
    split at h
    · split at h <;> cases h
    · cases h
  | areturn =>
    simp only [sm_step] at h
    split at h <;> cases h
  | return_ =>
    simp only [sm_step] at h
    split at h <;> cases h
  | getstatic k =>
    simp only [sm_step] at h
    dsimp only at hck
    have hg : ∀ (n : Nat) (v : Value), sm_gsT.contains (o, k, n) = true → va_Z (sm_gsn n).1 (sm_gsn n).2.1 (sm_gsn n).2.2 v (sm_A s0) s s.heap → W p l e R s m args below meth c H locs cells slots Q (F0 m (pc + 3) ls (v :: st.map (sm_tr ad))) → W p l e R s m args below meth c H locs cells slots Q (F0 m pc ls (st.map (sm_tr ad))) := by
      intro n v hc hZ kw
      dsimp only [sm_ilen] at hlen
      subst hlen
      rcases hctx.2.2.2.2.2.1 _ (List.contains_iff_mem.mp hc) with z | z
      · exact va_gets hx hb hZ hS hown (hts _ z) (fun _ h9 => h9) hdg kw
      · exact va_getsN hx hb hZ hS hown (va_Nw.use rfl z) (fun _ h9 => h9) hdg kw
    split at h
    · rename_i ha
      rw [if_pos ha] at hck
      cases h
      dsimp only [sm_ilen] at hlen
      subst hlen
      exact hg 10 (.int 1) hck hctx.2.2.2.2.2.2.2.2.1 (k0 rfl rfl)
    · rename_i ha
      rw [if_neg ha] at hck
      split at h
      · rename_i ha
        rw [if_pos ha] at hck
        simp only [Bool.and_eq_true, decide_eq_true_eq] at hck
        cases h
        dsimp only [sm_ilen] at hlen
        subst hlen
        have hZ := hctx.2.2.2.2.2.2.2.1 (b - 1000000) (by omega)
        have e1 : 1000000 + (b - 1000000) = b := by omega
        rw [e1] at hZ
        exact hg (b - 1000000) _ hck.2 hZ (k0 rfl rfl)
      · rename_i ha
        rw [if_neg ha] at hck
        cases h
        dsimp only [sm_ilen] at hlen
        subst hlen
        refine hg 11 _ hck hctx.2.2.2.2.2.2.2.2.2.1 ?_
        have k0 := k0 rfl rfl
        rw [(hrel.2.2.2.1 7000000 (by omega)).2.1] at k0
        exact k0
  | invokespecial k =>
    simp only [sm_step] at h
    dsimp only at hck
    split at h
    · rename_i q r
      split at h
      · rename_i ha
        rw [if_pos ha.1] at hck
        cases h
        dsimp only [sm_ilen] at hlen
        subst hlen
        exact W.objInit hx hb hown (hts _ (sm_oiT_ok _ (List.contains_iff_mem.mp hck))) (hts _ sm_w_oi1) (hts _ sm_w_oi2) rfl (by rw [hml]; exact hlv.1) rfl hdg hfr (by show 2 * 0 + _ + 12 ≤ _; rw [sm_cats]; omega) (k0 rfl rfl)
      · cases h
    · cases h
  | new k =>
    simp only [sm_step] at h
    split at h
    · rename_i hn
      cases h
      dsimp only [sm_ilen] at hlen
      subst hlen
      obtain ⟨C, T, N, z1, z2, z3, z4, z5⟩ := sm_nwT_ok _ (List.contains_iff_mem.mp hck)
      dsimp only at z1 z2 z3 z4 z5
      obtain ⟨c1, c2, c3, c4, c5, c6, c7, c8, c9⟩ := sm_cl_ok a _ z1
      have hKn := hctx.1 a _ z1
      dsimp only at hcc hss kk c4
      rw [z2] at hss
      refine W.newcK (n := N) hx hb hown (hts _ z3) (hts _ z4) (hts _ z5) rfl hdg (by omega) (by omega) hKn.2.1 hrel.1 fun H1 kC hkC e1 y1 o1 => ?_
      have had : ad S.2.2.2.1 = s0 + S.2.2.2.1 := hrel.2.2.1 _ hn.1
      refine W.eq (by rw [← had]; rfl) (kk ls H1 locs _ _ hl (hrel.new hn.1 rfl (fun b hb => ⟨by funext i; simp [sm_r, hb], by funext i; simp [sm_r, hb], by simp [sm_k, hb]⟩) (by rw [y1, hrel.1]) (fun x hx => o1 x (by rw [← hrel.1]; exact hx)) ⟨fun _ => ⟨by show _ < S.2.2.2.1 + 1; omega, ?_⟩, fun z => ?_, fun z => ?_⟩ ?_) ⟨Nat.le_trans hS.1 (by rw [y1, hrel.1]; omega), fun x h1 h2 => (o1 x (by rw [← hrel.1]; exact Nat.lt_of_lt_of_le h1 hS.1)).trans (hS.2.1 x h1 h2), hS.2.2⟩ (by omega) (by omega))
      · simp only [sm_k, if_true]
        refine ⟨_, z1, (u_born (sm_ty a) hts c3 hKn hkC (by rw [had]; exact e1) c1).to fun i hi => ?_⟩
        rcases c8 i hi with z | z | z
        · rw [c5 i hi z]; simp [sm_fv, z, sm_r, sm_tr, defaultValue, zI_zero]
        · have hr := c7 i hi z
          simp only [sm_fv, z, sm_r, if_true, sm_tr]
          cases hty : sm_ty a i <;> rw [hty] at hr <;> first | rfl | (cases hr)
        · rw [c6 i hi z]; simp [sm_fv, z, sm_r, sm_tr, defaultValue, zI_zero]
      · simp only [sm_k, if_true] at z; omega
      · simp only [sm_k, if_true] at z; omega
      · simp only [sm_k, if_true]; omega
    · cases h
  | putfield k =>
    simp only [sm_step] at h
    dsimp only at hck
    dsimp only [sm_ilen] at hlen
    subst hlen
    split at h
    · rename_i x q r
      split at h
      · rename_i hk
        cases h
        refine sm_putW (v := .inl x) (S' := (sm_u S.1 q b x, S.2)) hx hb hown hts hnm hctx hdg hck hk.1 ?_ rfl (fun b' hb' => ⟨by funext i; simp [sm_u, hb'], rfl⟩) (fun i => ?_) hrel hS (fun H' locs' r' s' => kk ls H' locs' cells slots hl r' s' (by show cells = cells + (S.2.2.2.1 - S.2.2.2.1); omega) (by show slots = slots + (S.2.2.2.2 - S.2.2.2.2); omega))
        · rcases hk.2 with z | z
          · exact Or.inl ⟨z, x, rfl⟩
          · exact Or.inr (Or.inr ⟨z.1, x, rfl, z.2⟩)
        · have hne : ¬ sm_ft a b = 1 := by
            rcases hk.2 with z | z
            · omega
            · have := z.1; omega
          by_cases hi : i = b
          · subst hi
            simp [sm_fv, hne, sm_u]
          · simp [sm_fv, sm_u, hi]
      · cases h
    · rename_i x q r
      split at h
      · rename_i hk
        cases h
        refine sm_putW (v := .inr x) (S' := (S.1, sm_u S.2.1 q b x, S.2.2)) hx hb hown hts hnm hctx hdg hck hk.1 (Or.inr (Or.inl ⟨hk.2, x, rfl⟩)) rfl (fun b' hb' => ⟨rfl, by funext i; simp [sm_u, hb']⟩) (fun i => ?_) hrel hS (fun H' locs' r' s' => kk ls H' locs' cells slots hl r' s' (by show cells = cells + (S.2.2.2.1 - S.2.2.2.1); omega) (by show slots = slots + (S.2.2.2.2 - S.2.2.2.2); omega))
        by_cases hi : i = b
        · subst hi
          simp [sm_fv, hk.2, sm_u]
        · simp [sm_fv, sm_u, hi]
      · cases h
    · cases h
  | newarray t =>
    simp only [sm_step] at h
    split at h
    · rename_i x r
      split at h
      · rename_i hk
        cases h
        obtain ⟨ht, hn, h0, h1⟩ := hk
        subst ht
        dsimp only [sm_ilen] at hlen
        subst hlen
        dsimp only at hcc hss kk
        have had : ad S.2.2.2.1 = s0 + S.2.2.2.1 := hrel.2.2.1 _ hn
        refine va_newaK (atype := .int) (N := (wr x).toNat) (n := zI x) (rest := r.map (sm_tr ad)) hx hb (hts _ sm_w_ai) rfl hdg rfl (by rw [zI_lt0]; omega) rfl (by show (wr x).toNat * 4 ≤ _; omega) (by omega) (by omega) hrel.1 fun H1 cA e1 y1 o1 hA hf => ?_
        have hcA : cA = cI := Option.some.inj (hf.symm.trans hctx.2.1.2)
        subst hcA
        refine W.eq (by rw [← had]; rfl) (kk ls H1 locs _ _ hl (hrel.new hn rfl (fun b hb => ⟨by funext i; simp [sm_r, hb], by funext i; simp [sm_r, hb], by simp [sm_k, hb]⟩) (by rw [y1, hrel.1]) (fun x hx => o1 x (by rw [← hrel.1]; exact hx)) ⟨fun z => ?_, fun _ => ⟨by show _ < S.2.2.2.1 + 1; omega, ?_⟩, fun z => ?_⟩ ?_) ⟨Nat.le_trans hS.1 (by rw [y1, hrel.1]; omega), fun x h1 h2 => (o1 x (by rw [← hrel.1]; exact Nat.lt_of_lt_of_le h1 hS.1)).trans (hS.2.1 x h1 h2), hS.2.2⟩ (by omega) (by omega))
        · simp only [sm_k, if_true] at z; omega
        · rw [had, e1]
          congr 1
          simp only [sm_k, sm_r, if_true]
          rfl
        · simp only [sm_k, if_true] at z; omega
        · simp only [sm_k, if_true]; omega
      · cases h
    · cases h
  | anewarray k =>
    simp only [sm_step] at h
    split at h
    · rename_i x r
      split at h
      · rename_i hk
        cases h
        obtain ⟨hn, h0, h1⟩ := hk
        dsimp only [sm_ilen] at hlen
        subst hlen
        dsimp only at hcc hss kk hck
        have had : ad S.2.2.2.1 = s0 + S.2.2.2.1 := hrel.2.2.1 _ hn
        refine W.anew (n := zI x) (rest := r.map (sm_tr ad)) hx hb hown (hts _ (sm_anT_ok _ (List.contains_iff_mem.mp hck))) (va_AO.use hctx.2.2.2.1) rfl hdg rfl (by rw [zI_lt0]; omega) (by rw [zI_clamp]; omega) (by omega) (by rw [zI_clamp]; omega) fun cA kA comp f1 f2 f3 f4 => ?_
        have hcA : cA = cH := by
          obtain ⟨kA2, comp2, k1, k2, k3, k4⟩ := hctx.2.2.1.2
          exact Option.some.inj (f1.symm.trans k4)
        subst hcA
        rw [zI_clamp]
        generalize hH1 : H.push ({ cls := cA, slots := Array.replicate (wr x).toNat .null, vm := .none } : Cell) = H1
        have y1 : H1.size = H.size + 1 := by rw [← hH1, Array.size_push]
        have e1 : H1[H.size]? = some (arrV cA (wr x).toNat (fun _ => .null)) := by rw [← hH1, Array.getElem?_push_size, ← arrV_new]
        have o1 : ∀ q : Nat, q < H.size → H1[q]? = H[q]? := fun q hq => by rw [← hH1, Array.getElem?_push, if_neg (Nat.ne_of_lt hq)]
        refine W.eq (by rw [hrel.1, ← had]; rfl) (kk ls H1 locs _ _ hl (hrel.new hn rfl (fun b hb => ⟨by funext i; simp [sm_r, hb], by funext i; simp [sm_r, hb], by simp [sm_k, hb]⟩) y1 o1 ⟨fun z => ?_, fun z => ?_, fun _ => ⟨by show _ < S.2.2.2.1 + 1; omega, ?_⟩⟩ ?_) ⟨Nat.le_trans hS.1 (by omega), fun x h1 h2 => (o1 x (Nat.lt_of_lt_of_le h1 hS.1)).trans (hS.2.1 x h1 h2), hS.2.2⟩ (by omega) (by omega))
        · simp only [sm_k, if_true] at z; omega
        · simp only [sm_k, if_true] at z; omega
        · rw [had, ← hrel.1, e1]
          congr 1
          simp only [sm_k, sm_r, if_true]
          rfl
        · simp only [sm_k, if_true]; omega
      · cases h
    · cases h
  | invokestatic k =>
    simp only [sm_step] at h
    dsimp only at hck
    dsimp only [sm_ilen] at hlen
    subst hlen
    split at h
    · rename_i ha
      rw [if_neg (by omega), if_pos ha] at hck
      split at h
      · rename_i x r
        split at h
        · rename_i hr
          cases h
          rcases sm_mhT_ok _ (List.contains_iff_mem.mp hck) with ⟨-, z⟩ | ⟨z, -⟩ | ⟨z, -⟩
          · refine va_mabs hx hb (by rw [hml]; exact hlv.1.symm) hown (hts _ z) (hts _ sm_w_abs1) (hts _ sm_w_mi) (hts _ sm_w_abs2) hfr (by rw [sm_cats]; omega) (by omega) (by omega) hdg (W.eq ?_ (k0 rfl rfl))
            simp only [List.map_cons, sm_tr, zI_ge0]
            split <;> simp [zI_neg]
          · cases z
          · cases z
        · cases h
      · cases h
    · rename_i ha
      split at h
      · rename_i ha2
        rw [if_neg (by omega), if_neg ha, if_pos ha2] at hck
        split at h
        · rename_i y x r
          split at h
          · rename_i hr
            cases h
            rcases sm_mhT_ok _ (List.contains_iff_mem.mp hck) with ⟨z, -⟩ | ⟨-, z⟩ | ⟨z, -⟩
            · cases z
            · refine va_mmin hx hb (by rw [hml]; exact hlv.1.symm) hown (hts _ z) (hts _ sm_w_min1) (hts _ sm_w_mi) (hts _ sm_w_min2) hfr (by rw [sm_cats]; omega) (by omega) (by omega) hdg (W.eq ?_ (k0 rfl rfl))
              simp only [List.map_cons, sm_tr, zI_lt]
              split <;> rfl
            · cases z
          · cases h
        · cases h
      · rename_i ha2
        split at h
        · rename_i ha3
          rw [if_neg (by omega), if_neg ha, if_neg ha2, if_pos ha3] at hck
          split at h
          · rename_i y x r
            split at h
            · rename_i hr
              cases h
              rcases sm_mhT_ok _ (List.contains_iff_mem.mp hck) with ⟨z, -⟩ | ⟨z, -⟩ | ⟨-, z⟩
              · cases z
              · cases z
              · refine va_mmax hx hb (by rw [hml]; exact hlv.1.symm) hown (hts _ z) (hts _ sm_w_max1) (hts _ sm_w_mi) (hts _ sm_w_max2) hfr (by rw [sm_cats]; omega) (by omega) (by omega) hdg (W.eq ?_ (k0 rfl rfl))
                simp only [List.map_cons, sm_tr, zI_lt]
                split <;> rfl
            · cases h
          · cases h
        · split at h
          · rename_i n dp q sp p1 r
            split at h
            · rename_i hk
              rw [if_pos hk.1] at hck
              cases h
              obtain ⟨-, z1, z2, z3, z4, z5, z6, z7, z8⟩ := hk
              exact sm_copyW hx hb hml hown hts hctx hfr hlo hdg (List.contains_iff_mem.mp hck) z1 z2 z3 z4 z5 z6 z7 z8 hlv.1 hrel hS (fun H' locs' r' s' => kk ls H' locs' cells slots hl r' s' (by show cells = cells + (S.2.2.2.1 - S.2.2.2.1); omega) (by show slots = slots + (S.2.2.2.2 - S.2.2.2.2); omega))
            · cases h
          · cases h
  | _ => cases h
end SMX
