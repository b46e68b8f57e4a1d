/-! The law's calls, one by one. -/
section ARMS
variable {x d n z : Nat} {Rf : Nat → Nat → Option Nat} {K : Nat → Nat × Nat} {Z : Nat → Nat → Int} {Q : Option sm_V → sm_S → Prop}
theorem a_0 (h : lwH x d Z Rf K n z Q) : sm_wp (d + 41) 198 164 [some (.inr (some 4000000)), some (.inr (some 0)), some (.inr (some 79)), some (.inl (x : Int))] [] (Z, Rf, K, n, z) Q := by
  have hA := h.1
  have hk := h.2.1
  have hr := h.2.2.1
  have hZ := h.2.2.2.1
  have k0 : (K 0).1 = 10 := by rw [kk_0 hA.1]
  rw [b198_164]
  refine ⟨hr 1 (by decide) (by decide), k0, law_arm (okR_of (k_state (d := d + 40) hA)) hk (fun v Z1 Rf1 K1 n1 z1 e1 e2 e3 e4 hm => ?_)⟩
  simp only [w_cont, Option.toList_some, List.cons_append, List.nil_append]
  rw [b198_173, e1, e2]
  refine ⟨hr 1 (by decide) (by decide), e3, hm _ (fun Z2 r2 e5 => ?_)⟩
  simp only [w_cont, Option.toList_some, List.cons_append, List.nil_append]
  rw [b198_182, if_pos rfl]
  exact h.2.2.2.2.2 Z2 Rf1 K1 n1 z1 r2 e5 e2 e4
theorem a_1 (h : lwH x d Z Rf K n z Q) : sm_wp (d + 41) 198 187 [some (.inr (some 4000000)), some (.inr (some 0)), some (.inr (some 79)), some (.inl (x : Int))] [] (Z, Rf, K, n, z) Q := by
  have hA := h.1
  have hk := h.2.1
  have hr := h.2.2.1
  have hZ := h.2.2.2.1
  have k0 : (K 0).1 = 10 := by rw [kk_0 hA.1]
  rw [b198_187]
  refine ⟨hr 1 (by decide) (by decide), hr 2 (by decide) (by decide), k0, law_arm (okR_of (k_land (d := d + 37) hA (hZ _) (hZ _))) hk (fun v Z1 Rf1 K1 n1 z1 e1 e2 e3 e4 hm => ?_)⟩
  simp only [w_cont, Option.toList_some, List.cons_append, List.nil_append]
  rw [b198_201, e1, e2]
  refine ⟨hr 1 (by decide) (by decide), hr 2 (by decide) (by decide), e3, hm _ (fun Z2 r2 e5 => ?_)⟩
  simp only [w_cont, Option.toList_some, List.cons_append, List.nil_append]
  rw [b198_215, if_pos rfl]
  exact h.2.2.2.2.2 Z2 Rf1 K1 n1 z1 r2 e5 e2 e4
theorem a_2 (h : lwH x d Z Rf K n z Q) : sm_wp (d + 41) 198 220 [some (.inr (some 4000000)), some (.inr (some 0)), some (.inr (some 79)), some (.inl (x : Int))] [] (Z, Rf, K, n, z) Q := by
  have hA := h.1
  have hk := h.2.1
  have hr := h.2.2.1
  have hZ := h.2.2.2.1
  have k0 : (K 0).1 = 10 := by rw [kk_0 hA.1]
  rw [b198_220]
  refine ⟨hr 1 (by decide) (by decide), hr 2 (by decide) (by decide), hr 3 (by decide) (by decide), k0, law_arm (okR_of (k_tell (d := d + 37) hA (hZ _) (hZ _) (hZ _))) hk (fun v Z1 Rf1 K1 n1 z1 e1 e2 e3 e4 hm => ?_)⟩
  simp only [w_cont, Option.toList_some, List.cons_append, List.nil_append]
  rw [b198_239, e1, e2]
  refine ⟨hr 1 (by decide) (by decide), hr 2 (by decide) (by decide), hr 3 (by decide) (by decide), e3, hm _ (fun Z2 r2 e5 => ?_)⟩
  simp only [w_cont, Option.toList_some, List.cons_append, List.nil_append]
  rw [b198_258, if_pos rfl]
  exact h.2.2.2.2.2 Z2 Rf1 K1 n1 z1 r2 e5 e2 e4
theorem a_3 (h : lwH x d Z Rf K n z Q) : sm_wp (d + 41) 198 263 [some (.inr (some 4000000)), some (.inr (some 0)), some (.inr (some 79)), some (.inl (x : Int))] [] (Z, Rf, K, n, z) Q := by
  have hA := h.1
  have hk := h.2.1
  have hr := h.2.2.1
  have hZ := h.2.2.2.1
  have k0 : (K 0).1 = 10 := by rw [kk_0 hA.1]
  rw [b198_263]
  refine ⟨hr 1 (by decide) (by decide), k0, law_arm (k_dig (d := d + 37) hA (hZ _)) hk (fun v Z1 Rf1 K1 n1 z1 e1 e2 e3 e4 hm => ?_)⟩
  simp only [w_cont, Option.toList_some, List.cons_append, List.nil_append]
  rw [b198_272, e1, e2]
  refine ⟨hr 1 (by decide) (by decide), e3, hm _ (fun Z2 r2 e5 => ?_)⟩
  simp only [w_cont, Option.toList_some, List.cons_append, List.nil_append]
  rw [b198_281, if_pos rfl]
  exact h.2.2.2.2.2 Z2 Rf1 K1 n1 z1 r2 e5 e2 e4
theorem a_4 (h : lwH x d Z Rf K n z Q) : sm_wp (d + 41) 198 286 [some (.inr (some 4000000)), some (.inr (some 0)), some (.inr (some 79)), some (.inl (x : Int))] [] (Z, Rf, K, n, z) Q := by
  have hA := h.1
  have hk := h.2.1
  have hr := h.2.2.1
  have hZ := h.2.2.2.1
  have k0 : (K 0).1 = 10 := by rw [kk_0 hA.1]
  rw [b198_286]
  refine ⟨hr 1 (by decide) (by decide), k0, law_arm (k_fill (d := d + 37) hA (hZ _)) hk (fun v Z1 Rf1 K1 n1 z1 e1 e2 e3 e4 hm => ?_)⟩
  simp only [w_cont, Option.toList_some, List.cons_append, List.nil_append]
  rw [b198_295, e1, e2]
  refine ⟨hr 1 (by decide) (by decide), e3, hm _ (fun Z2 r2 e5 => ?_)⟩
  simp only [w_cont, Option.toList_some, List.cons_append, List.nil_append]
  rw [b198_304, if_pos rfl]
  exact h.2.2.2.2.2 Z2 Rf1 K1 n1 z1 r2 e5 e2 e4
theorem a_5 (h : lwH x d Z Rf K n z Q) : sm_wp (d + 41) 198 309 [some (.inr (some 4000000)), some (.inr (some 0)), some (.inr (some 79)), some (.inl (x : Int))] [] (Z, Rf, K, n, z) Q := by
  have hA := h.1
  have hk := h.2.1
  have hr := h.2.2.1
  have hZ := h.2.2.2.1
  have k0 : (K 0).1 = 10 := by rw [kk_0 hA.1]
  rw [b198_309]
  refine ⟨k0, law_arm (okR_of (k_undo (d := d + 39) hA)) hk (fun v Z1 Rf1 K1 n1 z1 e1 e2 e3 e4 hm => ?_)⟩
  simp only [w_cont, Option.toList_some, List.cons_append, List.nil_append]
  rw [b198_313]
  refine ⟨e3, hm _ (fun Z2 r2 e5 => ?_)⟩
  simp only [w_cont, Option.toList_some, List.cons_append, List.nil_append]
  rw [b198_317, if_pos rfl]
  exact h.2.2.2.2.2 Z2 Rf1 K1 n1 z1 r2 e5 e2 e4
theorem a_6 (h : lwH x d Z Rf K n z Q) : sm_wp (d + 41) 198 322 [some (.inr (some 4000000)), some (.inr (some 0)), some (.inr (some 79)), some (.inl (x : Int))] [] (Z, Rf, K, n, z) Q := by
  have hA := h.1
  have hk := h.2.1
  have hr := h.2.2.1
  have hZ := h.2.2.2.1
  have k0 : (K 0).1 = 10 := by rw [kk_0 hA.1]
  rw [b198_322]
  refine ⟨hr 1 (by decide) (by decide), k0, law_arm (okR_of (k_barn (d := d + 37) hA (hZ _))) hk (fun v Z1 Rf1 K1 n1 z1 e1 e2 e3 e4 hm => ?_)⟩
  simp only [w_cont, Option.toList_some, List.cons_append, List.nil_append]
  rw [b198_331, e1, e2]
  refine ⟨hr 1 (by decide) (by decide), e3, hm _ (fun Z2 r2 e5 => ?_)⟩
  simp only [w_cont, Option.toList_some, List.cons_append, List.nil_append]
  rw [b198_340, if_pos rfl]
  exact h.2.2.2.2.2 Z2 Rf1 K1 n1 z1 r2 e5 e2 e4
theorem a_7 (h : lwH x d Z Rf K n z Q) : sm_wp (d + 41) 198 345 [some (.inr (some 4000000)), some (.inr (some 0)), some (.inr (some 79)), some (.inl (x : Int))] [] (Z, Rf, K, n, z) Q := by
  have hA := h.1
  have hk := h.2.1
  have hr := h.2.2.1
  have hZ := h.2.2.2.1
  have k0 : (K 0).1 = 10 := by rw [kk_0 hA.1]
  by_cases hb : wr (Z 4000000 ((wr ((x : Int) + 3)).toNat)) = 0
  · rw [b198_345]
    refine ⟨hr 1 (by decide) (by decide), hr 2 (by decide) (by decide), hr 3 (by decide) (by decide), ?_⟩
    rw [if_pos hb, b198_368, b198_369]
    refine ⟨k0, law_arm (okR_of (k_mirror (d := d + 38) hA (hZ _) (hZ _) (Or.inl rfl))) hk (fun v Z1 Rf1 K1 n1 z1 e1 e2 e3 e4 hm => ?_)⟩
    simp only [w_cont, Option.toList_some, List.cons_append, List.nil_append]
    rw [b198_372, e1, e2]
    refine ⟨hr 1 (by decide) (by decide), hr 2 (by decide) (by decide), hr 3 (by decide) (by decide), ?_⟩
    rw [if_pos hb, b198_395, b198_396]
    refine ⟨e3, hm _ (fun Z2 r2 e5 => ?_)⟩
    simp only [w_cont, Option.toList_some, List.cons_append, List.nil_append]
    rw [b198_399, if_pos rfl]
    exact h.2.2.2.2.2 Z2 Rf1 K1 n1 z1 r2 e5 e2 e4
  · rw [b198_345]
    refine ⟨hr 1 (by decide) (by decide), hr 2 (by decide) (by decide), hr 3 (by decide) (by decide), ?_⟩
    rw [if_neg hb, b198_364, b198_369]
    refine ⟨k0, law_arm (okR_of (k_mirror (d := d + 38) hA (hZ _) (hZ _) (Or.inr rfl))) hk (fun v Z1 Rf1 K1 n1 z1 e1 e2 e3 e4 hm => ?_)⟩
    simp only [w_cont, Option.toList_some, List.cons_append, List.nil_append]
    rw [b198_372, e1, e2]
    refine ⟨hr 1 (by decide) (by decide), hr 2 (by decide) (by decide), hr 3 (by decide) (by decide), ?_⟩
    rw [if_neg hb, b198_391, b198_396]
    refine ⟨e3, hm _ (fun Z2 r2 e5 => ?_)⟩
    simp only [w_cont, Option.toList_some, List.cons_append, List.nil_append]
    rw [b198_399, if_pos rfl]
    exact h.2.2.2.2.2 Z2 Rf1 K1 n1 z1 r2 e5 e2 e4
theorem a_8 (h : lwH x d Z Rf K n z Q) : sm_wp (d + 41) 198 404 [some (.inr (some 4000000)), some (.inr (some 0)), some (.inr (some 79)), some (.inl (x : Int))] [] (Z, Rf, K, n, z) Q := by
  have hA := h.1
  have hk := h.2.1
  have hr := h.2.2.1
  have hZ := h.2.2.2.1
  have k0 : (K 0).1 = 10 := by rw [kk_0 hA.1]
  rw [b198_404]
  refine ⟨hr 1 (by decide) (by decide), hr 2 (by decide) (by decide), k0, law_arm (okR_of (k_nest (d := d + 38) hA (hZ _) (hZ _))) hk (fun v Z1 Rf1 K1 n1 z1 e1 e2 e3 e4 hm => ?_)⟩
  simp only [w_cont, Option.toList_some, List.cons_append, List.nil_append]
  rw [b198_418, e1, e2]
  refine ⟨hr 1 (by decide) (by decide), hr 2 (by decide) (by decide), e3, hm _ (fun Z2 r2 e5 => ?_)⟩
  simp only [w_cont, Option.toList_some, List.cons_append, List.nil_append]
  rw [b198_432, if_pos rfl]
  exact h.2.2.2.2.2 Z2 Rf1 K1 n1 z1 r2 e5 e2 e4
theorem a_9 (h : lwH x d Z Rf K n z Q) : sm_wp (d + 41) 198 437 [some (.inr (some 4000000)), some (.inr (some 0)), some (.inr (some 79)), some (.inl (x : Int))] [] (Z, Rf, K, n, z) Q := by
  have hA := h.1
  have hk := h.2.1
  have hr := h.2.2.1
  have hZ := h.2.2.2.1
  have k0 : (K 0).1 = 10 := by rw [kk_0 hA.1]
  rw [b198_437]
  refine ⟨hr 1 (by decide) (by decide), hr 2 (by decide) (by decide), hr 3 (by decide) (by decide), hr 4 (by decide) (by decide), hr 5 (by decide) (by decide), k0, law_arm (okR_of (k_swallow (d := d + 38) hA (hZ _) (hZ _) (hZ _) (hZ _) (hZ _))) hk (fun v Z1 Rf1 K1 n1 z1 e1 e2 e3 e4 hm => ?_)⟩
  simp only [w_cont, Option.toList_some, List.cons_append, List.nil_append]
  rw [b198_466, e1, e2]
  refine ⟨hr 1 (by decide) (by decide), hr 2 (by decide) (by decide), hr 3 (by decide) (by decide), hr 4 (by decide) (by decide), hr 5 (by decide) (by decide), e3, hm _ (fun Z2 r2 e5 => ?_)⟩
  simp only [w_cont, Option.toList_some, List.cons_append, List.nil_append]
  rw [b198_495, if_pos rfl]
  exact h.2.2.2.2.2 Z2 Rf1 K1 n1 z1 r2 e5 e2 e4
theorem a_10 (h : lwH x d Z Rf K n z Q) : sm_wp (d + 41) 198 500 [some (.inr (some 4000000)), some (.inr (some 0)), some (.inr (some 79)), some (.inl (x : Int))] [] (Z, Rf, K, n, z) Q := by
  have hA := h.1
  have hk := h.2.1
  have hr := h.2.2.1
  have hZ := h.2.2.2.1
  have k0 : (K 0).1 = 10 := by rw [kk_0 hA.1]
  rw [b198_500]
  refine ⟨hr 1 (by decide) (by decide), hr 2 (by decide) (by decide), hr 3 (by decide) (by decide), hr 4 (by decide) (by decide), hr 5 (by decide) (by decide), k0, law_arm (okR_of (k_feed (d := d + 39) hA)) hk (fun v Z1 Rf1 K1 n1 z1 e1 e2 e3 e4 hm => ?_)⟩
  simp only [w_cont, Option.toList_some, List.cons_append, List.nil_append]
  rw [b198_529, e1, e2]
  refine ⟨hr 1 (by decide) (by decide), hr 2 (by decide) (by decide), hr 3 (by decide) (by decide), hr 4 (by decide) (by decide), hr 5 (by decide) (by decide), e3, hm _ (fun Z2 r2 e5 => ?_)⟩
  simp only [w_cont, Option.toList_some, List.cons_append, List.nil_append]
  rw [b198_558, if_pos rfl]
  exact h.2.2.2.2.2 Z2 Rf1 K1 n1 z1 r2 e5 e2 e4
theorem a_11 (h : lwH x d Z Rf K n z Q) : sm_wp (d + 41) 198 563 [some (.inr (some 4000000)), some (.inr (some 0)), some (.inr (some 79)), some (.inl (x : Int))] [] (Z, Rf, K, n, z) Q := by
  have hA := h.1
  have hk := h.2.1
  have hr := h.2.2.1
  have hZ := h.2.2.2.1
  have k0 : (K 0).1 = 10 := by rw [kk_0 hA.1]
  rw [b198_563]
  refine ⟨hr 1 (by decide) (by decide), k0, law_arm (okR_of (k_end (d := d + 39) hA (hZ _))) hk (fun v Z1 Rf1 K1 n1 z1 e1 e2 e3 e4 hm => ?_)⟩
  simp only [w_cont, Option.toList_some, List.cons_append, List.nil_append]
  rw [b198_572, e1, e2]
  refine ⟨hr 1 (by decide) (by decide), e3, hm _ (fun Z2 r2 e5 => ?_)⟩
  simp only [w_cont, Option.toList_some, List.cons_append, List.nil_append]
  rw [b198_581, if_pos rfl]
  exact h.2.2.2.2.2 Z2 Rf1 K1 n1 z1 r2 e5 e2 e4
theorem a_text (hA : rAll Z Rf K n) {v : Int} (hv : aI v) (hn : n + 1 < 1000000) : okR (d + 40) 95 156 [.inl v] Z Rf K n z := by
  by_cases hb : 0 ≤ v ∧ v ≤ 3
  · obtain ⟨k, hk⟩ : ∃ k : Nat, v = (k : Int) := ⟨v.toNat, by omega⟩
    rw [hk]
    exact okR_of (k_text1 hA (by omega) hn)
  · exact okR_of (k_text0 hA hv hb)
theorem a_12 (h : lwH x d Z Rf K n z Q) : sm_wp (d + 41) 198 586 [some (.inr (some 4000000)), some (.inr (some 0)), some (.inr (some 79)), some (.inl (x : Int))] [] (Z, Rf, K, n, z) Q := by
  have hA := h.1
  have hk := h.2.1
  have hr := h.2.2.1
  have hZ := h.2.2.2.1
  have k0 : (K 0).1 = 10 := by rw [kk_0 hA.1]
  rw [b198_586]
  refine ⟨hr 1 (by decide) (by decide), k0, law_arm (a_text hA (hZ _) h.2.2.2.2.1) hk (fun v Z1 Rf1 K1 n1 z1 e1 e2 e3 e4 hm => ?_)⟩
  simp only [w_cont, Option.toList_some, List.cons_append, List.nil_append]
  rw [b198_595, e1, e2]
  refine ⟨hr 1 (by decide) (by decide), e3, hm _ (fun Z2 r2 e5 => ?_)⟩
  simp only [w_cont, Option.toList_some, List.cons_append, List.nil_append]
  rw [b198_604, if_pos rfl]
  exact h.2.2.2.2.2 Z2 Rf1 K1 n1 z1 r2 e5 e2 e4
theorem a_13 (h : lwH x d Z Rf K n z Q) : sm_wp (d + 41) 198 609 [some (.inr (some 4000000)), some (.inr (some 0)), some (.inr (some 79)), some (.inl (x : Int))] [] (Z, Rf, K, n, z) Q := by
  have hA := h.1
  have hk := h.2.1
  have hr := h.2.2.1
  have hZ := h.2.2.2.1
  have k0 : (K 0).1 = 10 := by rw [kk_0 hA.1]
  rw [b198_609]
  refine ⟨hr 1 (by decide) (by decide), k0, law_arm (okR_of (k_fault (d := d + 40) hA (hZ _))) hk (fun v Z1 Rf1 K1 n1 z1 e1 e2 e3 e4 hm => ?_)⟩
  simp only [w_cont, Option.toList_some, List.cons_append, List.nil_append]
  rw [b198_618, e1, e2]
  refine ⟨hr 1 (by decide) (by decide), e3, hm _ (fun Z2 r2 e5 => ?_)⟩
  simp only [w_cont, Option.toList_some, List.cons_append, List.nil_append]
  rw [b198_627, if_pos rfl]
  exact h.2.2.2.2.2 Z2 Rf1 K1 n1 z1 r2 e5 e2 e4
theorem a_14 (h : lwH x d Z Rf K n z Q) : sm_wp (d + 41) 198 632 [some (.inr (some 4000000)), some (.inr (some 0)), some (.inr (some 79)), some (.inl (x : Int))] [] (Z, Rf, K, n, z) Q := by
  have hA := h.1
  have hk := h.2.1
  have hr := h.2.2.1
  have hZ := h.2.2.2.1
  have k0 : (K 0).1 = 10 := by rw [kk_0 hA.1]
  rw [b198_632]
  refine ⟨k0, law_arm (okR_of (k_survey (d := d + 32) hA)) hk (fun v Z1 Rf1 K1 n1 z1 e1 e2 e3 e4 hm => ?_)⟩
  simp only [w_cont, Option.toList_some, List.cons_append, List.nil_append]
  rw [b198_636]
  refine ⟨e3, hm _ (fun Z2 r2 e5 => ?_)⟩
  simp only [w_cont, Option.toList_some, List.cons_append, List.nil_append]
  rw [b198_640, if_pos rfl]
  exact h.2.2.2.2.2 Z2 Rf1 K1 n1 z1 r2 e5 e2 e4
theorem a_15 (h : lwH x d Z Rf K n z Q) : sm_wp (d + 41) 198 645 [some (.inr (some 4000000)), some (.inr (some 0)), some (.inr (some 79)), some (.inl (x : Int))] [] (Z, Rf, K, n, z) Q := by
  have hA := h.1
  have hk := h.2.1
  have hr := h.2.2.1
  have hZ := h.2.2.2.1
  have k0 : (K 0).1 = 10 := by rw [kk_0 hA.1]
  rw [b198_645]
  refine ⟨k0, law_arm (okR_of (k_spring (d := d + 32) hA)) hk (fun v Z1 Rf1 K1 n1 z1 e1 e2 e3 e4 hm => ?_)⟩
  simp only [w_cont, Option.toList_some, List.cons_append, List.nil_append]
  rw [b198_649]
  refine ⟨e3, hm _ (fun Z2 r2 e5 => ?_)⟩
  simp only [w_cont, Option.toList_some, List.cons_append, List.nil_append]
  rw [b198_653, if_pos rfl]
  exact h.2.2.2.2.2 Z2 Rf1 K1 n1 z1 r2 e5 e2 e4
theorem a_16 (h : lwH x d Z Rf K n z Q) : sm_wp (d + 41) 198 658 [some (.inr (some 4000000)), some (.inr (some 0)), some (.inr (some 79)), some (.inl (x : Int))] [] (Z, Rf, K, n, z) Q := by
  have hA := h.1
  have hk := h.2.1
  have hr := h.2.2.1
  have hZ := h.2.2.2.1
  have k0 : (K 0).1 = 10 := by rw [kk_0 hA.1]
  rw [b198_658]
  refine ⟨hr 1 (by decide) (by decide), hr 2 (by decide) (by decide), k0, law_arm (okR_of (k_of (d := d + 32) hA (hZ _) (hZ _))) hk (fun v Z1 Rf1 K1 n1 z1 e1 e2 e3 e4 hm => ?_)⟩
  simp only [w_cont, Option.toList_some, List.cons_append, List.nil_append]
  rw [b198_672, e1, e2]
  refine ⟨hr 1 (by decide) (by decide), hr 2 (by decide) (by decide), e3, hm _ (fun Z2 r2 e5 => ?_)⟩
  simp only [w_cont, Option.toList_some, List.cons_append, List.nil_append]
  rw [b198_686, if_pos rfl]
  exact h.2.2.2.2.2 Z2 Rf1 K1 n1 z1 r2 e5 e2 e4
theorem a_17 (h : lwH x d Z Rf K n z Q) : sm_wp (d + 41) 198 691 [some (.inr (some 4000000)), some (.inr (some 0)), some (.inr (some 79)), some (.inl (x : Int))] [] (Z, Rf, K, n, z) Q := by
  have hA := h.1
  have hk := h.2.1
  have hr := h.2.2.1
  have hZ := h.2.2.2.1
  have k0 : (K 0).1 = 10 := by rw [kk_0 hA.1]
  rw [b198_691]
  refine ⟨hr 1 (by decide) (by decide), hr 2 (by decide) (by decide), hr 3 (by decide) (by decide), hr 4 (by decide) (by decide), k0, law_arm (okR_of (k_yard (d := d + 38) hA (hZ _) (hZ _) (hZ _) (hZ _))) hk (fun v Z1 Rf1 K1 n1 z1 e1 e2 e3 e4 hm => ?_)⟩
  simp only [w_cont, Option.toList_some, List.cons_append, List.nil_append]
  rw [b198_715, e1, e2]
  refine ⟨hr 1 (by decide) (by decide), hr 2 (by decide) (by decide), hr 3 (by decide) (by decide), hr 4 (by decide) (by decide), e3, hm _ (fun Z2 r2 e5 => ?_)⟩
  simp only [w_cont, Option.toList_some, List.cons_append, List.nil_append]
  rw [b198_739, if_pos rfl]
  exact h.2.2.2.2.2 Z2 Rf1 K1 n1 z1 r2 e5 e2 e4
theorem a_18 (h : lwH x d Z Rf K n z Q) : sm_wp (d + 41) 198 744 [some (.inr (some 4000000)), some (.inr (some 0)), some (.inr (some 79)), some (.inl (x : Int))] [] (Z, Rf, K, n, z) Q := by
  have hA := h.1
  have hk := h.2.1
  have hr := h.2.2.1
  have hZ := h.2.2.2.1
  have k0 : (K 0).1 = 10 := by rw [kk_0 hA.1]
  rw [b198_744]
  refine ⟨hr 1 (by decide) (by decide), hr 2 (by decide) (by decide), k0, law_arm (okR_of (k_suit (d := d + 38) hA (hZ _) (hZ _))) hk (fun v Z1 Rf1 K1 n1 z1 e1 e2 e3 e4 hm => ?_)⟩
  simp only [w_cont, Option.toList_some, List.cons_append, List.nil_append]
  rw [b198_758, e1, e2]
  refine ⟨hr 1 (by decide) (by decide), hr 2 (by decide) (by decide), e3, hm _ (fun Z2 r2 e5 => ?_)⟩
  simp only [w_cont, Option.toList_some, List.cons_append, List.nil_append]
  rw [b198_772, if_pos rfl]
  exact h.2.2.2.2.2 Z2 Rf1 K1 n1 z1 r2 e5 e2 e4
theorem a_19 (h : lwH x d Z Rf K n z Q) : sm_wp (d + 41) 198 777 [some (.inr (some 4000000)), some (.inr (some 0)), some (.inr (some 79)), some (.inl (x : Int))] [] (Z, Rf, K, n, z) Q := by
  have hA := h.1
  have hk := h.2.1
  have hr := h.2.2.1
  have hZ := h.2.2.2.1
  have k0 : (K 0).1 = 10 := by rw [kk_0 hA.1]
  rw [b198_777]
  refine ⟨hr 1 (by decide) (by decide), hr 2 (by decide) (by decide), hr 3 (by decide) (by decide), k0, law_arm (okR_of (k_steal (d := d + 39) hA (hZ _) (hZ _) (hZ _))) hk (fun v Z1 Rf1 K1 n1 z1 e1 e2 e3 e4 hm => ?_)⟩
  simp only [w_cont, Option.toList_some, List.cons_append, List.nil_append]
  rw [b198_796, e1, e2]
  refine ⟨hr 1 (by decide) (by decide), hr 2 (by decide) (by decide), hr 3 (by decide) (by decide), e3, hm _ (fun Z2 r2 e5 => ?_)⟩
  simp only [w_cont, Option.toList_some, List.cons_append, List.nil_append]
  rw [b198_815, if_pos rfl]
  exact h.2.2.2.2.2 Z2 Rf1 K1 n1 z1 r2 e5 e2 e4
theorem a_20 (h : lwH x d Z Rf K n z Q) : sm_wp (d + 41) 198 820 [some (.inr (some 4000000)), some (.inr (some 0)), some (.inr (some 79)), some (.inl (x : Int))] [] (Z, Rf, K, n, z) Q := by
  have hA := h.1
  have hk := h.2.1
  have hr := h.2.2.1
  have hZ := h.2.2.2.1
  have k0 : (K 0).1 = 10 := by rw [kk_0 hA.1]
  rw [b198_820]
  refine ⟨hr 1 (by decide) (by decide), hr 2 (by decide) (by decide), k0, law_arm (okR_of (k_ends (d := d + 32) hA (hZ _) (hZ _))) hk (fun v Z1 Rf1 K1 n1 z1 e1 e2 e3 e4 hm => ?_)⟩
  simp only [w_cont, Option.toList_some, List.cons_append, List.nil_append]
  rw [b198_834, e1, e2]
  refine ⟨hr 1 (by decide) (by decide), hr 2 (by decide) (by decide), e3, hm _ (fun Z2 r2 e5 => ?_)⟩
  simp only [w_cont, Option.toList_some, List.cons_append, List.nil_append]
  rw [b198_848, if_pos rfl]
  exact h.2.2.2.2.2 Z2 Rf1 K1 n1 z1 r2 e5 e2 e4
theorem a_21 (h : lwH x d Z Rf K n z Q) : sm_wp (d + 41) 198 853 [some (.inr (some 4000000)), some (.inr (some 0)), some (.inr (some 79)), some (.inl (x : Int))] [] (Z, Rf, K, n, z) Q := by
  have hA := h.1
  have hk := h.2.1
  have hr := h.2.2.1
  have hZ := h.2.2.2.1
  have k0 : (K 0).1 = 10 := by rw [kk_0 hA.1]
  rw [b198_853]
  refine ⟨hr 1 (by decide) (by decide), hr 2 (by decide) (by decide), hr 3 (by decide) (by decide), k0, law_arm (okR_of (k_plan (d := d + 32) hA (hZ _) (hZ _) (hZ _))) hk (fun v Z1 Rf1 K1 n1 z1 e1 e2 e3 e4 hm => ?_)⟩
  simp only [w_cont, Option.toList_some, List.cons_append, List.nil_append]
  rw [b198_872, e1, e2]
  refine ⟨hr 1 (by decide) (by decide), hr 2 (by decide) (by decide), hr 3 (by decide) (by decide), e3, hm _ (fun Z2 r2 e5 => ?_)⟩
  simp only [w_cont, Option.toList_some, List.cons_append, List.nil_append]
  rw [b198_891, if_pos rfl]
  exact h.2.2.2.2.2 Z2 Rf1 K1 n1 z1 r2 e5 e2 e4
theorem a_22 (h : lwH x d Z Rf K n z Q) : sm_wp (d + 41) 198 896 [some (.inr (some 4000000)), some (.inr (some 0)), some (.inr (some 79)), some (.inl (x : Int))] [] (Z, Rf, K, n, z) Q := by
  have hA := h.1
  have hk := h.2.1
  have hr := h.2.2.1
  have hZ := h.2.2.2.1
  have k0 : (K 0).1 = 10 := by rw [kk_0 hA.1]
  rw [b198_896]
  refine ⟨hr 1 (by decide) (by decide), hr 2 (by decide) (by decide), hr 3 (by decide) (by decide), k0, law_arm (okR_of (k_hatch (d := d + 37) hA (hZ _) (hZ _) (hZ _))) hk (fun v Z1 Rf1 K1 n1 z1 e1 e2 e3 e4 hm => ?_)⟩
  simp only [w_cont, Option.toList_some, List.cons_append, List.nil_append]
  rw [b198_915, e1, e2]
  refine ⟨hr 1 (by decide) (by decide), hr 2 (by decide) (by decide), hr 3 (by decide) (by decide), e3, hm _ (fun Z2 r2 e5 => ?_)⟩
  simp only [w_cont, Option.toList_some, List.cons_append, List.nil_append]
  rw [b198_934, if_pos rfl]
  exact h.2.2.2.2.2 Z2 Rf1 K1 n1 z1 r2 e5 e2 e4
theorem a_23 (h : lwH x d Z Rf K n z Q) : sm_wp (d + 41) 198 939 [some (.inr (some 4000000)), some (.inr (some 0)), some (.inr (some 79)), some (.inl (x : Int))] [] (Z, Rf, K, n, z) Q := by
  have hA := h.1
  have hk := h.2.1
  have hr := h.2.2.1
  have hZ := h.2.2.2.1
  have k0 : (K 0).1 = 10 := by rw [kk_0 hA.1]
  rw [b198_939]
  refine ⟨hr 1 (by decide) (by decide), hr 2 (by decide) (by decide), k0, law_arm (okR_of (k_odds (d := d + 32) hA (hZ _) (hZ _))) hk (fun v Z1 Rf1 K1 n1 z1 e1 e2 e3 e4 hm => ?_)⟩
  simp only [w_cont, Option.toList_some, List.cons_append, List.nil_append]
  rw [b198_953, e1, e2]
  refine ⟨hr 1 (by decide) (by decide), hr 2 (by decide) (by decide), e3, hm _ (fun Z2 r2 e5 => ?_)⟩
  simp only [w_cont, Option.toList_some, List.cons_append, List.nil_append]
  rw [b198_967, if_pos rfl]
  exact h.2.2.2.2.2 Z2 Rf1 K1 n1 z1 r2 e5 e2 e4
theorem a_24 (h : lwH x d Z Rf K n z Q) : sm_wp (d + 41) 198 972 [some (.inr (some 4000000)), some (.inr (some 0)), some (.inr (some 79)), some (.inl (x : Int))] [] (Z, Rf, K, n, z) Q := by
  have hA := h.1
  have hk := h.2.1
  have hr := h.2.2.1
  have hZ := h.2.2.2.1
  have k0 : (K 0).1 = 10 := by rw [kk_0 hA.1]
  by_cases hb : wr (Z 4000000 ((wr ((x : Int) + 3)).toNat)) = 0
  · rw [b198_972]
    refine ⟨hr 1 (by decide) (by decide), hr 2 (by decide) (by decide), hr 3 (by decide) (by decide), ?_⟩
    rw [if_pos hb, b198_995, b198_996]
    refine ⟨k0, law_arm (okR_of (k_claim (d := d + 37) hA (hZ _) (hZ _) (Or.inl rfl))) hk (fun v Z1 Rf1 K1 n1 z1 e1 e2 e3 e4 hm => ?_)⟩
    simp only [w_cont, Option.toList_some, List.cons_append, List.nil_append]
    rw [b198_999, e1, e2]
    refine ⟨hr 1 (by decide) (by decide), hr 2 (by decide) (by decide), hr 3 (by decide) (by decide), ?_⟩
    rw [if_pos hb, b198_1022, b198_1023]
    refine ⟨e3, hm _ (fun Z2 r2 e5 => ?_)⟩
    simp only [w_cont, Option.toList_some, List.cons_append, List.nil_append]
    rw [b198_1026, if_pos rfl]
    exact h.2.2.2.2.2 Z2 Rf1 K1 n1 z1 r2 e5 e2 e4
  · rw [b198_972]
    refine ⟨hr 1 (by decide) (by decide), hr 2 (by decide) (by decide), hr 3 (by decide) (by decide), ?_⟩
    rw [if_neg hb, b198_991, b198_996]
    refine ⟨k0, law_arm (okR_of (k_claim (d := d + 37) hA (hZ _) (hZ _) (Or.inr rfl))) hk (fun v Z1 Rf1 K1 n1 z1 e1 e2 e3 e4 hm => ?_)⟩
    simp only [w_cont, Option.toList_some, List.cons_append, List.nil_append]
    rw [b198_999, e1, e2]
    refine ⟨hr 1 (by decide) (by decide), hr 2 (by decide) (by decide), hr 3 (by decide) (by decide), ?_⟩
    rw [if_neg hb, b198_1018, b198_1023]
    refine ⟨e3, hm _ (fun Z2 r2 e5 => ?_)⟩
    simp only [w_cont, Option.toList_some, List.cons_append, List.nil_append]
    rw [b198_1026, if_pos rfl]
    exact h.2.2.2.2.2 Z2 Rf1 K1 n1 z1 r2 e5 e2 e4
theorem a_25 (h : lwH x d Z Rf K n z Q) : sm_wp (d + 41) 198 1031 [some (.inr (some 4000000)), some (.inr (some 0)), some (.inr (some 79)), some (.inl (x : Int))] [] (Z, Rf, K, n, z) Q := by
  have hA := h.1
  have hk := h.2.1
  have hr := h.2.2.1
  have hZ := h.2.2.2.1
  have k0 : (K 0).1 = 10 := by rw [kk_0 hA.1]
  rw [b198_1031]
  refine ⟨hr 1 (by decide) (by decide), k0, law_arm (okR_of (k_back (d := d + 32) hA (hZ _))) hk (fun v Z1 Rf1 K1 n1 z1 e1 e2 e3 e4 hm => ?_)⟩
  simp only [w_cont, Option.toList_some, List.cons_append, List.nil_append]
  rw [b198_1040, e1, e2]
  refine ⟨hr 1 (by decide) (by decide), e3, hm _ (fun Z2 r2 e5 => ?_)⟩
  simp only [w_cont, Option.toList_some, List.cons_append, List.nil_append]
  rw [b198_1049, if_pos rfl]
  exact h.2.2.2.2.2 Z2 Rf1 K1 n1 z1 r2 e5 e2 e4
theorem a_26 (h : lwH x d Z Rf K n z Q) : sm_wp (d + 41) 198 1054 [some (.inr (some 4000000)), some (.inr (some 0)), some (.inr (some 79)), some (.inl (x : Int))] [] (Z, Rf, K, n, z) Q := by
  have hA := h.1
  have hk := h.2.1
  have hr := h.2.2.1
  have hZ := h.2.2.2.1
  have k0 : (K 0).1 = 10 := by rw [kk_0 hA.1]
  rw [b198_1054]
  refine ⟨hr 1 (by decide) (by decide), hr 2 (by decide) (by decide), k0, law_arm (okR_of (k_part (d := d + 32) hA (hZ _) (hZ _))) hk (fun v Z1 Rf1 K1 n1 z1 e1 e2 e3 e4 hm => ?_)⟩
  simp only [w_cont, Option.toList_some, List.cons_append, List.nil_append]
  rw [b198_1068, e1, e2]
  refine ⟨hr 1 (by decide) (by decide), hr 2 (by decide) (by decide), e3, hm _ (fun Z2 r2 e5 => ?_)⟩
  simp only [w_cont, Option.toList_some, List.cons_append, List.nil_append]
  rw [b198_1082, if_pos rfl]
  exact h.2.2.2.2.2 Z2 Rf1 K1 n1 z1 r2 e5 e2 e4
theorem a_27 (h : lwH x d Z Rf K n z Q) : sm_wp (d + 41) 198 1087 [some (.inr (some 4000000)), some (.inr (some 0)), some (.inr (some 79)), some (.inl (x : Int))] [] (Z, Rf, K, n, z) Q := by
  have hA := h.1
  have hk := h.2.1
  have hr := h.2.2.1
  have hZ := h.2.2.2.1
  have k0 : (K 0).1 = 10 := by rw [kk_0 hA.1]
  by_cases hb : wr (Z 4000000 ((wr ((x : Int) + 1)).toNat)) = 0
  · rw [b198_1087]
    refine ⟨hr 1 (by decide) (by decide), ?_⟩
    rw [if_pos hb, b198_1100, b198_1101]
    refine ⟨k0, law_arm (okR_of (k_image0 (d := d + 37) hA)) hk (fun v Z1 Rf1 K1 n1 z1 e1 e2 e3 e4 hm => ?_)⟩
    simp only [w_cont, Option.toList_some, List.cons_append, List.nil_append]
    rw [b198_1104, e1, e2]
    refine ⟨hr 1 (by decide) (by decide), ?_⟩
    rw [if_pos hb, b198_1117, b198_1118]
    refine ⟨e3, hm _ (fun Z2 r2 e5 => ?_)⟩
    simp only [w_cont, Option.toList_some, List.cons_append, List.nil_append]
    rw [b198_1121, if_pos rfl]
    exact h.2.2.2.2.2 Z2 Rf1 K1 n1 z1 r2 e5 e2 e4
  · rw [b198_1087]
    refine ⟨hr 1 (by decide) (by decide), ?_⟩
    rw [if_neg hb, b198_1096, b198_1101]
    refine ⟨k0, law_arm (okR_of (k_image1 (d := d + 37) hA)) hk (fun v Z1 Rf1 K1 n1 z1 e1 e2 e3 e4 hm => ?_)⟩
    simp only [w_cont, Option.toList_some, List.cons_append, List.nil_append]
    rw [b198_1104, e1, e2]
    refine ⟨hr 1 (by decide) (by decide), ?_⟩
    rw [if_neg hb, b198_1113, b198_1118]
    refine ⟨e3, hm _ (fun Z2 r2 e5 => ?_)⟩
    simp only [w_cont, Option.toList_some, List.cons_append, List.nil_append]
    rw [b198_1121, if_pos rfl]
    exact h.2.2.2.2.2 Z2 Rf1 K1 n1 z1 r2 e5 e2 e4
theorem a_28 (h : lwH x d Z Rf K n z Q) : sm_wp (d + 41) 198 1126 [some (.inr (some 4000000)), some (.inr (some 0)), some (.inr (some 79)), some (.inl (x : Int))] [] (Z, Rf, K, n, z) Q := by
  have hA := h.1
  have hk := h.2.1
  have hr := h.2.2.1
  have hZ := h.2.2.2.1
  have k0 : (K 0).1 = 10 := by rw [kk_0 hA.1]
  rw [b198_1126]
  refine ⟨hr 1 (by decide) (by decide), k0, law_arm (okR_of (k_look (d := d + 32) hA (hZ _))) hk (fun v Z1 Rf1 K1 n1 z1 e1 e2 e3 e4 hm => ?_)⟩
  simp only [w_cont, Option.toList_some, List.cons_append, List.nil_append]
  rw [b198_1135, e1, e2]
  refine ⟨hr 1 (by decide) (by decide), e3, hm _ (fun Z2 r2 e5 => ?_)⟩
  simp only [w_cont, Option.toList_some, List.cons_append, List.nil_append]
  rw [b198_1144, if_pos rfl]
  exact h.2.2.2.2.2 Z2 Rf1 K1 n1 z1 r2 e5 e2 e4
theorem a_all (h : lwH x d Z Rf K n z Q) (t : Int) : sm_wp (d + 41) 198 (sm_sel t 1149 [(0, 164), (1, 187), (2, 220), (3, 263), (4, 286), (5, 309), (6, 322), (7, 345), (8, 404), (9, 437), (10, 500), (11, 563), (12, 586), (13, 609), (14, 632), (15, 645), (16, 658), (17, 691), (18, 744), (19, 777), (20, 820), (21, 853), (22, 896), (23, 939), (24, 972), (25, 1031), (26, 1054), (27, 1087), (28, 1126)]) [some (.inr (some 4000000)), some (.inr (some 0)), some (.inr (some 79)), some (.inl (x : Int))] [] (Z, Rf, K, n, z) Q := by
  by_cases g0 : t = 0
  · rw [g0, show sm_sel 0 1149 [(0, 164), (1, 187), (2, 220), (3, 263), (4, 286), (5, 309), (6, 322), (7, 345), (8, 404), (9, 437), (10, 500), (11, 563), (12, 586), (13, 609), (14, 632), (15, 645), (16, 658), (17, 691), (18, 744), (19, 777), (20, 820), (21, 853), (22, 896), (23, 939), (24, 972), (25, 1031), (26, 1054), (27, 1087), (28, 1126)] = 164 by decide]
    exact a_0 h
  by_cases g1 : t = 1
  · rw [g1, show sm_sel 1 1149 [(0, 164), (1, 187), (2, 220), (3, 263), (4, 286), (5, 309), (6, 322), (7, 345), (8, 404), (9, 437), (10, 500), (11, 563), (12, 586), (13, 609), (14, 632), (15, 645), (16, 658), (17, 691), (18, 744), (19, 777), (20, 820), (21, 853), (22, 896), (23, 939), (24, 972), (25, 1031), (26, 1054), (27, 1087), (28, 1126)] = 187 by decide]
    exact a_1 h
  by_cases g2 : t = 2
  · rw [g2, show sm_sel 2 1149 [(0, 164), (1, 187), (2, 220), (3, 263), (4, 286), (5, 309), (6, 322), (7, 345), (8, 404), (9, 437), (10, 500), (11, 563), (12, 586), (13, 609), (14, 632), (15, 645), (16, 658), (17, 691), (18, 744), (19, 777), (20, 820), (21, 853), (22, 896), (23, 939), (24, 972), (25, 1031), (26, 1054), (27, 1087), (28, 1126)] = 220 by decide]
    exact a_2 h
  by_cases g3 : t = 3
  · rw [g3, show sm_sel 3 1149 [(0, 164), (1, 187), (2, 220), (3, 263), (4, 286), (5, 309), (6, 322), (7, 345), (8, 404), (9, 437), (10, 500), (11, 563), (12, 586), (13, 609), (14, 632), (15, 645), (16, 658), (17, 691), (18, 744), (19, 777), (20, 820), (21, 853), (22, 896), (23, 939), (24, 972), (25, 1031), (26, 1054), (27, 1087), (28, 1126)] = 263 by decide]
    exact a_3 h
  by_cases g4 : t = 4
  · rw [g4, show sm_sel 4 1149 [(0, 164), (1, 187), (2, 220), (3, 263), (4, 286), (5, 309), (6, 322), (7, 345), (8, 404), (9, 437), (10, 500), (11, 563), (12, 586), (13, 609), (14, 632), (15, 645), (16, 658), (17, 691), (18, 744), (19, 777), (20, 820), (21, 853), (22, 896), (23, 939), (24, 972), (25, 1031), (26, 1054), (27, 1087), (28, 1126)] = 286 by decide]
    exact a_4 h
  by_cases g5 : t = 5
  · rw [g5, show sm_sel 5 1149 [(0, 164), (1, 187), (2, 220), (3, 263), (4, 286), (5, 309), (6, 322), (7, 345), (8, 404), (9, 437), (10, 500), (11, 563), (12, 586), (13, 609), (14, 632), (15, 645), (16, 658), (17, 691), (18, 744), (19, 777), (20, 820), (21, 853), (22, 896), (23, 939), (24, 972), (25, 1031), (26, 1054), (27, 1087), (28, 1126)] = 309 by decide]
    exact a_5 h
  by_cases g6 : t = 6
  · rw [g6, show sm_sel 6 1149 [(0, 164), (1, 187), (2, 220), (3, 263), (4, 286), (5, 309), (6, 322), (7, 345), (8, 404), (9, 437), (10, 500), (11, 563), (12, 586), (13, 609), (14, 632), (15, 645), (16, 658), (17, 691), (18, 744), (19, 777), (20, 820), (21, 853), (22, 896), (23, 939), (24, 972), (25, 1031), (26, 1054), (27, 1087), (28, 1126)] = 322 by decide]
    exact a_6 h
  by_cases g7 : t = 7
  · rw [g7, show sm_sel 7 1149 [(0, 164), (1, 187), (2, 220), (3, 263), (4, 286), (5, 309), (6, 322), (7, 345), (8, 404), (9, 437), (10, 500), (11, 563), (12, 586), (13, 609), (14, 632), (15, 645), (16, 658), (17, 691), (18, 744), (19, 777), (20, 820), (21, 853), (22, 896), (23, 939), (24, 972), (25, 1031), (26, 1054), (27, 1087), (28, 1126)] = 345 by decide]
    exact a_7 h
  by_cases g8 : t = 8
  · rw [g8, show sm_sel 8 1149 [(0, 164), (1, 187), (2, 220), (3, 263), (4, 286), (5, 309), (6, 322), (7, 345), (8, 404), (9, 437), (10, 500), (11, 563), (12, 586), (13, 609), (14, 632), (15, 645), (16, 658), (17, 691), (18, 744), (19, 777), (20, 820), (21, 853), (22, 896), (23, 939), (24, 972), (25, 1031), (26, 1054), (27, 1087), (28, 1126)] = 404 by decide]
    exact a_8 h
  by_cases g9 : t = 9
  · rw [g9, show sm_sel 9 1149 [(0, 164), (1, 187), (2, 220), (3, 263), (4, 286), (5, 309), (6, 322), (7, 345), (8, 404), (9, 437), (10, 500), (11, 563), (12, 586), (13, 609), (14, 632), (15, 645), (16, 658), (17, 691), (18, 744), (19, 777), (20, 820), (21, 853), (22, 896), (23, 939), (24, 972), (25, 1031), (26, 1054), (27, 1087), (28, 1126)] = 437 by decide]
    exact a_9 h
  by_cases g10 : t = 10
  · rw [g10, show sm_sel 10 1149 [(0, 164), (1, 187), (2, 220), (3, 263), (4, 286), (5, 309), (6, 322), (7, 345), (8, 404), (9, 437), (10, 500), (11, 563), (12, 586), (13, 609), (14, 632), (15, 645), (16, 658), (17, 691), (18, 744), (19, 777), (20, 820), (21, 853), (22, 896), (23, 939), (24, 972), (25, 1031), (26, 1054), (27, 1087), (28, 1126)] = 500 by decide]
    exact a_10 h
  by_cases g11 : t = 11
  · rw [g11, show sm_sel 11 1149 [(0, 164), (1, 187), (2, 220), (3, 263), (4, 286), (5, 309), (6, 322), (7, 345), (8, 404), (9, 437), (10, 500), (11, 563), (12, 586), (13, 609), (14, 632), (15, 645), (16, 658), (17, 691), (18, 744), (19, 777), (20, 820), (21, 853), (22, 896), (23, 939), (24, 972), (25, 1031), (26, 1054), (27, 1087), (28, 1126)] = 563 by decide]
    exact a_11 h
  by_cases g12 : t = 12
  · rw [g12, show sm_sel 12 1149 [(0, 164), (1, 187), (2, 220), (3, 263), (4, 286), (5, 309), (6, 322), (7, 345), (8, 404), (9, 437), (10, 500), (11, 563), (12, 586), (13, 609), (14, 632), (15, 645), (16, 658), (17, 691), (18, 744), (19, 777), (20, 820), (21, 853), (22, 896), (23, 939), (24, 972), (25, 1031), (26, 1054), (27, 1087), (28, 1126)] = 586 by decide]
    exact a_12 h
  by_cases g13 : t = 13
  · rw [g13, show sm_sel 13 1149 [(0, 164), (1, 187), (2, 220), (3, 263), (4, 286), (5, 309), (6, 322), (7, 345), (8, 404), (9, 437), (10, 500), (11, 563), (12, 586), (13, 609), (14, 632), (15, 645), (16, 658), (17, 691), (18, 744), (19, 777), (20, 820), (21, 853), (22, 896), (23, 939), (24, 972), (25, 1031), (26, 1054), (27, 1087), (28, 1126)] = 609 by decide]
    exact a_13 h
  by_cases g14 : t = 14
  · rw [g14, show sm_sel 14 1149 [(0, 164), (1, 187), (2, 220), (3, 263), (4, 286), (5, 309), (6, 322), (7, 345), (8, 404), (9, 437), (10, 500), (11, 563), (12, 586), (13, 609), (14, 632), (15, 645), (16, 658), (17, 691), (18, 744), (19, 777), (20, 820), (21, 853), (22, 896), (23, 939), (24, 972), (25, 1031), (26, 1054), (27, 1087), (28, 1126)] = 632 by decide]
    exact a_14 h
  by_cases g15 : t = 15
  · rw [g15, show sm_sel 15 1149 [(0, 164), (1, 187), (2, 220), (3, 263), (4, 286), (5, 309), (6, 322), (7, 345), (8, 404), (9, 437), (10, 500), (11, 563), (12, 586), (13, 609), (14, 632), (15, 645), (16, 658), (17, 691), (18, 744), (19, 777), (20, 820), (21, 853), (22, 896), (23, 939), (24, 972), (25, 1031), (26, 1054), (27, 1087), (28, 1126)] = 645 by decide]
    exact a_15 h
  by_cases g16 : t = 16
  · rw [g16, show sm_sel 16 1149 [(0, 164), (1, 187), (2, 220), (3, 263), (4, 286), (5, 309), (6, 322), (7, 345), (8, 404), (9, 437), (10, 500), (11, 563), (12, 586), (13, 609), (14, 632), (15, 645), (16, 658), (17, 691), (18, 744), (19, 777), (20, 820), (21, 853), (22, 896), (23, 939), (24, 972), (25, 1031), (26, 1054), (27, 1087), (28, 1126)] = 658 by decide]
    exact a_16 h
  by_cases g17 : t = 17
  · rw [g17, show sm_sel 17 1149 [(0, 164), (1, 187), (2, 220), (3, 263), (4, 286), (5, 309), (6, 322), (7, 345), (8, 404), (9, 437), (10, 500), (11, 563), (12, 586), (13, 609), (14, 632), (15, 645), (16, 658), (17, 691), (18, 744), (19, 777), (20, 820), (21, 853), (22, 896), (23, 939), (24, 972), (25, 1031), (26, 1054), (27, 1087), (28, 1126)] = 691 by decide]
    exact a_17 h
  by_cases g18 : t = 18
  · rw [g18, show sm_sel 18 1149 [(0, 164), (1, 187), (2, 220), (3, 263), (4, 286), (5, 309), (6, 322), (7, 345), (8, 404), (9, 437), (10, 500), (11, 563), (12, 586), (13, 609), (14, 632), (15, 645), (16, 658), (17, 691), (18, 744), (19, 777), (20, 820), (21, 853), (22, 896), (23, 939), (24, 972), (25, 1031), (26, 1054), (27, 1087), (28, 1126)] = 744 by decide]
    exact a_18 h
  by_cases g19 : t = 19
  · rw [g19, show sm_sel 19 1149 [(0, 164), (1, 187), (2, 220), (3, 263), (4, 286), (5, 309), (6, 322), (7, 345), (8, 404), (9, 437), (10, 500), (11, 563), (12, 586), (13, 609), (14, 632), (15, 645), (16, 658), (17, 691), (18, 744), (19, 777), (20, 820), (21, 853), (22, 896), (23, 939), (24, 972), (25, 1031), (26, 1054), (27, 1087), (28, 1126)] = 777 by decide]
    exact a_19 h
  by_cases g20 : t = 20
  · rw [g20, show sm_sel 20 1149 [(0, 164), (1, 187), (2, 220), (3, 263), (4, 286), (5, 309), (6, 322), (7, 345), (8, 404), (9, 437), (10, 500), (11, 563), (12, 586), (13, 609), (14, 632), (15, 645), (16, 658), (17, 691), (18, 744), (19, 777), (20, 820), (21, 853), (22, 896), (23, 939), (24, 972), (25, 1031), (26, 1054), (27, 1087), (28, 1126)] = 820 by decide]
    exact a_20 h
  by_cases g21 : t = 21
  · rw [g21, show sm_sel 21 1149 [(0, 164), (1, 187), (2, 220), (3, 263), (4, 286), (5, 309), (6, 322), (7, 345), (8, 404), (9, 437), (10, 500), (11, 563), (12, 586), (13, 609), (14, 632), (15, 645), (16, 658), (17, 691), (18, 744), (19, 777), (20, 820), (21, 853), (22, 896), (23, 939), (24, 972), (25, 1031), (26, 1054), (27, 1087), (28, 1126)] = 853 by decide]
    exact a_21 h
  by_cases g22 : t = 22
  · rw [g22, show sm_sel 22 1149 [(0, 164), (1, 187), (2, 220), (3, 263), (4, 286), (5, 309), (6, 322), (7, 345), (8, 404), (9, 437), (10, 500), (11, 563), (12, 586), (13, 609), (14, 632), (15, 645), (16, 658), (17, 691), (18, 744), (19, 777), (20, 820), (21, 853), (22, 896), (23, 939), (24, 972), (25, 1031), (26, 1054), (27, 1087), (28, 1126)] = 896 by decide]
    exact a_22 h
  by_cases g23 : t = 23
  · rw [g23, show sm_sel 23 1149 [(0, 164), (1, 187), (2, 220), (3, 263), (4, 286), (5, 309), (6, 322), (7, 345), (8, 404), (9, 437), (10, 500), (11, 563), (12, 586), (13, 609), (14, 632), (15, 645), (16, 658), (17, 691), (18, 744), (19, 777), (20, 820), (21, 853), (22, 896), (23, 939), (24, 972), (25, 1031), (26, 1054), (27, 1087), (28, 1126)] = 939 by decide]
    exact a_23 h
  by_cases g24 : t = 24
  · rw [g24, show sm_sel 24 1149 [(0, 164), (1, 187), (2, 220), (3, 263), (4, 286), (5, 309), (6, 322), (7, 345), (8, 404), (9, 437), (10, 500), (11, 563), (12, 586), (13, 609), (14, 632), (15, 645), (16, 658), (17, 691), (18, 744), (19, 777), (20, 820), (21, 853), (22, 896), (23, 939), (24, 972), (25, 1031), (26, 1054), (27, 1087), (28, 1126)] = 972 by decide]
    exact a_24 h
  by_cases g25 : t = 25
  · rw [g25, show sm_sel 25 1149 [(0, 164), (1, 187), (2, 220), (3, 263), (4, 286), (5, 309), (6, 322), (7, 345), (8, 404), (9, 437), (10, 500), (11, 563), (12, 586), (13, 609), (14, 632), (15, 645), (16, 658), (17, 691), (18, 744), (19, 777), (20, 820), (21, 853), (22, 896), (23, 939), (24, 972), (25, 1031), (26, 1054), (27, 1087), (28, 1126)] = 1031 by decide]
    exact a_25 h
  by_cases g26 : t = 26
  · rw [g26, show sm_sel 26 1149 [(0, 164), (1, 187), (2, 220), (3, 263), (4, 286), (5, 309), (6, 322), (7, 345), (8, 404), (9, 437), (10, 500), (11, 563), (12, 586), (13, 609), (14, 632), (15, 645), (16, 658), (17, 691), (18, 744), (19, 777), (20, 820), (21, 853), (22, 896), (23, 939), (24, 972), (25, 1031), (26, 1054), (27, 1087), (28, 1126)] = 1054 by decide]
    exact a_26 h
  by_cases g27 : t = 27
  · rw [g27, show sm_sel 27 1149 [(0, 164), (1, 187), (2, 220), (3, 263), (4, 286), (5, 309), (6, 322), (7, 345), (8, 404), (9, 437), (10, 500), (11, 563), (12, 586), (13, 609), (14, 632), (15, 645), (16, 658), (17, 691), (18, 744), (19, 777), (20, 820), (21, 853), (22, 896), (23, 939), (24, 972), (25, 1031), (26, 1054), (27, 1087), (28, 1126)] = 1087 by decide]
    exact a_27 h
  by_cases g28 : t = 28
  · rw [g28, show sm_sel 28 1149 [(0, 164), (1, 187), (2, 220), (3, 263), (4, 286), (5, 309), (6, 322), (7, 345), (8, 404), (9, 437), (10, 500), (11, 563), (12, 586), (13, 609), (14, 632), (15, 645), (16, 658), (17, 691), (18, 744), (19, 777), (20, 820), (21, 853), (22, 896), (23, 939), (24, 972), (25, 1031), (26, 1054), (27, 1087), (28, 1126)] = 1126 by decide]
    exact a_28 h
  rw [show sm_sel t 1149 [(0, 164), (1, 187), (2, 220), (3, 263), (4, 286), (5, 309), (6, 322), (7, 345), (8, 404), (9, 437), (10, 500), (11, 563), (12, 586), (13, 609), (14, 632), (15, 645), (16, 658), (17, 691), (18, 744), (19, 777), (20, 820), (21, 853), (22, 896), (23, 939), (24, 972), (25, 1031), (26, 1054), (27, 1087), (28, 1126)] = 1149 by simp only [sm_sel, g0, g1, g2, g3, g4, g5, g6, g7, g8, g9, g10, g11, g12, g13, g14, g15, g16, g17, g18, g19, g20, g21, g22, g23, g24, g25, g26, g27, g28, if_false]]
  exact h.2.2.2.2.2 Z Rf K n z h.1 rfl rfl (by omega)
end ARMS
