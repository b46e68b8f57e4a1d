/-! The model's constructor, and the start. -/
theorem cnew_cg {Z Z' : Nat → Nat → Int} {w h : Int} {a : Nat} (e : Z a = Z' a) : c_new Z w h a = c_new Z' w h a := by
  funext j
  have ej : Z a j = Z' a j := congrFun e j
  simp only [c_new, c_new1, sm_u, sm_fr, ej]
section CTOR2
variable {d n z : Nat} {Rf : Nat → Nat → Option Nat} {K : Nat → Nat × Nat} {Z : Nat → Nat → Int} {Q : Option sm_V → sm_S → Prop}
theorem land_core {Z2 : Nat → Nat → Int} {w h : Int} (ht : (2 ≤ w ∧ w ≤ 10) ∧ (2 ≤ h ∧ h ≤ 10)) (a1 : sm_sh Rf K) (a2 : sm_zs Z) (a3 : stI Z) (a5 : Z 1 2 = Z 80 2) (a6 : rKp Z Rf K) (a8 : rTp Z) (a9 : rFt Z) (a10 : Z 79 6 = 0) (a11 : 97 ≤ n ∧ Rf 19 1 = some 20 ∧ Z 19 0 = 0) (a12 : hbN Rf n) (oc : ∀ a, a ≠ 0 → a ≠ 79 → a ≠ 80 → Z2 a = c_new Z w h a) (v0 : ∀ j, Z2 0 j = if j = 12 then 0 else Z 0 j) (v79 : ∀ j, Z2 79 j = if j = 4 then 0 else Z 79 j) (v80 : ∀ k, Z2 80 k = if k = 6 then 0 else if 1092 ≤ k ∧ k < 1334 then -1 else if 850 ≤ k ∧ k < 1092 then -1 else if 420 ≤ k ∧ k < 520 then 1 else if k = 1 then h else if k = 0 then w else if k = 2 then Z 80 2 else if 0 ≤ k ∧ k < 5480 then 0 else Z 80 k) : rAll Z2 (hbE Rf) K n := by
  have e : ∀ a, a ≠ 0 → a ≠ 79 → a ≠ 80 → ((17 ≤ a ∧ a < 22) ∨ 24 < a) → Z2 a = Z a := fun a q0 q1 q2 q3 => by rw [oc a q0 q1 q2, cnew_o (by omega)]
  have z0 : ∀ k, (3 ≤ k ∧ k < 420) ∨ (520 ≤ k ∧ k < 850) ∨ (1334 ≤ k ∧ k < 5480) → Z2 80 k = 0 := fun k hk => by
    rw [v80]
    by_cases g : k = 6
    · rw [if_pos g]
    · rw [if_neg g, if_neg (by omega), if_neg (by omega), if_neg (by omega), if_neg (by omega), if_neg (by omega), if_neg (by omega), if_pos (by omega)]
  have z1 : ∀ k, k < 100 → Z2 80 (420 + k) = 1 := fun k hk => by rw [v80, if_neg (by omega), if_neg (by omega), if_neg (by omega), if_pos (by omega)]
  have zm : ∀ k, 850 ≤ k → k < 1334 → Z2 80 k = -1 := fun k q1 q2 => by
    rw [v80, if_neg (by omega)]
    by_cases g : 1092 ≤ k ∧ k < 1334
    · rw [if_pos g]
    · rw [if_neg g, if_pos (by omega)]
  have w0 : Z2 80 0 = w := by rw [v80]; rfl
  have w1 : Z2 80 1 = h := by rw [v80]; rfl
  have w2 : Z2 80 2 = Z 80 2 := by rw [v80]; rfl
  obtain ⟨c1, c2, c3, c4, c5, c6⟩ := cnew_c Z w h
  have H1 : sm_sh (hbE Rf) K := by
    unfold hbE
    exact sm_sh_u (sm_sh_u (sm_sh_u (sm_sh_u a1 (Or.inl rfl)) (Or.inl rfl)) (Or.inl rfl)) (Or.inl rfl)
  have wf : ∀ k, k < 4 → wfL (Z2 80) k 0 (fun _ => 0) := fun k hk => ⟨by rw [z0 _ (by omega)]; rfl, by omega, rfl, fun i hi => by omega⟩
  have hb18 : rHb Z2 (hbE Rf) K (Z2 80) 18 := fun k hk => ⟨19, 20, 0, fun _ => 0, hbE_18 hk, a1.2.2.2.2, by rw [hbE_o (by decide)]; exact a11.2.1, Or.inl rfl, Or.inl rfl, wf k hk, a1.1 20 (by decide), fun i hi => by omega, by rw [e 19 (by decide) (by decide) (by decide) (by omega)]; exact a11.2.2⟩
  refine ⟨H1, zs_fr a2 (fun a ha => e a (by omega) (by omega) (by omega) (by omega)), stI_fr (fun a ha => ?_) a3, ?_, ?_, ?_, ?_, ?_, ?_, by rw [v79, if_neg (by decide)]; exact a10, ⟨a11.1, by rw [hbE_o (by decide)]; exact a11.2.1, by rw [e 19 (by decide) (by decide) (by decide) (by omega)]; exact a11.2.2⟩, ?_⟩
  · by_cases g : 24 < a
    · rw [e a (by omega) (by omega) (by omega) (by omega)]
    · rw [oc a (by omega) (by omega) (by omega)]
      have : a = 10 ∨ a = 12 ∨ a = 14 ∨ a = 16 ∨ a = 24 := by omega
      rcases this with g | g | g | g | g <;> rw [g]
      · exact c4.1
      · exact c4.2.1
      · exact c4.2.2.1
      · exact c4.2.2.2.1
      · exact c4.2.2.2.2
  · refine ⟨⟨?_, fun k hk => ?_, fun k hk => ?_, ?_, fun c hc => ?_, fun k hk => ?_, fun k hk => ⟨0, _, wf k hk⟩⟩, ⟨?_, fun s hs => ?_⟩, ?_, fun c hc => ?_, fun c hc => ?_, fun c hc => ?_, fun c hc => ?_, ⟨?_, fun i hi => ?_⟩, ⟨?_, fun i hi => ?_⟩, ⟨?_, fun i hi => ?_⟩, fun i hi => ?_⟩
    · unfold szN; rw [w0, w1]; omega
    · rw [zm _ (by omega) (by omega)]; omega
    · rw [zm _ (by omega) (by omega)]; omega
    · rw [z0 _ (by omega)]; omega
    · rw [z0 _ (by omega)]; exact Or.inl rfl
    · rw [z0 _ (by omega)]; exact Or.inl rfl
    · rw [z0 _ (by omega)]; omega
    · rw [z0 4 (by omega)] at hs; omega
    · rw [z0 _ (by omega)]; omega
    · rw [z0 _ (by omega)]; exact Or.inl rfl
    · rw [z0 _ (by omega)]; exact Or.inl rfl
    · rw [z1 c hc]; omega
    · rw [z0 _ (by omega)]; omega
    · rw [z0 _ (by omega)]; omega
    · rw [z0 5 (by omega)] at hi; omega
    · rw [z0 _ (by omega)]; omega
    · rw [z0 7 (by omega)] at hi; omega
    · rw [z0 _ (by omega)]; omega
    · rw [z0 8 (by omega)] at hi; omega
    · rw [z0 6 (by omega)] at hi; omega
  · refine ⟨?_, fun c hc => ?_, fun k hk => ?_, ⟨?_, fun i hi => ?_⟩, ⟨?_, fun i hi => ?_⟩, ⟨?_, fun i hi => ?_⟩, ⟨?_, fun i hi => ?_⟩, hb18, ?_⟩
    · rw [oc 1 (by decide) (by decide) (by decide), w0, w1, w2, z0 3 (by omega)]
      exact ⟨c6.1, c6.2.1, by rw [c6.2.2.1]; exact a5, c6.2.2.2⟩
    · rw [oc (1 + 1) (by omega) (by omega) (by omega), oc (1 + 2) (by omega) (by omega) (by omega), oc (1 + 3) (by omega) (by omega) (by omega), oc (1 + 4) (by omega) (by omega) (by omega), oc (1 + 5) (by omega) (by omega) (by omega), oc (1 + 6) (by omega) (by omega) (by omega), oc (1 + 7) (by omega) (by omega) (by omega), z0 (20 + c) (by omega), z1 c hc, z0 (320 + c) (by omega), z0 (120 + c) (by omega), z0 (220 + c) (by omega), if_pos rfl, if_pos rfl]
      exact c1 c hc
    · rw [oc _ (by omega) (by omega) (by omega), z0 _ (by omega)]; exact c2 k hk
    · rw [oc _ (by omega) (by omega) (by omega), z0 _ (by omega)]; exact c3.1
    · rw [z0 5 (by omega)] at hi; omega
    · rw [oc _ (by omega) (by omega) (by omega), z0 _ (by omega)]; exact c3.2.1
    · rw [z0 4 (by omega)] at hi; omega
    · rw [oc _ (by omega) (by omega) (by omega), z0 _ (by omega)]; exact c3.2.2.1
    · rw [z0 7 (by omega)] at hi; omega
    · rw [oc _ (by omega) (by omega) (by omega), z0 _ (by omega)]; exact c3.2.2.2.1
    · rw [z0 8 (by omega)] at hi; omega
    · refine ⟨fun k hk => ?_, fun k hk => ?_, Or.inr ⟨rfl, ?_, ?_, fun i hi => ?_⟩⟩
      · rw [oc _ (by omega) (by omega) (by omega), zm _ (by omega) (by omega)]; exact (c5 k hk).1
      · rw [oc _ (by omega) (by omega) (by omega), zm _ (by omega) (by omega)]; exact (c5 k hk).2
      · rw [oc _ (by omega) (by omega) (by omega)]
        exact c4.2.2.2.2.trans a3.2.2.2.2.1
      · rw [oc _ (by omega) (by omega) (by omega), z0 _ (by omega)]; exact c3.2.2.2.2
      · rw [z0 6 (by omega)] at hi; omega
  · unfold rKp at a6 ⊢
    rw [v0, v79, if_neg (by decide), if_neg (by decide), e 81 (by decide) (by decide) (by decide) (by omega)]
    refine ⟨a6.1, a6.2.1, fun g => ⟨(a6.2.2 g).1, rD_hab (a6.2.2 g).1 (fun a p1 p2 => e a (by omega) (by omega) (by omega) (by omega)) (fun _ _ => rfl) (rHb_mv (fun _ _ => rfl) (fun a ha => e a (by omega) (by omega) (by omega) (by omega)) (fun k _ => by rw [hbE_o (by decide)]) (fun a ha => hbE_o (by omega)) (a6.2.2 g).2.2.2.2.2.2.2.2.1) (a6.2.2 g).2⟩⟩
  · unfold rCh
    rw [v0, v79, if_pos rfl, if_pos rfl]
    exact ⟨rfl, by omega, fun j hj => absurd hj (by omega)⟩
  · unfold rTp at a8 ⊢
    rw [v0, v79, if_neg (by decide), if_neg (by decide), e 77 (by decide) (by decide) (by decide) (by omega), e 86 (by decide) (by decide) (by decide) (by omega)]
    exact a8
  · unfold rFt at a9 ⊢
    rw [v0, v0, v79, v79, if_neg (by decide), if_neg (by decide), if_neg (by decide), if_neg (by decide)]
    exact a9
  · intro b hb k hk a ha
    rcases hb with g | g
    · rw [g, hbE_18 hk] at ha
      have ea := Option.some.inj ha
      refine ⟨by have := a11.1; omega, fun q hq => ?_⟩
      rw [← ea, hbE_o (by decide), a11.2.1] at hq
      have := Option.some.inj hq
      have := a11.1
      omega
    · rw [g, hbE_o (by decide)] at ha
      have y := a12 43 (Or.inr rfl) k hk a ha
      refine ⟨y.1, fun q hq => ?_⟩
      by_cases g18 : a = 18
      · rw [g18, hbE_18 (by decide)] at hq
        have := Option.some.inj hq
        have := a11.1
        omega
      · rw [hbE_o g18] at hq
        exact y.2 q hq
def oL {α : Type} (N : Nat) (f g : Nat → Nat → α) : Prop := ∀ a, a < N → f a = g a
theorem oL_r {α : Type} {N n : Nat} {f g : Nat → Nat → α} {v : Nat → α} (h : oL N f g) (hn : N ≤ n) : oL N (sm_r f n v) g := by
  intro a ha
  rw [sm_rw_ne (by omega)]
  exact h a ha
theorem oL_u {α : Type} {N n i : Nat} {f g : Nat → Nat → α} {v : α} (h : oL N f g) (hn : N ≤ n) : oL N (sm_u f n i v) g := by
  intro a ha
  rw [sm_u_row (by omega)]
  exact h a ha
theorem oL_z {α : Type} {N : Nat} {f : Nat → Nat → α} : oL N f f := fun _ _ => rfl
theorem rN97_of {l : List (Nat × Nat × Nat)} {Rf Rf1 : Nat → Nat → Option Nat} (h79 : rN 79 Rf) (ho : oL 79 Rf1 Rf) (h : gR l Rf1) (hl : (List.range 97).all (fun a => (List.range 37).all (fun k => decide (a < 79) || !(decide ((kF a).1 < 12) && decide (sm_ft (kF a).1 k = 1)) || l.any (fun p => decide (p.1 = a) && decide (p.2.1 = k) && decide (rF a k = some p.2.2)))) = true) : rN 97 Rf1 := by
  intro a k ha h1 h2 hk h3 h4
  by_cases g79 : a < 79
  · rw [ho a g79]
    exact h79 a k g79 h1 h2 hk h3 h4
  · have g := List.all_eq_true.mp (List.all_eq_true.mp hl a (List.mem_range.mpr ha)) k (List.mem_range.mpr hk)
    simp only [g79, h3, h4, decide_true, decide_false, Bool.and_self, Bool.not_true, Bool.or_false, Bool.false_or] at g
    obtain ⟨p, hp, hq⟩ := List.any_eq_true.mp g
    simp only [Bool.and_eq_true, decide_eq_true_eq] at hq
    rw [hq.2, ← hq.1.1, ← hq.1.2]
    exact h p hp
def g117F (Z0 : Nat → Nat → Int) (Rf0 : Nat → Nat → Option Nat) (K0 : Nat → Nat × Nat) (Z : Nat → Nat → Int) (Rf : Nat → Nat → Option Nat) (K : Nat → Nat × Nat) : Prop := gK 97 K ∧ oK 97 K K0 ∧ rN 97 Rf ∧ oZ 97 Rf Rf0 ∧ oL 79 Rf Rf0 ∧ oZ 97 Z Z0 ∧ oL 79 Z Z0 ∧ (Z 79 5 = 0 ∧ Z 79 14 = 0 ∧ Z 79 21 = 0 ∧ Z 79 23 = -1 ∧ Z 79 6 = 0) ∧ Z 80 2 = 0 ∧ ∀ j, Z 86 j = 0
set_option maxHeartbeats 40000000 in
set_option maxRecDepth 100000 in
theorem g117 (Z0 : Nat → Nat → Int) (Rf0 : Nat → Nat → Option Nat) (K0 : Nat → Nat × Nat) (z0 : Nat) (hK : gK 79 K0) (hR : rN 79 Rf0) : ∃ Z1 Rf1 K1 z1, g117F Z0 Rf0 K0 Z1 Rf1 K1 ∧ z1 ≤ z0 + 20000 ∧ ∀ Q, sm_call (d + 3) 118 [.inr (some 79), .inl 6, .inl 6] (Z1, Rf1, K1, 97, z1) (sm_cont (d + 4) 117 160 [some (.inr (some 79))] [] Q) → sm_call (d + 4) 117 [.inr (some 79)] (sm_r Z0 79 (fun _ => 0), sm_r Rf0 79 (fun _ => none), sm_k K0 79 (11, 37), 80, z0 + 37) Q := by
  refine ⟨?Z, ?R, ?K, ?z, ?f, ?b, fun Q hQ => ?w⟩
  case w =>
    rw [ce117, b117_0]
    simp only [Nat.reduceAdd]
    repeat (refine And.intro ?_ ?_; · first | exact rfl | decide)
    exact hQ
  case b => omega
  case f =>
    refine ⟨?_, ?_, ?_, ?_, ?_, ?_, ?_, ⟨rfl, rfl, rfl, rfl, rfl⟩, rfl, fun j => rfl⟩
    · repeat refine gK_k ?_ rfl rfl
      exact hK
    · repeat refine oK_k ?_ (by decide)
      exact oK_z
    · apply rN97_of hR
      case ho =>
        repeat first | refine oL_u ?_ (by decide) | refine oL_r ?_ (by decide)
        exact oL_z
      case h =>
        repeat first | apply gR_set | apply gR_new
        exact gR_z
        all_goals decide +kernel
      case hl => decide +kernel
    · repeat first | refine oZ_u ?_ (by decide) | refine oZ_r ?_ (by decide)
      exact oZ_z
    · repeat first | refine oL_u ?_ (by decide) | refine oL_r ?_ (by decide)
      exact oL_z
    · repeat first | refine oZ_u ?_ (by decide) | refine oZ_r ?_ (by decide)
      exact oZ_z
    · repeat first | refine oL_u ?_ (by decide) | refine oL_r ?_ (by decide)
      exact oL_z
/-- what the constants are -/
def cst (Z : Nat → Nat → Int) (Rf : Nat → Nat → Option Nat) (K : Nat → Nat × Nat) : Prop := (∀ i, i < 5 → K (1000000 + i) = (102, (zSl.getD i []).length)) ∧ (∀ i, i < 19 → K (2000000 + i) = (103, 2) ∧ Rf (2000000 + i) 0 = some (3000000 + i) ∧ K (3000000 + i) = (104, (tXl.getD i []).length)) ∧ sm_zs Z
theorem g_start {Z0 : Nat → Nat → Int} {Rf0 : Nat → Nat → Option Nat} {K0 : Nat → Nat × Nat} (hc : cst Z0 Rf0 K0) : ∃ Z1 Rf1 K1 z1, rAll Z1 Rf1 K1 97 ∧ Z1 4000000 = Z0 4000000 ∧ K1 4000000 = K0 4000000 ∧ z1 ≤ 50000 ∧ ∀ Q, sm_wp (d + 5) 198 18 [some (.inr (some 4000000)), some (.inr (some 0)), some (.inr (some 79)), some (.inl 0)] [] (Z1, Rf1, K1, 97, z1) Q → sm_call (d + 5) 198 [.inr (some 4000000)] (Z0, Rf0, K0, 0, 0) Q := by
  obtain ⟨Za, Ra, Ka, za, ⟨f1, f2, f3, f4, f5, f6, f7, f8, f9, f10⟩, hza, hwa⟩ := g82 (d := d) Z0 Rf0 K0
  have s9 : sh9 (hbE Ra) Ka := by
    unfold hbE
    exact sh9_u (sh9_u (sh9_u (sh9_u ⟨f1, f3⟩)))
  obtain ⟨Zb, Rb, Kb, zb, ⟨m1, m2, m3, m4, m5, m6, m7, m8, m9, m10⟩, hzb, hwb⟩ := g117 (d := d) (c_new Za 6 6) (hbE Ra) Ka za s9.1 s9.2
  have rH : ∀ a, 97 ≤ a → Rb a = Rf0 a := fun a ha => by rw [m4 a ha, hbE_o (by omega), f4 a (by omega)]
  have kH : ∀ a, 97 ≤ a → Kb a = K0 a := fun a ha => by rw [m2 a ha, f2 a (by omega)]
  have zH : ∀ a, 97 ≤ a → Zb a = Z0 a := fun a ha => by rw [m6 a ha, cnew_o (by omega), f6 a (by omega)]
  have H : sm_sh Rb Kb := by
    refine ⟨m1, fun a k ha h18 h43 _ hk h1 h2 => m3 a k ha h18 h43 hk h1 h2, fun i hi => ?_, fun i hi => ?_, m1 19 (by decide)⟩
    · rw [kH _ (by omega)]; exact hc.1 i hi
    · rw [kH _ (by omega), kH _ (by omega), rH _ (by omega)]; exact hc.2.1 i hi
  have r18 : ∀ k, k < 4 → Rb 18 k = some 19 := fun k hk => by rw [m5 18 (by decide)]; exact hbE_18 hk
  have r19 : Rb 19 1 = some 20 := m3 19 1 (by decide) (by decide) (by decide) (by decide) (by decide) (by decide)
  have r43 : ∀ k, Rb 43 k = none := fun k => by rw [m5 43 (by decide), hbE_o (by decide)]; exact f5 k
  have hE : hbE Rb = Rb := by
    funext a
    by_cases g : a = 18
    · subst g
      funext k
      unfold hbE
      rw [sm_u_eq, sm_u_eq, sm_u_eq, sm_u_eq]
      by_cases g3 : k = 3
      · rw [if_pos g3, g3, r18 3 (by decide)]
      · rw [if_neg g3]
        by_cases g2 : k = 2
        · rw [if_pos g2, g2, r18 2 (by decide)]
        · rw [if_neg g2]
          by_cases g1 : k = 1
          · rw [if_pos g1, g1, r18 1 (by decide)]
          · rw [if_neg g1]
            by_cases g0 : k = 0
            · rw [if_pos g0, g0, r18 0 (by decide)]
            · rw [if_neg g0]
    · exact hbE_o g
  obtain ⟨ZX, hZX⟩ : ∃ ZX : Nat → Nat → Int, ∀ a, ZX a = if a < 79 then Za a else Zb a := ⟨fun a => if a < 79 then Za a else Zb a, fun _ => rfl⟩
  have xL : ∀ a, a < 79 → ZX a = Za a := fun a ha => by rw [hZX, if_pos ha]
  have xH : ∀ a, 79 ≤ a → ZX a = Zb a := fun a ha => by rw [hZX, if_neg (by omega)]
  have hA : rAll (m_new Zb 6 6) (hbE Rb) Kb 97 := by
    refine land_core (Z := ZX) (w := 6) (h := 6) (by decide) H ?_ ?_ ?_ ?_ ?_ ?_ ?_ ⟨Nat.le_refl _, r19, by rw [xL 19 (by decide)]; exact f9.1⟩ ?_ (fun a q0 q1 q2 => ?_) (fun j => ?_) (fun j => ?_) (fun k => ?_)
    · exact zs_fr hc.2.2 (fun a ha => by rw [xH a (by omega), zH a (by omega)])
    · unfold stI at f7 ⊢
      rw [xL 10 (by decide), xL 12 (by decide), xL 14 (by decide), xL 16 (by decide), xL 24 (by decide), xL 49 (by decide), xL 59 (by decide), xL 67 (by decide)]
      exact f7
    · rw [xL 1 (by decide), xH 80 (by decide), f9.2, m9]
    · unfold rKp
      rw [xL 0 (by decide), xH 79 (by decide), f8.1, m8.1]
      exact ⟨rfl, Or.inl rfl, fun q => absurd q (by decide)⟩
    · unfold rTp
      rw [xL 0 (by decide), xH 79 (by decide), xL 77 (by decide), xH 86 (by decide), f8.2.1, m8.2.1]
      exact ⟨rfl, by decide, fun j _ => by rw [f10, m10]; decide⟩
    · unfold rFt
      rw [xL 0 (by decide), xH 79 (by decide), f8.2.2.1, f8.2.2.2.1, m8.2.2.1, m8.2.2.2.1]
      exact ⟨rfl, rfl⟩
    · rw [xH 79 (by decide)]; exact m8.2.2.2.2
    · intro b hb k hk a ha
      rcases hb with g | g
      · rw [g, r18 k hk] at ha
        have ea := Option.some.inj ha
        refine ⟨by omega, fun q hq => ?_⟩
        rw [← ea, r19] at hq
        have := Option.some.inj hq
        omega
      · rw [g, r43] at ha
        cases ha
    · rw [mnew_o q1 q2]
      by_cases g : a < 79
      · rw [m7 a g]
        exact cnew_cg (xL a g).symm
      · rw [cnew_o (by omega), xH a (by omega)]
    · rw [mnew_o (by decide) (by decide), m7 0 (by decide), cnew_o (by omega), xL 0 (by decide)]
      by_cases g : j = 12
      · rw [if_pos g, g]; exact f8.2.2.2.2
      · rw [if_neg g]
    · rw [mnew_79, xH 79 (by decide)]
    · rw [mnew_80, xH 80 (by decide)]
  rw [hE] at hA
  refine ⟨m_new Zb 6 6, Rb, Kb, zb, hA, by rw [mnew_o (by decide) (by decide), zH _ (by decide)], kH _ (by decide), by omega, fun Q hQ => ?_⟩
  rw [ce198, b198_0]
  refine ⟨by decide, rfl, ?_⟩
  refine hwa _ ?_
  rw [c_startAnew0 (d := d + 1) ⟨f1, f3⟩]
  simp only [w_cont, Option.toList_none, List.nil_append]
  rw [b82_103]
  simp only [w_cont, Option.toList_none, List.nil_append]
  rw [b198_7]
  refine ⟨by decide, rfl, ?_⟩
  refine hwb _ ?_
  rw [m_begins (d := d + 2) H]
  simp only [w_cont, Option.toList_none, List.nil_append]
  rw [b117_160]
  simp only [w_cont, Option.toList_none, List.nil_append]
  rw [b198_15]
  exact hQ
end CTOR2
