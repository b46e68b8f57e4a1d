/-! A text told to both: a habit's own place. -/
section KTEXT1
variable {d n z : Nat} {Rf : Nat → Nat → Option Nat} {K : Nat → Nat × Nat} {Z : Nat → Nat → Int}
theorem k_text1 (h : rAll Z Rf K n) {k : Nat} (hk : k < 4) (hn : n + 1 < 1000000) : okC (d + 40) 95 156 [.inl (k : Int)] Z Rf K n z := by
  have h0 := h
  obtain ⟨a1, a2, a3, a4, a5, a6, a7, a8, a9, a10, a11, a12⟩ := h0
  have a97 := a11.1
  obtain ⟨len, hlen⟩ : ∃ len : Nat, Z 79 14 = (len : Int) := ⟨(Z 79 14).toNat, by have := a8.2.1; omega⟩
  have hl : len ≤ 400 := by have := a8.2.1; omega
  obtain ⟨T, hT⟩ : ∃ T : Nat → Int, ∀ j, T j = if j < 400 then Z 86 j else 0 := ⟨fun j => if j < 400 then Z 86 j else 0, fun _ => rfl⟩
  have T1 : ∀ j, j < 400 → T j = Z 86 j := fun j hj => by rw [hT, if_pos hj]
  have T2 : ∀ j, 0 ≤ T j ∧ T j ≤ 255 := fun j => by
    rw [hT]
    by_cases g : j < 400
    · rw [if_pos g]; exact (a8.2.2 j g).2
    · rw [if_neg g]; omega
  have tC : tpC Z T := ⟨fun j hj => by rw [T1 j hj]; exact (a8.2.2 j hj).1, T2⟩
  have tM : tpM Z T len := ⟨fun j hj => (T1 j hj).symm, T2, hlen, hl⟩
  obtain ⟨X, hX⟩ : ∃ X, X = rdE T len (len + 1) (spE isBl T len 0) ([], [], 0, 0, Z 74 8, 0, 0, Z 74 11) := ⟨_, rfl⟩
  have pre := m_text (d := d) (n := n) (z := z) a1 a2 tM hk (Z 74 8) (Z 74 11)
  rw [← hX] at pre
  obtain ⟨_, _, _, _, pre⟩ := pre
  have h90 : ¬ X.1 = 9 ∧ ¬ X.1 = 0 := by
    rcases pre with ⟨f, s, q1, q2, _⟩ | ⟨s, L, N, rc, tn', rt', q1, _⟩
    · omega
    · rw [q1]
      exact ⟨(show ¬ (-1 : Int) = 9 by decide), (show ¬ (-1 : Int) = 0 by decide)⟩
  have ct := c_text (d := d + 33) (n := n) (z := z) a1 a2 tC hl (by rw [a8.1, hlen]) hk ⟨a11.1, hn⟩ hX h90.1 h90.2
  have tM1 : ∀ Z1 : Nat → Nat → Int, Z1 86 = Z 86 → Z1 79 = Z 79 → tpM Z1 T len := fun Z1 q1 q2 => tpM_fr q1 (by rw [q2]) tM
  by_cases hm : X.1 = -1
  · rcases pre with ⟨f, s, q1, q2, _⟩ | ⟨s, L, N, rc, tn', rt', q1, _, _, _, ⟨q2, q3, q4⟩, _⟩
    · omega
    · obtain ⟨Z1, c1, c2, c3, c4, c5, c6, c7, c8⟩ := ct.2 L rc tn' rt' hm (by rw [q1]) q4 q2
      obtain ⟨Rf', hRf'⟩ : ∃ R, R = sm_u (sm_u (sm_r (sm_r Rf n (fun _ => none)) (n + 1) (fun _ => none)) n 1 (some (n + 1))) 18 k (some n) := ⟨_, rfl⟩
      obtain ⟨K', hK'⟩ : ∃ R, R = sm_k (sm_k K n (2, 2)) (n + 1) (100, rc.length) := ⟨_, rfl⟩
      rw [← hRf', ← hK'] at c8
      have H' : sm_sh Rf' K' := by
        rw [hRf', hK']
        exact sm_sh_u (sm_sh_hi (sm_sh_new (sm_sh_new a1 (by omega)) (by omega)) (by omega)) (Or.inl rfl)
      have r_o : ∀ a, a ≠ 18 → a ≠ n → a ≠ n + 1 → Rf' a = Rf a := fun a q1 q2 q3 => by rw [hRf', sm_u_row q1, sm_u_row q2, sm_rw_ne q3, sm_rw_ne q2]
      have r_18 : ∀ j, Rf' 18 j = if j = k then some n else Rf 18 j := fun j => by rw [hRf', sm_u_eq, sm_u_row (by omega), sm_rw_ne (by omega), sm_rw_ne (by omega)]
      have r_n : Rf' n 1 = some (n + 1) := by rw [hRf', sm_u_row (by omega), sm_u_self]
      have k_o : ∀ a, a ≠ n → a ≠ n + 1 → K' a = K a := fun a q1 q2 => by rw [hK', sm_k_ne q2, sm_k_ne q1]
      have k_n : K' n = (2, 2) := by rw [hK', sm_k_ne (by omega), sm_k_self]
      have k_n1 : K' (n + 1) = (100, rc.length) := by rw [hK', sm_k_self]
      have z79 : Z1 79 = Z 79 := c1 79 (by decide) (by decide) (by decide) (by decide) (by omega) (by omega)
      have z80 : Z1 80 = Z 80 := c1 80 (by decide) (by decide) (by decide) (by decide) (by omega) (by omega)
      have z86 : Z1 86 = Z 86 := c1 86 (by decide) (by decide) (by decide) (by decide) (by omega) (by omega)
      have zs1 : sm_zs Z1 := zs_fr a2 (fun a ha => c1 a (by omega) (by omega) (by omega) (by omega) (by omega) (by omega))
      have mt := m_text (d := d) (n := n + 2) (z := z + 2 + rc.length) H' zs1 (tM1 Z1 z86 z79) hk (Z 74 8) (Z 74 11)
      rw [← hX] at mt
      obtain ⟨Z2, m1, m2, m3, mt⟩ := mt
      rcases mt with ⟨f, s', w1, w2, _⟩ | ⟨s', L', N', rc', tn2, rt2, w1, w2, w3, w4, ⟨w5, w6, w7⟩, w8, w9⟩
      · omega
      · rw [q1] at w1
        have eL : L = L' := by
          have := congrArg (fun y => y.2.2.2.2.2.1) w1
          have : (L : Int) = (L' : Int) := this
          omega
        have eR : rc = rc' := congrArg (fun y => y.2.2.1) w1
        rw [← eL] at w4 w5 w8 w9
        rw [← eR] at w7 w8
        have e2 : ∀ a, a ≠ 0 → a ≠ 74 → a ≠ 75 → a ≠ 76 → a ≠ 79 → a ≠ 80 → a ≠ 84 → a ≠ 85 → a ≠ n → a ≠ n + 1 → Z2 a = Z a := fun a p1 p2 p3 p4 p5 p6 p7 p8 p9 p10 => by rw [m1 a p5 p6 p7 p8, c1 a p1 p2 p3 p4 p9 p10]
        have en : Z2 n = Z1 n := m1 n (by omega) (by omega) (by omega) (by omega)
        have en1 : Z2 (n + 1) = Z1 (n + 1) := m1 (n + 1) (by omega) (by omega) (by omega) (by omega)
        have e0 : Z2 0 = Z1 0 := m1 0 (by decide) (by decide) (by decide) (by decide)
        have j79 : ∀ j, (j < 12 ∨ 23 < j) → Z2 79 j = Z 79 j := fun j hj => by rw [m2 j hj, z79]
        have w4' : ∀ j, ¬ j = 1985 + k → nxt k L (2 * N') j → Z2 80 j = Z 80 j := fun j p1 p2 => by rw [w4 j p1 p2, z80]
        have lo : ∀ j, j < 1985 → Z2 80 j = Z 80 j := fun j hj => w4' j (by omega) ⟨by omega, by omega, by omega, by omega⟩
        obtain ⟨P, g1, g2, g3⟩ := w8 (Z2 (n + 1)) (by rw [en1]; exact c7)
        have old : ∀ b, b = 18 ∨ b = 43 → ∀ (M : Nat → Int) (k' : Nat), k' < 4 → rHb Z Rf K M b → ∃ a q L P, Rf b k' = some a ∧ K' a = (2, 2) ∧ Rf' a 1 = some q ∧ (a = 19 ∨ (97 ≤ a ∧ a < 1000000)) ∧ (q = 20 ∨ (97 ≤ q ∧ q < 1000000)) ∧ wfL M k' L P ∧ K' q = (100, P L + L) ∧ cdH (Z2 q) M k' L P ∧ Z2 a 0 = (L : Int) := by
          intro b hb M k' hk' hr
          obtain ⟨a, q, L, P, x1, x2, x3, x4, x5, x6, x7, x8, x9⟩ := hr k' hk'
          have y1 := a12 b hb k' hk' a x1
          have y2 := y1.2 q x3
          refine ⟨a, q, L, P, x1, by rw [k_o a (by omega) (by omega)]; exact x2, by rw [r_o a (by omega) (by omega) (by omega)]; exact x3, x4, x5, x6, by rw [k_o q (by omega) (by omega)]; exact x7, ?_, ?_⟩
          · rw [e2 q (by omega) (by omega) (by omega) (by omega) (by omega) (by omega) (by omega) (by omega) (by omega) (by omega)]
            exact x8
          · rw [e2 a (by omega) (by omega) (by omega) (by omega) (by omega) (by omega) (by omega) (by omega) (by omega) (by omega)]
            exact x9
        have hb18 : rHb Z2 Rf' K' (Z2 80) 18 := by
          intro k' hk'
          by_cases gk : k' = k
          · rw [gk]
            exact ⟨n, n + 1, L, P, by rw [r_18, if_pos rfl], k_n, r_n, Or.inr (by omega), Or.inr (by omega), g1, by rw [k_n1, g3], g2, by rw [en]; exact c6⟩
          · obtain ⟨a, q, L1, P1, x1, x2, x3, x4, x5, x6, x7, x8, x9⟩ := old 18 (Or.inl rfl) (Z 80) k' hk' a5.2.2.2.2.2.2.2.1
            have nx := wfL_nx hk hk' gk w5 (by omega) w4' x6
            exact ⟨a, q, L1, P1, by rw [r_18, if_neg gk]; exact x1, x2, x3, x4, x5, nx.1, x7, nx.2 _ x8, x9⟩
        refine ⟨(L : Int), Z1, Rf', K', n + 2, z + 2 + rc.length, Z2, fun Q hQ => by rw [c8]; exact hQ, fun Q hQ => by rw [w9]; exact hQ, ⟨H', zs_fr a2 (fun a ha => e2 a (by omega) (by omega) (by omega) (by omega) (by omega) (by omega) (by omega) (by omega) (by omega) (by omega)), stI_fr (fun a ha => by rw [e2 a (by omega) (by omega) (by omega) (by omega) (by omega) (by omega) (by omega) (by omega) (by omega) (by omega)]) a3, ?_, ?_, ?_, ?_, ?_, ?_, ?_, ⟨by omega, by rw [r_o 19 (by decide) (by omega) (by omega)]; exact a11.2.1, by rw [e2 19 (by decide) (by decide) (by decide) (by decide) (by decide) (by decide) (by decide) (by decide) (by omega) (by omega)]; exact a11.2.2⟩, ?_⟩, by omega, e2 _ (by decide) (by decide) (by decide) (by decide) (by decide) (by decide) (by decide) (by decide) (by omega) (by omega), k_o _ (by omega) (by omega)⟩
        · refine invD_hab lo (fun k' hk' => ?_) a4
          obtain ⟨a, q, L1, P1, x1, x2, x3, x4, x5, x6, _⟩ := hb18 k' hk'
          exact ⟨L1, P1, x6⟩
        · exact rD_hab a4 (fun a p1 p2 => e2 a (by omega) (by omega) (by omega) (by omega) (by omega) (by omega) (by omega) (by omega) (by omega) (by omega)) lo hb18 a5
        · have e81 : Z2 81 = Z 81 := e2 81 (by decide) (by decide) (by decide) (by decide) (by decide) (by decide) (by decide) (by decide) (by omega) (by omega)
          unfold rKp at a6 ⊢
          rw [e0, c2 2 (by decide) (by decide) (by decide), j79 5 (by omega), e81]
          refine ⟨a6.1, a6.2.1, fun g => ⟨(a6.2.2 g).1, rD_hab (a6.2.2 g).1 (fun a p1 p2 => e2 a (by omega) (by omega) (by omega) (by omega) (by omega) (by omega) (by omega) (by omega) (by omega) (by omega)) (fun _ _ => rfl) (fun k' hk' => ?_) (a6.2.2 g).2⟩⟩
          obtain ⟨a, q, L1, P1, x1, x2⟩ := old 43 (Or.inr rfl) (Z 81) k' hk' (a6.2.2 g).2.2.2.2.2.2.2.2.1
          exact ⟨a, q, L1, P1, by rw [r_o 43 (by decide) (by omega) (by omega)]; exact x1, x2⟩
        · unfold rCh at a7 ⊢
          rw [e0, c2 12 (by decide) (by decide) (by decide), j79 4 (by omega), e2 78 (by decide) (by decide) (by decide) (by decide) (by decide) (by decide) (by decide) (by decide) (by omega) (by omega), e2 83 (by decide) (by decide) (by decide) (by decide) (by decide) (by decide) (by decide) (by decide) (by omega) (by omega), lo 0 (by omega), lo 1 (by omega)]
          exact a7
        · unfold rTp at a8 ⊢
          rw [e0, c3, m3, e2 77 (by decide) (by decide) (by decide) (by decide) (by decide) (by decide) (by decide) (by decide) (by omega) (by omega), e2 86 (by decide) (by decide) (by decide) (by decide) (by decide) (by decide) (by decide) (by decide) (by omega) (by omega)]
          exact ⟨rfl, by omega, a8.2.2⟩
        · unfold rFt
          rw [e0, c4, c5, w2, w3]
          exact ⟨rfl, rfl⟩
        · rw [j79 6 (by omega)]
          exact a10
        · intro b hb k' hk' a ha
          by_cases gn : a = n
          · refine ⟨by omega, fun q hq => ?_⟩
            rw [gn, r_n] at hq
            have := Option.some.inj hq
            omega
          · have ho : a < n ∧ ∀ q, Rf a 1 = some q → q < n := by
              rcases hb with g | g
              · rw [g, r_18] at ha
                by_cases gk : k' = k
                · rw [if_pos gk] at ha
                  exact absurd (Option.some.inj ha).symm gn
                · rw [if_neg gk] at ha
                  exact a12 18 (Or.inl rfl) k' hk' a ha
              · rw [g, r_o 43 (by decide) (by omega) (by omega)] at ha
                exact a12 43 (Or.inr rfl) k' hk' a ha
            refine ⟨by omega, fun q hq => ?_⟩
            by_cases g18 : a = 18
            · rw [g18, r_18] at hq
              by_cases gk : 1 = k
              · rw [if_pos gk] at hq
                have := Option.some.inj hq
                omega
              · rw [if_neg gk] at hq
                have := ho.2 q (by rw [g18]; exact hq)
                omega
            · rw [r_o a g18 gn (by omega)] at hq
              have := ho.2 q hq
              omega
  · obtain ⟨Z1, c1, c2, c3, c4, c5, c6⟩ := ct.1 hm
    have z79 : Z1 79 = Z 79 := c1 79 (by decide) (by decide) (by decide) (by decide)
    have z86 : Z1 86 = Z 86 := c1 86 (by decide) (by decide) (by decide) (by decide)
    have zs1 : sm_zs Z1 := zs_fr a2 (fun a ha => c1 a (by omega) (by omega) (by omega) (by omega))
    have mt := m_text (d := d) (n := n) (z := z) a1 zs1 (tM1 Z1 z86 z79) hk (Z 74 8) (Z 74 11)
    rw [← hX] at mt
    obtain ⟨Z2, m1, m2, m3, mt⟩ := mt
    rcases mt with ⟨f, s', w1, w2, w3, w4, w5, w6⟩ | ⟨s', L', N', rc', tn2, rt2, w1, _⟩
    · refine okC_of (-1) Z1 Z2 (fun Q hQ => by rw [c6]; exact hQ) (fun Q hQ => by rw [w6]; exact hQ) (rAll_text h (fun a p1 p2 p3 p4 p5 p6 p7 => ?_) (fun j p1 p2 p3 => ?_) (fun j hj => by rw [m2 j hj, z79]) ⟨?_, m3⟩ ?_) (by rw [m1 _ (by decide) (by decide) (by decide) (by decide), c1 _ (by decide) (by decide) (by decide) (by decide)])
      · by_cases g : a = 80
        · rw [g, w5, c1 80 (by decide) (by decide) (by decide) (by decide)]
        · rw [m1 a p5 g p6 p7, c1 a p1 p2 p3 p4]
      · rw [m1 0 (by decide) (by decide) (by decide) (by decide), c2 j p1 p2 p3]
      · rw [m1 0 (by decide) (by decide) (by decide) (by decide), c3]
      · unfold rFt
        rw [m1 0 (by decide) (by decide) (by decide) (by decide), c4, c5, w3, w4, w2.1, w2.2]
        exact ⟨rfl, rfl⟩
    · rw [w1] at hm
      exact absurd rfl hm
end KTEXT1
