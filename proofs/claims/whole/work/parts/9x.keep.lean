/-! What the machine never writes; one call of the law. -/
def pfk (e : sm_E) : Bool := match e.2.2.1 with
  | .putfield _ => decide (e.2.2.2.1 < 12)
  | _ => true
set_option maxRecDepth 100000 in
theorem pf_ok0 : (List.range 209).all (fun j => (sm_codes.getD j []).all pfk) = true := by decide +kernel
theorem pf_ok {j pc len : Nat} {i : Instr} {a b : Nat} {v : Int} (h : sm_at j pc = some (len, i, a, b, v)) : pfk (pc, len, i, a, b, v) = true := by
  have hm := sm_find_mem h
  rcases Nat.lt_or_ge j 209 with q | q
  · exact List.all_eq_true.mp (List.all_eq_true.mp pf_ok0 j (List.mem_range.mpr q)) _ hm
  · rw [List.getD_eq_getElem?_getD, List.getElem?_eq_none (show sm_codes.length ≤ j from q)] at hm
    cases hm
set_option maxHeartbeats 2000000 in
theorem sm_step_keep {pc len : Nat} {i : Instr} {a b : Nat} {v : Int} {L L' : sm_L} {st st' : List sm_V} {S S' : sm_S} {pc' : Nat} (hp : pfk (pc, len, i, a, b, v) = true) (h : sm_step pc len i a b v L st S = some (.inl (pc', L', st', S'))) {q : Nat} (hq : 1000000 ≤ q) (hk : 102 ≤ (S.2.2.1 q).1) : S'.1 q = S.1 q ∧ S'.2.2.1 q = S.2.2.1 q := by
  unfold sm_step at h
  repeat' split at h
  all_goals first
    | (cases h; done)
    | (cases h; exact ⟨rfl, rfl⟩)
    | (cases h; exact ⟨sm_rw_ne (by omega), sm_k_ne (by omega)⟩)
    | (cases h; refine ⟨sm_rw_ne (fun e => ?_), rfl⟩; subst e; omega)
    | (cases h; refine ⟨sm_u_row (fun e => ?_), rfl⟩; subst e; omega)
    | (cases h; have ha := of_decide_eq_true hp; dsimp only at ha; refine ⟨sm_u_row (fun e => ?_), rfl⟩; subst e; omega)
theorem sm_run_keep : ∀ {f d j pc : Nat} {L : sm_L} {st : List sm_V} {S : sm_S} {r : Option sm_V × sm_S}, sm_run f d j pc L st S = some r → ∀ q : Nat, 1000000 ≤ q → 102 ≤ (S.2.2.1 q).1 → r.2.1 q = S.1 q ∧ r.2.2.2.1 q = S.2.2.1 q := by
  intro f
  induction f with
  | zero => intro d j pc L st S r h; cases h
  | succ f ih =>
    intro d j pc L st S r h q hq hk
    unfold sm_run at h
    split at h
    · cases h
    · rename_i hat
      split at h
      · split at h
        · split at h
          · cases h
          · rename_i h1
            have a1 := ih h1 q hq hk
            have a2 := ih h q hq (by rw [a1.2]; exact hk)
            exact ⟨a2.1.trans a1.1, a2.2.trans a1.2⟩
        · cases h
      · split at h
        · cases h
        · rename_i h1
          have a1 := sm_step_keep (pf_ok hat) h1 hq hk
          have a2 := ih h q hq (by rw [a1.2]; exact hk)
          exact ⟨a2.1.trans a1.1, a2.2.trans a1.2⟩
        · rename_i h1
          cases h
          have := (sm_step_end h1).1
          rw [this]
          exact ⟨rfl, rfl⟩
theorem sm_call_keep {d j : Nat} {as : List sm_V} {S : sm_S} {Q : Option sm_V → sm_S → Prop} (h : sm_call d j as S Q) (q : Nat) (hq : 1000000 ≤ q) (hk : 102 ≤ (S.2.2.1 q).1) : sm_call d j as S (fun r S' => Q r S' ∧ S'.1 q = S.1 q ∧ S'.2.2.1 q = S.2.2.1 q) := by
  obtain ⟨f, r, h1, h2⟩ := h
  exact ⟨f, r, h1, h2, sm_run_keep h1 q hq hk⟩
theorem sm_call_mono {d j : Nat} {as : List sm_V} {S : sm_S} {Q Q' : Option sm_V → sm_S → Prop} (h : sm_call d j as S Q) (hQ : ∀ r S', Q r S' → Q' r S') : sm_call d j as S Q' := by
  obtain ⟨f, r, h1, h2⟩ := h
  exact ⟨f, r, h1, hQ _ _ h2⟩
section ARM
variable {d n z : Nat} {Rf : Nat → Nat → Option Nat} {K : Nat → Nat × Nat} {Z : Nat → Nat → Int} {Q : Option sm_V → sm_S → Prop}
theorem law_arm {j m : Nat} {as : List sm_V} (h : okR d j m as Z Rf K n z) (hk : 102 ≤ (K 4000000).1) {Qc : Option sm_V → sm_S → Prop} (hQ : ∀ v Z1 Rf1 K1 n1 z1, Z1 4000000 = Z 4000000 → K1 4000000 = K 4000000 → (K1 79).1 = 11 → (n1 ≤ n + 2 ∧ z1 ≤ z + 500) → (∀ Q2 : Option sm_V → sm_S → Prop, (∀ Z2, rAll Z2 Rf1 K1 n1 → Z2 4000000 = Z 4000000 → Q2 (some (.inl v)) (Z2, Rf1, K1, n1, z1)) → sm_call d m (.inr (some 79) :: as) (Z1, Rf1, K1, n1, z1) Q2) → Qc (some (.inl v)) (Z1, Rf1, K1, n1, z1)) : sm_call d j (.inr (some 0) :: as) (Z, Rf, K, n, z) Qc := by
  have h1 := h (fun r S => ∃ v Z1 Rf1 K1 n1 z1, r = some (.inl v) ∧ S = (Z1, Rf1, K1, n1, z1) ∧ (n1 ≤ n + 2 ∧ z1 ≤ z + 500) ∧ K1 4000000 = K 4000000 ∧ ∀ Q2 : Option sm_V → sm_S → Prop, (∀ Z2, rAll Z2 Rf1 K1 n1 → Z2 4000000 = Z 4000000 → Q2 (some (.inl v)) (Z2, Rf1, K1, n1, z1)) → sm_call d m (.inr (some 79) :: as) (Z1, Rf1, K1, n1, z1) Q2) (fun v Z1 Rf1 K1 n1 z1 hm hb hK => ⟨v, Z1, Rf1, K1, n1, z1, rfl, rfl, hb, hK, hm⟩)
  refine sm_call_mono (sm_call_keep h1 4000000 (by decide) hk) (fun r S hS => ?_)
  obtain ⟨⟨v, Z1, Rf1, K1, n1, z1, e1, e2, hb, hK, hm⟩, hz, _⟩ := hS
  subst e1
  subst e2
  refine hQ v Z1 Rf1 K1 n1 z1 hz hK ?_ hb hm
  obtain ⟨f, r, _, hr⟩ := hm (fun _ _ => (K1 79).1 = 11) (fun Z2 hA _ => by show (K1 79).1 = 11; rw [kk_79 hA.1])
  exact hr
/-- where the law stands, and what goes on behind a call -/
def lwH (x d : Nat) (Z : Nat → Nat → Int) (Rf : Nat → Nat → Option Nat) (K : Nat → Nat × Nat) (n z : Nat) (Q : Option sm_V → sm_S → Prop) : Prop := rAll Z Rf K n ∧ 102 ≤ (K 4000000).1 ∧ (∀ t : Int, 0 ≤ t → t < 6 → sm_rd (K 4000000) (wr ((x : Int) + t))) ∧ (∀ j, aI (Z 4000000 j)) ∧ n + 1 < 1000000 ∧ ∀ Z2 Rf1 K1 n1 z1, rAll Z2 Rf1 K1 n1 → Z2 4000000 = Z 4000000 → K1 4000000 = K 4000000 → (n1 ≤ n + 2 ∧ z1 ≤ z + 500) → sm_wp (d + 41) 198 1149 [some (.inr (some 4000000)), some (.inr (some 0)), some (.inr (some 79)), some (.inl (x : Int))] [] (Z2, Rf1, K1, n1, z1) Q
end ARM
