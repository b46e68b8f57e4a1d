/-! Runs of the small machine, backwards: 'from here it comes to an end with Q'. -/
def sm_wp (d j pc : Nat) (L : sm_L) (st : List sm_V) (S : sm_S) (Q : Option sm_V → sm_S → Prop) : Prop := ∃ f r, sm_run f d j pc L st S = some r ∧ Q r.1 r.2
def sm_call (d j : Nat) (as : List sm_V) (S : sm_S) (Q : Option sm_V → sm_S → Prop) : Prop := sm_wp d j 0 (sm_entry j as) [] S Q
def sm_cont (d j pc : Nat) (L : sm_L) (st : List sm_V) (Q : Option sm_V → sm_S → Prop) (r : Option sm_V) (S : sm_S) : Prop := sm_wp d j pc L (r.toList ++ st) S Q
def sm_nx (d j : Nat) (Q : Option sm_V → sm_S → Prop) (x : Option ((Nat × sm_L × List sm_V × sm_S) ⊕ (Option sm_V × sm_S))) : Prop := match x with
  | none => False
  | some (.inl q) => sm_wp d j q.1 q.2.1 q.2.2.1 q.2.2.2 Q
  | some (.inr r) => Q r.1 r.2
theorem sm_run_one : ∀ {f d j pc : Nat} {L : sm_L} {st : List sm_V} {S : sm_S} {r : Option sm_V × sm_S}, sm_run f d j pc L st S = some r → sm_run (f + 1) d j pc L st S = some r := by
  intro f
  induction f with
  | zero => intro d j pc L st S r h; cases h
  | succ f ih =>
    intro d j pc L st S r h
    unfold sm_run at h ⊢
    split at h
    · cases h
    · rename_i len i a b v hat
      split at h
      · rename_i hc
        rw [if_pos hc]
        split at h
        · rename_i hcond
          rw [if_pos hcond]
          split at h
          · cases h
          · rename_i r1 S1 hrun
            rw [ih hrun]
            exact ih h
        · cases h
      · rename_i hc
        rw [if_neg hc]
        split at h
        · cases h
        · exact ih h
        · exact h
theorem sm_run_more {f d j pc : Nat} {L : sm_L} {st : List sm_V} {S : sm_S} {r : Option sm_V × sm_S} (h : sm_run f d j pc L st S = some r) (g : Nat) : sm_run (f + g) d j pc L st S = some r := by
  induction g with
  | zero => exact h
  | succ g ih => exact sm_run_one ih
theorem wp_step {d j pc len : Nat} {i : Instr} {a b : Nat} {v : Int} {L : sm_L} {st : List sm_V} {S : sm_S} {Q : Option sm_V → sm_S → Prop} (hat : sm_at j pc = some (len, i, a, b, v)) (hc : sm_isCall i a = false) : sm_wp d j pc L st S Q = sm_nx d j Q (sm_step pc len i a b v L st S) := by
  apply propext
  constructor
  · rintro ⟨f, r, h, hQ⟩
    cases f with
    | zero => cases h
    | succ f =>
      unfold sm_run at h
      rw [hat] at h
      dsimp only at h
      rw [if_neg (by rw [hc]; decide)] at h
      cases hs : sm_step pc len i a b v L st S with
      | none => rw [hs] at h; cases h
      | some x =>
        rw [hs] at h
        cases x with
        | inl q => exact ⟨f, r, h, hQ⟩
        | inr r1 => cases h; exact hQ
  · intro h
    cases hs : sm_step pc len i a b v L st S with
    | none => rw [hs] at h; exact h.elim
    | some x =>
      rw [hs] at h
      cases x with
      | inl q =>
        obtain ⟨f, r, h1, h2⟩ := h
        refine ⟨f + 1, r, ?_, h2⟩
        unfold sm_run
        rw [hat]
        dsimp only
        rw [if_neg (by rw [hc]; decide), hs]
        exact h1
      | inr r1 =>
        refine ⟨1, r1, ?_, h⟩
        unfold sm_run
        rw [hat]
        dsimp only
        rw [if_neg (by rw [hc]; decide), hs]
theorem wp_call {d j pc len : Nat} {i : Instr} {a b : Nat} {v : Int} {L : sm_L} {st : List sm_V} {S : sm_S} {Q : Option sm_V → sm_S → Prop} (hat : sm_at j pc = some (len, i, a, b, v)) (hc : sm_isCall i a = true) (hb : b ≤ st.length) (hr : (st.drop b).length ≤ 8) (hm : b ≤ sm_ml a) :
    sm_wp (d + 1) j pc L st S Q = (sm_rok (sm_rk a) ((st.take b).reverse) S = true ∧ sm_call d a (st.take b).reverse S (sm_cont (d + 1) j (pc + len) L (st.drop b) Q)) := by
  apply propext
  constructor
  · rintro ⟨f, r, h, hQ⟩
    cases f with
    | zero => cases h
    | succ f =>
      unfold sm_run at h
      rw [hat] at h
      dsimp only at h
      rw [if_pos hc] at h
      split at h
      · rename_i hcond
        split at h
        · cases h
        · rename_i r1 S1 hrun
          exact ⟨hcond.2.2.2.2, f, (r1, S1), hrun, f, r, h, hQ⟩
      · cases h
  · rintro ⟨h1, f, r1, h2, f2, r, h3, hQ⟩
    refine ⟨f + f2 + 1, r, ?_, hQ⟩
    unfold sm_run
    rw [hat]
    dsimp only
    rw [if_pos hc, if_pos ⟨by omega, hb, hr, hm, h1⟩]
    have e1 := sm_run_more h2 f2
    rw [show d + 1 - 1 = d from rfl, e1]
    have e2 := sm_run_more h3 f
    rw [Nat.add_comm f2 f] at e2
    exact e2
section WPO
variable {d j pc pc' pt pf a b k : Nat} {v x y x' y' o : Int} {L L' : sm_L} {st r : List sm_V} {S : sm_S} {Q : Option sm_V → sm_S → Prop} {Z : Nat → Nat → Int} {Rf : Nat → Nat → Option Nat} {K : Nat → Nat × Nat} {n z : Nat}
theorem w_iconst (hat : sm_at j pc = some (1, .iconst x, a, b, v)) (hp : pc + 1 = pc') : sm_wp d j pc L st S Q = sm_wp d j pc' L (.inl x :: st) S Q := by subst hp; exact wp_step hat rfl
theorem w_bipush (hat : sm_at j pc = some (2, .bipush x, a, b, v)) (hp : pc + 2 = pc') : sm_wp d j pc L st S Q = sm_wp d j pc' L (.inl x :: st) S Q := by subst hp; exact wp_step hat rfl
theorem w_sipush (hat : sm_at j pc = some (3, .sipush x, a, b, v)) (hp : pc + 3 = pc') : sm_wp d j pc L st S Q = sm_wp d j pc' L (.inl x :: st) S Q := by subst hp; exact wp_step hat rfl
theorem w_ldci (hat : sm_at j pc = some (2, .ldc k, 0, b, v)) (hp : pc + 2 = pc') : sm_wp d j pc L st S Q = sm_wp d j pc' L (.inl v :: st) S Q := by subst hp; exact wp_step hat rfl
theorem w_ldcs (hat : sm_at j pc = some (2, .ldc k, 1, b, v)) (hp : pc + 2 = pc') : sm_wp d j pc L st S Q = sm_wp d j pc' L (.inr (some b) :: st) S Q := by subst hp; exact wp_step hat rfl
theorem w_null (hat : sm_at j pc = some (1, .aconst_null, a, b, v)) (hp : pc + 1 = pc') : sm_wp d j pc L st S Q = sm_wp d j pc' L (.inr none :: st) S Q := by subst hp; exact wp_step hat rfl
theorem w_iload_n {k : Fin 4} (hat : sm_at j pc = some (1, .iload_n k, a, b, v)) (hp : pc + 1 = pc') (hk : sm_lk k L = some (.inl x)) : sm_wp d j pc L st S Q = sm_wp d j pc' L (.inl x :: st) S Q := by subst hp; rw [wp_step hat rfl]; simp only [sm_step, hk, sm_nx]
theorem w_iload (hat : sm_at j pc = some (2, .iload k, a, b, v)) (hp : pc + 2 = pc') (hk : sm_lk k L = some (.inl x)) : sm_wp d j pc L st S Q = sm_wp d j pc' L (.inl x :: st) S Q := by subst hp; rw [wp_step hat rfl]; simp only [sm_step, hk, sm_nx]
theorem w_aload_n {k : Fin 4} {q : Option Nat} (hat : sm_at j pc = some (1, .aload_n k, a, b, v)) (hp : pc + 1 = pc') (hk : sm_lk k L = some (.inr q)) : sm_wp d j pc L st S Q = sm_wp d j pc' L (.inr q :: st) S Q := by subst hp; rw [wp_step hat rfl]; simp only [sm_step, hk, sm_nx]
theorem w_aload {q : Option Nat} (hat : sm_at j pc = some (2, .aload k, a, b, v)) (hp : pc + 2 = pc') (hk : sm_lk k L = some (.inr q)) : sm_wp d j pc L st S Q = sm_wp d j pc' L (.inr q :: st) S Q := by subst hp; rw [wp_step hat rfl]; simp only [sm_step, hk, sm_nx]
theorem w_istore_n {k : Fin 4} (hat : sm_at j pc = some (1, .istore_n k, a, b, v)) (hp : pc + 1 = pc') (hk : (k : Nat) < L.length) (hL : L.set k (some (.inl x)) = L') : sm_wp d j pc L (.inl x :: r) S Q = sm_wp d j pc' L' r S Q := by subst hp; subst hL; rw [wp_step hat rfl]; simp only [sm_step, if_pos hk, sm_nx]
theorem w_istore (hat : sm_at j pc = some (2, .istore k, a, b, v)) (hp : pc + 2 = pc') (hk : k < L.length) (hL : L.set k (some (.inl x)) = L') : sm_wp d j pc L (.inl x :: r) S Q = sm_wp d j pc' L' r S Q := by subst hp; subst hL; rw [wp_step hat rfl]; simp only [sm_step, if_pos hk, sm_nx]
theorem w_astore_n {k : Fin 4} {q : Option Nat} (hat : sm_at j pc = some (1, .astore_n k, a, b, v)) (hp : pc + 1 = pc') (hk : (k : Nat) < L.length) (hL : L.set k (some (.inr q)) = L') : sm_wp d j pc L (.inr q :: r) S Q = sm_wp d j pc' L' r S Q := by subst hp; subst hL; rw [wp_step hat rfl]; simp only [sm_step, if_pos hk, sm_nx]
theorem w_astore {q : Option Nat} (hat : sm_at j pc = some (2, .astore k, a, b, v)) (hp : pc + 2 = pc') (hk : k < L.length) (hL : L.set k (some (.inr q)) = L') : sm_wp d j pc L (.inr q :: r) S Q = sm_wp d j pc' L' r S Q := by subst hp; subst hL; rw [wp_step hat rfl]; simp only [sm_step, if_pos hk, sm_nx]
theorem w_iinc (hat : sm_at j pc = some (3, .iinc k o, a, b, v)) (hp : pc + 3 = pc') (hk : sm_lk k L = some (.inl x)) (hl : k < L.length) (hL : L.set k (some (.inl (x + o))) = L') : sm_wp d j pc L st S Q = sm_wp d j pc' L' st S Q := by subst hp; subst hL; rw [wp_step hat rfl]; simp only [sm_step, hk, if_pos hl, sm_nx]
theorem w_iadd (hat : sm_at j pc = some (1, .iadd, a, b, v)) (hp : pc + 1 = pc') : sm_wp d j pc L (.inl y :: .inl x :: r) S Q = sm_wp d j pc' L (.inl (x + y) :: r) S Q := by subst hp; exact wp_step hat rfl
theorem w_isub (hat : sm_at j pc = some (1, .isub, a, b, v)) (hp : pc + 1 = pc') : sm_wp d j pc L (.inl y :: .inl x :: r) S Q = sm_wp d j pc' L (.inl (x - y) :: r) S Q := by subst hp; exact wp_step hat rfl
theorem w_imul (hat : sm_at j pc = some (1, .imul, a, b, v)) (hp : pc + 1 = pc') : sm_wp d j pc L (.inl y :: .inl x :: r) S Q = sm_wp d j pc' L (.inl (x * y) :: r) S Q := by subst hp; exact wp_step hat rfl
theorem w_iand (hat : sm_at j pc = some (1, .iand, a, b, v)) (hp : pc + 1 = pc') : sm_wp d j pc L (.inl y :: .inl x :: r) S Q = sm_wp d j pc' L (.inl (sm_and x y) :: r) S Q := by subst hp; exact wp_step hat rfl
theorem w_ior (hat : sm_at j pc = some (1, .ior, a, b, v)) (hp : pc + 1 = pc') : sm_wp d j pc L (.inl y :: .inl x :: r) S Q = sm_wp d j pc' L (.inl (sm_or x y) :: r) S Q := by subst hp; exact wp_step hat rfl
theorem w_ishl (hat : sm_at j pc = some (1, .ishl, a, b, v)) (hp : pc + 1 = pc') : sm_wp d j pc L (.inl y :: .inl x :: r) S Q = sm_wp d j pc' L (.inl (sm_shl x y) :: r) S Q := by subst hp; exact wp_step hat rfl
theorem w_ishr (hat : sm_at j pc = some (1, .ishr, a, b, v)) (hp : pc + 1 = pc') : sm_wp d j pc L (.inl y :: .inl x :: r) S Q = sm_wp d j pc' L (.inl (sm_shr x y) :: r) S Q := by subst hp; exact wp_step hat rfl
theorem w_iushr (hat : sm_at j pc = some (1, .iushr, a, b, v)) (hp : pc + 1 = pc') : sm_wp d j pc L (.inl y :: .inl x :: r) S Q = sm_wp d j pc' L (.inl (sm_ushr x y) :: r) S Q := by subst hp; exact wp_step hat rfl
theorem w_i2c (hat : sm_at j pc = some (1, .i2c, a, b, v)) (hp : pc + 1 = pc') : sm_wp d j pc L (.inl x :: r) S Q = sm_wp d j pc' L (.inl (sm_i2c x) :: r) S Q := by subst hp; exact wp_step hat rfl
theorem w_idiv (hat : sm_at j pc = some (1, .idiv, a, b, v)) (hp : pc + 1 = pc') (hy : wr y = y') : sm_wp d j pc L (.inl y :: .inl x :: r) S Q = (¬ y' = 0 ∧ sm_wp d j pc' L (.inl (sm_div x y) :: r) S Q) := by
  subst hp; subst hy; rw [wp_step hat rfl]; simp only [sm_step]
  by_cases h : wr y = 0 <;> simp [h, sm_nx]
theorem w_irem (hat : sm_at j pc = some (1, .irem, a, b, v)) (hp : pc + 1 = pc') (hy : wr y = y') : sm_wp d j pc L (.inl y :: .inl x :: r) S Q = (¬ y' = 0 ∧ sm_wp d j pc' L (.inl (sm_rem x y) :: r) S Q) := by
  subst hp; subst hy; rw [wp_step hat rfl]; simp only [sm_step]
  by_cases h : wr y = 0 <;> simp [h, sm_nx]
theorem w_if (c : Jvm.ClassFile.Cond) (hat : sm_at j pc = some (3, .ifCond c o, a, b, v)) (hx : wr x = x') (ht : sm_to pc o = pt) (hf : pc + 3 = pf) : sm_wp d j pc L (.inl x :: r) S Q = if sm_cmp c x' 0 = true then sm_wp d j pt L r S Q else sm_wp d j pf L r S Q := by
  subst hx; subst ht; subst hf; rw [wp_step hat rfl]; simp only [sm_step, sm_nx]
  split <;> rfl
theorem w_ic (c : Jvm.ClassFile.Cond) (hat : sm_at j pc = some (3, .if_icmp c o, a, b, v)) (hx : wr x = x') (hy : wr y = y') (ht : sm_to pc o = pt) (hf : pc + 3 = pf) : sm_wp d j pc L (.inl y :: .inl x :: r) S Q = if sm_cmp c x' y' = true then sm_wp d j pt L r S Q else sm_wp d j pf L r S Q := by
  subst hx; subst hy; subst ht; subst hf; rw [wp_step hat rfl]; simp only [sm_step, sm_nx]
  split <;> rfl
theorem sm_ifn {p : Prop} [Decidable p] {A B : Prop} : (if ¬ p then A else B) = (if p then B else A) := by by_cases h : p <;> simp [h]
theorem w_ifeq (hat : sm_at j pc = some (3, .ifCond .eq o, a, b, v)) (hx : wr x = x') (ht : sm_to pc o = pt) (hf : pc + 3 = pf) : sm_wp d j pc L (.inl x :: r) S Q = if x' = 0 then sm_wp d j pt L r S Q else sm_wp d j pf L r S Q := by rw [w_if .eq hat hx ht hf]; simp only [sm_cmp, decide_eq_true_eq]
theorem w_ifne (hat : sm_at j pc = some (3, .ifCond .ne o, a, b, v)) (hx : wr x = x') (ht : sm_to pc o = pt) (hf : pc + 3 = pf) : sm_wp d j pc L (.inl x :: r) S Q = if x' = 0 then sm_wp d j pf L r S Q else sm_wp d j pt L r S Q := by rw [w_if .ne hat hx ht hf]; simp only [sm_cmp, decide_eq_true_eq, sm_ifn]
theorem w_iflt (hat : sm_at j pc = some (3, .ifCond .lt o, a, b, v)) (hx : wr x = x') (ht : sm_to pc o = pt) (hf : pc + 3 = pf) : sm_wp d j pc L (.inl x :: r) S Q = if x' < 0 then sm_wp d j pt L r S Q else sm_wp d j pf L r S Q := by rw [w_if .lt hat hx ht hf]; simp only [sm_cmp, decide_eq_true_eq]
theorem w_ifge (hat : sm_at j pc = some (3, .ifCond .ge o, a, b, v)) (hx : wr x = x') (ht : sm_to pc o = pt) (hf : pc + 3 = pf) : sm_wp d j pc L (.inl x :: r) S Q = if 0 ≤ x' then sm_wp d j pt L r S Q else sm_wp d j pf L r S Q := by rw [w_if .ge hat hx ht hf]; simp only [sm_cmp, decide_eq_true_eq]
theorem w_ifgt (hat : sm_at j pc = some (3, .ifCond .gt o, a, b, v)) (hx : wr x = x') (ht : sm_to pc o = pt) (hf : pc + 3 = pf) : sm_wp d j pc L (.inl x :: r) S Q = if 0 < x' then sm_wp d j pt L r S Q else sm_wp d j pf L r S Q := by rw [w_if .gt hat hx ht hf]; simp only [sm_cmp, decide_eq_true_eq]
theorem w_ifle (hat : sm_at j pc = some (3, .ifCond .le o, a, b, v)) (hx : wr x = x') (ht : sm_to pc o = pt) (hf : pc + 3 = pf) : sm_wp d j pc L (.inl x :: r) S Q = if x' ≤ 0 then sm_wp d j pt L r S Q else sm_wp d j pf L r S Q := by rw [w_if .le hat hx ht hf]; simp only [sm_cmp, decide_eq_true_eq]
theorem w_iceq (hat : sm_at j pc = some (3, .if_icmp .eq o, a, b, v)) (hx : wr x = x') (hy : wr y = y') (ht : sm_to pc o = pt) (hf : pc + 3 = pf) : sm_wp d j pc L (.inl y :: .inl x :: r) S Q = if x' = y' then sm_wp d j pt L r S Q else sm_wp d j pf L r S Q := by rw [w_ic .eq hat hx hy ht hf]; simp only [sm_cmp, decide_eq_true_eq]
theorem w_icne (hat : sm_at j pc = some (3, .if_icmp .ne o, a, b, v)) (hx : wr x = x') (hy : wr y = y') (ht : sm_to pc o = pt) (hf : pc + 3 = pf) : sm_wp d j pc L (.inl y :: .inl x :: r) S Q = if x' = y' then sm_wp d j pf L r S Q else sm_wp d j pt L r S Q := by rw [w_ic .ne hat hx hy ht hf]; simp only [sm_cmp, decide_eq_true_eq, sm_ifn]
theorem w_iclt (hat : sm_at j pc = some (3, .if_icmp .lt o, a, b, v)) (hx : wr x = x') (hy : wr y = y') (ht : sm_to pc o = pt) (hf : pc + 3 = pf) : sm_wp d j pc L (.inl y :: .inl x :: r) S Q = if x' < y' then sm_wp d j pt L r S Q else sm_wp d j pf L r S Q := by rw [w_ic .lt hat hx hy ht hf]; simp only [sm_cmp, decide_eq_true_eq]
theorem w_icge (hat : sm_at j pc = some (3, .if_icmp .ge o, a, b, v)) (hx : wr x = x') (hy : wr y = y') (ht : sm_to pc o = pt) (hf : pc + 3 = pf) : sm_wp d j pc L (.inl y :: .inl x :: r) S Q = if y' ≤ x' then sm_wp d j pt L r S Q else sm_wp d j pf L r S Q := by rw [w_ic .ge hat hx hy ht hf]; simp only [sm_cmp, decide_eq_true_eq]
theorem w_icgt (hat : sm_at j pc = some (3, .if_icmp .gt o, a, b, v)) (hx : wr x = x') (hy : wr y = y') (ht : sm_to pc o = pt) (hf : pc + 3 = pf) : sm_wp d j pc L (.inl y :: .inl x :: r) S Q = if y' < x' then sm_wp d j pt L r S Q else sm_wp d j pf L r S Q := by rw [w_ic .gt hat hx hy ht hf]; simp only [sm_cmp, decide_eq_true_eq]
theorem w_icle (hat : sm_at j pc = some (3, .if_icmp .le o, a, b, v)) (hx : wr x = x') (hy : wr y = y') (ht : sm_to pc o = pt) (hf : pc + 3 = pf) : sm_wp d j pc L (.inl y :: .inl x :: r) S Q = if x' ≤ y' then sm_wp d j pt L r S Q else sm_wp d j pf L r S Q := by rw [w_ic .le hat hx hy ht hf]; simp only [sm_cmp, decide_eq_true_eq]
theorem w_goto (hat : sm_at j pc = some (3, .goto o, a, b, v)) (ht : sm_to pc o = pc') : sm_wp d j pc L st S Q = sm_wp d j pc' L st S Q := by subst ht; exact wp_step hat rfl
theorem w_ifnn {q : Option Nat} (hat : sm_at j pc = some (3, .ifnonnull o, a, b, v)) (ht : sm_to pc o = pt) (hf : pc + 3 = pf) : sm_wp d j pc L (.inr q :: r) S Q = if q.isSome = true then sm_wp d j pt L r S Q else sm_wp d j pf L r S Q := by
  subst ht; subst hf; rw [wp_step hat rfl]
  cases q <;> rfl
theorem w_dup {t : sm_V} (hat : sm_at j pc = some (1, .dup, a, b, v)) (hp : pc + 1 = pc') : sm_wp d j pc L (t :: r) S Q = sm_wp d j pc' L (t :: t :: r) S Q := by subst hp; exact wp_step hat rfl
theorem w_dup2 {t u : sm_V} (hat : sm_at j pc = some (1, .dup2, a, b, v)) (hp : pc + 1 = pc') : sm_wp d j pc L (t :: u :: r) S Q = sm_wp d j pc' L (t :: u :: t :: u :: r) S Q := by subst hp; exact wp_step hat rfl
theorem w_pop {t : sm_V} (hat : sm_at j pc = some (1, .pop, a, b, v)) (hp : pc + 1 = pc') : sm_wp d j pc L (t :: r) S Q = sm_wp d j pc' L r S Q := by subst hp; exact wp_step hat rfl
theorem w_getI {q : Nat} (hat : sm_at j pc = some (3, .getfield k, a, b, v)) (hp : pc + 3 = pc') (ha : a ≠ 103 ∧ sm_ft a b ≠ 1) : sm_wp d j pc L (.inr (some q) :: r) (Z, Rf, K, n, z) Q = ((K q).1 = a ∧ sm_wp d j pc' L (.inl (Z q b) :: r) (Z, Rf, K, n, z) Q) := by
  subst hp; rw [wp_step hat rfl]; simp only [sm_step]
  by_cases h : (K q).1 = a <;> simp [h, ha.1, ha.2, sm_gf, sm_nx]
theorem w_getR {q : Nat} (hat : sm_at j pc = some (3, .getfield k, a, b, v)) (hp : pc + 3 = pc') (ha : a ≠ 103 ∧ sm_ft a b = 1) : sm_wp d j pc L (.inr (some q) :: r) (Z, Rf, K, n, z) Q = ((K q).1 = a ∧ (Rf q b).isSome = true ∧ sm_wp d j pc' L (.inr (some ((Rf q b).getD 0)) :: r) (Z, Rf, K, n, z) Q) := by
  subst hp; rw [wp_step hat rfl]; simp only [sm_step]
  by_cases h : (K q).1 = a <;> by_cases h2 : (Rf q b).isSome = true <;> simp [h, h2, ha.1, ha.2, sm_gf, sm_nx]
theorem w_getSv {q : Nat} (hat : sm_at j pc = some (3, .getfield k, 103, 0, v)) (hp : pc + 3 = pc') : sm_wp d j pc L (.inr (some q) :: r) (Z, Rf, K, n, z) Q = ((K q).1 = 103 ∧ (Rf q 0).isSome = true ∧ sm_wp d j pc' L (.inr (some ((Rf q 0).getD 0)) :: r) (Z, Rf, K, n, z) Q) := by
  subst hp; rw [wp_step hat rfl]; simp only [sm_step]
  by_cases h : (K q).1 = 103 <;> by_cases h2 : (Rf q 0).isSome = true <;> simp [h, h2, sm_gf, sm_nx]
theorem w_getSc {q : Nat} (hat : sm_at j pc = some (3, .getfield k, 103, 1, v)) (hp : pc + 3 = pc') : sm_wp d j pc L (.inr (some q) :: r) (Z, Rf, K, n, z) Q = ((K q).1 = 103 ∧ sm_wp d j pc' L (.inl 0 :: r) (Z, Rf, K, n, z) Q) := by
  subst hp; rw [wp_step hat rfl]; simp only [sm_step]
  by_cases h : (K q).1 = 103 <;> simp [h, sm_gf, sm_nx]
theorem w_putI {q : Nat} (hat : sm_at j pc = some (3, .putfield k, a, b, v)) (hp : pc + 3 = pc') (ha : sm_ft a b = 0) : sm_wp d j pc L (.inl x :: .inr (some q) :: r) (Z, Rf, K, n, z) Q = ((K q).1 = a ∧ sm_wp d j pc' L r (sm_u Z q b x, Rf, K, n, z) Q) := by
  subst hp; rw [wp_step hat rfl]; simp only [sm_step]
  by_cases h : (K q).1 = a <;> simp [h, ha, sm_nx]
theorem w_putB {q : Nat} (hat : sm_at j pc = some (3, .putfield k, a, b, v)) (hp : pc + 3 = pc') (ha : sm_ft a b = 2) (hx : wr x = x') : sm_wp d j pc L (.inl x :: .inr (some q) :: r) (Z, Rf, K, n, z) Q = ((K q).1 = a ∧ (x' = 0 ∨ x' = 1) ∧ sm_wp d j pc' L r (sm_u Z q b x, Rf, K, n, z) Q) := by
  subst hp; subst hx; rw [wp_step hat rfl]; simp only [sm_step]
  by_cases h : (K q).1 = a <;> by_cases h2 : (wr x = 0 ∨ wr x = 1) <;> simp [h, h2, ha, sm_nx]
theorem w_putR {q : Nat} {w : Option Nat} (hat : sm_at j pc = some (3, .putfield k, a, b, v)) (hp : pc + 3 = pc') (ha : sm_ft a b = 1) : sm_wp d j pc L (.inr w :: .inr (some q) :: r) (Z, Rf, K, n, z) Q = ((K q).1 = a ∧ sm_wp d j pc' L r (Z, sm_u Rf q b w, K, n, z) Q) := by
  subst hp; rw [wp_step hat rfl]; simp only [sm_step]
  by_cases h : (K q).1 = a <;> simp [h, ha, sm_nx]
/-- an int row that may be read there -/
def sm_rd (k : Nat × Nat) (i : Int) : Prop := (k.1 = 100 ∨ k.1 = 102) ∧ 0 ≤ i ∧ i < (k.2 : Int)
/-- an int row that may be written there -/
def sm_wt (k : Nat × Nat) (i : Int) : Prop := k.1 = 100 ∧ 0 ≤ i ∧ i < (k.2 : Int)
theorem w_iald {q : Nat} (hat : sm_at j pc = some (1, .iaload, a, b, v)) (hp : pc + 1 = pc') (hx : wr x = x') : sm_wp d j pc L (.inl x :: .inr (some q) :: r) (Z, Rf, K, n, z) Q = (sm_rd (K q) x' ∧ sm_wp d j pc' L (.inl (Z q x'.toNat) :: r) (Z, Rf, K, n, z) Q) := by
  subst hp; subst hx; rw [wp_step hat rfl]; simp only [sm_step, sm_rd]
  split
  · rename_i h; simp only [sm_nx, h, true_and, and_self]
  · rename_i h; simp only [sm_nx, h, false_and]
theorem w_bald {q : Nat} (hat : sm_at j pc = some (1, .baload, a, b, v)) (hp : pc + 1 = pc') (hx : wr x = x') : sm_wp d j pc L (.inl x :: .inr (some q) :: r) (Z, Rf, K, n, z) Q = (((K q).1 = 104 ∧ 0 ≤ x' ∧ x' < ((K q).2 : Int)) ∧ sm_wp d j pc' L (.inl (Z q x'.toNat) :: r) (Z, Rf, K, n, z) Q) := by
  subst hp; subst hx; rw [wp_step hat rfl]; simp only [sm_step]
  split
  · rename_i h; simp only [sm_nx, h, true_and, and_self]
  · rename_i h; simp only [sm_nx, h, false_and]
theorem w_aald {q : Nat} (hat : sm_at j pc = some (1, .aaload, a, b, v)) (hp : pc + 1 = pc') (hx : wr x = x') : sm_wp d j pc L (.inl x :: .inr (some q) :: r) (Z, Rf, K, n, z) Q = (((K q).1 = 101 ∧ 0 ≤ x' ∧ x' < ((K q).2 : Int) ∧ (Rf q x'.toNat).isSome = true) ∧ sm_wp d j pc' L (.inr (some ((Rf q x'.toNat).getD 0)) :: r) (Z, Rf, K, n, z) Q) := by
  subst hp; subst hx; rw [wp_step hat rfl]; simp only [sm_step]
  split
  · rename_i h; simp only [sm_nx, h, true_and, and_self]
  · rename_i h; simp only [sm_nx, h, false_and]
theorem w_iast {q : Nat} (hat : sm_at j pc = some (1, .iastore, a, b, v)) (hp : pc + 1 = pc') (hy : wr y = y') : sm_wp d j pc L (.inl x :: .inl y :: .inr (some q) :: r) (Z, Rf, K, n, z) Q = (sm_wt (K q) y' ∧ sm_wp d j pc' L r (sm_u Z q y'.toNat x, Rf, K, n, z) Q) := by
  subst hp; subst hy; rw [wp_step hat rfl]; simp only [sm_step, sm_wt]
  split
  · rename_i h; simp only [sm_nx, h, true_and, and_self]
  · rename_i h; simp only [sm_nx, h, false_and]
theorem w_aast {q w : Nat} (hat : sm_at j pc = some (1, .aastore, a, b, v)) (hp : pc + 1 = pc') (hy : wr y = y') : sm_wp d j pc L (.inr (some w) :: .inl y :: .inr (some q) :: r) (Z, Rf, K, n, z) Q = (((K q).1 = 101 ∧ (K w).1 = 2 ∧ 0 ≤ y' ∧ y' < ((K q).2 : Int)) ∧ sm_wp d j pc' L r (Z, sm_u Rf q y'.toNat (some w), K, n, z) Q) := by
  subst hp; subst hy; rw [wp_step hat rfl]; simp only [sm_step]
  split
  · rename_i h; simp only [sm_nx, h, true_and, and_self]
  · rename_i h; simp only [sm_nx, h, false_and]
theorem w_alen {q : Nat} (hat : sm_at j pc = some (1, .arraylength, a, b, v)) (hp : pc + 1 = pc') : sm_wp d j pc L (.inr (some q) :: r) (Z, Rf, K, n, z) Q = (((K q).1 = 100 ∨ (K q).1 = 101 ∨ (K q).1 = 102 ∨ (K q).1 = 104) ∧ sm_wp d j pc' L (.inl ((K q).2 : Int) :: r) (Z, Rf, K, n, z) Q) := by
  subst hp; rw [wp_step hat rfl]; simp only [sm_step]
  split
  · rename_i h; simp only [sm_nx, h, true_and]
  · rename_i h; simp only [sm_nx, h, false_and]
theorem w_newa (hat : sm_at j pc = some (2, .newarray .int, a, b, v)) (hp : pc + 2 = pc') (hx : wr x = x') : sm_wp d j pc L (.inl x :: r) (Z, Rf, K, n, z) Q = ((n < 1000000 ∧ 0 ≤ x' ∧ x' ≤ 65536) ∧ sm_wp d j pc' L (.inr (some n) :: r) (sm_r Z n (fun _ => 0), sm_r Rf n (fun _ => none), sm_k K n (100, x'.toNat), n + 1, z + x'.toNat) Q) := by
  subst hp; subst hx; rw [wp_step hat rfl]; simp only [sm_step, true_and]
  split
  · rename_i h; simp only [sm_nx, h, true_and, and_self]
  · rename_i h; simp only [sm_nx, h, false_and]
theorem w_anew (hat : sm_at j pc = some (3, .anewarray k, a, b, v)) (hp : pc + 3 = pc') (hx : wr x = x') : sm_wp d j pc L (.inl x :: r) (Z, Rf, K, n, z) Q = ((n < 1000000 ∧ 0 ≤ x' ∧ x' ≤ 65536) ∧ sm_wp d j pc' L (.inr (some n) :: r) (sm_r Z n (fun _ => 0), sm_r Rf n (fun _ => none), sm_k K n (101, x'.toNat), n + 1, z + x'.toNat) Q) := by
  subst hp; subst hx; rw [wp_step hat rfl]; simp only [sm_step]
  split
  · rename_i h; simp only [sm_nx, h, true_and, and_self]
  · rename_i h; simp only [sm_nx, h, false_and]
theorem w_new {N : Nat} (hat : sm_at j pc = some (3, .new k, a, b, v)) (hp : pc + 3 = pc') (ha : a < 12) (hN : sm_N a = N) : sm_wp d j pc L st (Z, Rf, K, n, z) Q = (n < 1000000 ∧ sm_wp d j pc' L (.inr (some n) :: st) (sm_r Z n (fun _ => 0), sm_r Rf n (fun _ => none), sm_k K n (a, N), n + 1, z + N) Q) := by
  subst hp; subst hN; rw [wp_step hat rfl]; simp only [sm_step, ha, and_true]
  split
  · rename_i h; simp only [sm_nx, h, true_and]
  · rename_i h; simp only [sm_nx, h, false_and]
theorem w_gs0 (hat : sm_at j pc = some (3, .getstatic k, 0, b, v)) (hp : pc + 3 = pc') : sm_wp d j pc L st S Q = sm_wp d j pc' L (.inl 1 :: st) S Q := by subst hp; exact wp_step hat rfl
theorem w_gs1 (hat : sm_at j pc = some (3, .getstatic k, 1, b, v)) (hp : pc + 3 = pc') : sm_wp d j pc L st S Q = sm_wp d j pc' L (.inr (some b) :: st) S Q := by subst hp; exact wp_step hat rfl
theorem w_gs2 (hat : sm_at j pc = some (3, .getstatic k, 2, b, v)) (hp : pc + 3 = pc') : sm_wp d j pc L st (Z, Rf, K, n, z) Q = sm_wp d j pc' L (.inr (Rf 7000000 0) :: st) (Z, Rf, K, n, z) Q := by subst hp; exact wp_step hat rfl
theorem w_oinit {q : Nat} (hat : sm_at j pc = some (3, .invokespecial k, 1001, b, v)) (hp : pc + 3 = pc') (hr : r.length ≤ 8) : sm_wp d j pc L (.inr (some q) :: r) S Q = sm_wp d j pc' L r S Q := by
  subst hp; rw [wp_step hat rfl]; simp only [sm_step, hr, and_true, if_true, sm_nx]
theorem w_abs (hat : sm_at j pc = some (3, .invokestatic k, 1003, b, v)) (hp : pc + 3 = pc') (hr : r.length ≤ 8) (hx : wr x = x') : sm_wp d j pc L (.inl x :: r) S Q = sm_wp d j pc' L (.inl (if 0 ≤ x' then x else 0 - x) :: r) S Q := by
  subst hp; subst hx; rw [wp_step hat rfl]; simp only [sm_step, hr, if_true, sm_nx]
theorem w_min (hat : sm_at j pc = some (3, .invokestatic k, 1004, b, v)) (hp : pc + 3 = pc') (hr : r.length ≤ 8) (hx : wr x = x') (hy : wr y = y') : sm_wp d j pc L (.inl y :: .inl x :: r) S Q = sm_wp d j pc' L (.inl (if y' < x' then y else x) :: r) S Q := by
  subst hp; subst hx; subst hy; rw [wp_step hat rfl]; simp only [sm_step, hr, if_true, sm_nx]
  rfl
theorem w_max (hat : sm_at j pc = some (3, .invokestatic k, 1005, b, v)) (hp : pc + 3 = pc') (hr : r.length ≤ 8) (hx : wr x = x') (hy : wr y = y') : sm_wp d j pc L (.inl y :: .inl x :: r) S Q = sm_wp d j pc' L (.inl (if x' < y' then y else x) :: r) S Q := by
  subst hp; subst hx; subst hy; rw [wp_step hat rfl]; simp only [sm_step, hr, if_true, sm_nx]
  rfl
/-- what a copy of a stretch needs -/
def sm_cp (k k' : Nat × Nat) (s t m : Int) : Prop := k.1 = 100 ∧ k'.1 = 100 ∧ 0 ≤ s ∧ 0 ≤ t ∧ 0 ≤ m ∧ s + m ≤ (k.2 : Int) ∧ t + m ≤ (k'.2 : Int)
/-- a stretch of row p comes into row q -/
def sm_mv (Z : Nat → Nat → Int) (p q : Nat) (s t m : Int) : Nat → Nat → Int := sm_r Z q (fun k => if t.toNat ≤ k ∧ k < t.toNat + m.toNat then Z p (s.toNat + (k - t.toNat)) else Z q k)
theorem w_copy {p q : Nat} {s t m s' t' m' : Int} (hat : sm_at j pc = some (3, .invokestatic k, 1000, b, v)) (hp : pc + 3 = pc') (hr : r.length ≤ 8) (hs : wr s = s') (ht : wr t = t') (hm : wr m = m') : sm_wp d j pc L (.inl m :: .inl t :: .inr (some q) :: .inl s :: .inr (some p) :: r) (Z, Rf, K, n, z) Q = (sm_cp (K p) (K q) s' t' m' ∧ sm_wp d j pc' L r (sm_mv Z p q s' t' m', Rf, K, n, z) Q) := by
  subst hp; subst hs; subst ht; subst hm; rw [wp_step hat rfl]; simp only [sm_step, sm_cp, sm_mv]
  rw [if_neg (by omega), if_neg (by omega), if_neg (by omega)]
  split
  · rename_i h; simp only [sm_nx, h.2.2, true_and, and_self]
  · rename_i h
    simp only [hr, true_and] at h
    simp only [sm_nx, h, false_and]
theorem w_iret (hat : sm_at j pc = some (1, .ireturn, 0, b, v)) : sm_wp d j pc L [.inl x] S Q = Q (some (.inl x)) S := by rw [wp_step hat rfl]; simp [sm_step, sm_nx]
theorem w_zret (hat : sm_at j pc = some (1, .ireturn, 1, b, v)) (hx : wr x = x') : sm_wp d j pc L [.inl x] S Q = ((x' = 0 ∨ x' = 1) ∧ Q (some (.inl x)) S) := by
  subst hx; rw [wp_step hat rfl]
  by_cases h : (wr x = 0 ∨ wr x = 1) <;> simp [sm_step, sm_nx, h]
theorem w_cret (hat : sm_at j pc = some (1, .ireturn, 2, b, v)) (hx : wr x = x') : sm_wp d j pc L [.inl x] S Q = ((0 ≤ x' ∧ x' < 65536) ∧ Q (some (.inl x)) S) := by
  subst hx; rw [wp_step hat rfl]
  by_cases h : (0 ≤ wr x ∧ wr x < 65536) <;> simp [sm_step, sm_nx, h]
theorem w_bret (hat : sm_at j pc = some (1, .ireturn, 3, b, v)) (hx : wr x = x') : sm_wp d j pc L [.inl x] S Q = ((-128 ≤ x' ∧ x' < 128) ∧ Q (some (.inl x)) S) := by
  subst hx; rw [wp_step hat rfl]
  by_cases h : (-128 ≤ wr x ∧ wr x < 128) <;> simp [sm_step, sm_nx, h]
theorem w_aret {q : Option Nat} (hat : sm_at j pc = some (1, .areturn, a, b, v)) : sm_wp d j pc L [.inr q] S Q = Q (some (.inr q)) S := by rw [wp_step hat rfl]; rfl
theorem w_vret (hat : sm_at j pc = some (1, .return_, a, b, v)) : sm_wp d j pc L [] S Q = Q none S := by rw [wp_step hat rfl]; rfl
/-- a switch: the place that goes with a number -/
def sm_sel (x : Int) (dflt : Nat) : List (Int × Nat) → Nat
  | [] => dflt
  | q :: l => if x = q.1 then q.2 else sm_sel x dflt l
def sm_tb (pc : Nat) (lo : Int) : List Int → List (Int × Nat)
  | [] => []
  | o :: l => (lo, sm_to pc o) :: sm_tb pc (lo + 1) l
theorem sm_tb_sel (pc dflt : Nat) (x : Int) : ∀ (offs : List Int) (lo : Int), sm_sel x dflt (sm_tb pc lo offs) = if x < lo ∨ lo + offs.length ≤ x then dflt else sm_to pc (offs.getD (x - lo).toNat 0)
  | [], lo => by
    simp only [sm_tb, sm_sel, List.length_nil]
    rw [if_pos (by omega)]
  | o :: l, lo => by
    simp only [sm_tb, sm_sel, List.length_cons]
    by_cases h : x = lo
    · subst h
      rw [if_pos rfl, if_neg (by omega)]
      simp
    · rw [if_neg h, sm_tb_sel pc dflt x l (lo + 1)]
      by_cases h2 : x < lo ∨ lo + ((l.length + 1 : Nat) : Int) ≤ x
      · rw [if_pos (by omega), if_pos h2]
      · rw [if_neg (by omega), if_neg h2]
        have e : (x - lo).toNat = (x - (lo + 1)).toNat + 1 := by omega
        rw [e, List.getD_cons_succ]
theorem w_tsw {dflt lo hi : Int} {offs : Array Int} {len : Nat} {tb : List (Int × Nat)} {df : Nat} (hat : sm_at j pc = some (len, .tableswitch dflt lo hi offs, a, b, v)) (hx : wr x = x') (htb : sm_tb pc lo offs.toList = tb) (hdf : sm_to pc dflt = df) (hn : hi + 1 = lo + offs.toList.length) : sm_wp d j pc L (.inl x :: r) S Q = sm_wp d j (sm_sel x' df tb) L r S Q := by
  subst hx; subst htb; subst hdf
  rw [wp_step hat rfl, sm_tb_sel]
  simp only [sm_step]
  by_cases h : wr x < lo ∨ hi < wr x
  · rw [if_pos h, if_pos (by omega)]
    rfl
  · rw [if_neg h, if_neg (by omega)]
    have hl : (wr x - lo).toNat < offs.toList.length := by omega
    have e : offs[(wr x - lo).toNat]? = some (offs.toList.getD (wr x - lo).toNat 0) := by
      rw [← Array.getElem?_toList, List.getElem?_eq_getElem hl, List.getD_eq_getElem?_getD, List.getElem?_eq_getElem hl]
      rfl
    rw [e]
    rfl
def sm_lt (pc : Nat) (ps : List (Int × Int)) : List (Int × Nat) := ps.map (fun q => (q.1, sm_to pc q.2))
theorem sm_lt_sel (pc : Nat) (dflt : Int) (x : Int) : ∀ (ps : List (Int × Int)), sm_sel x (sm_to pc dflt) (sm_lt pc ps) = sm_to pc (Op.lookupswitch.offset ps dflt x)
  | [] => rfl
  | (p, o) :: l => by
    rw [Op.lookupswitch.offset_cons]
    show (if x = p then sm_to pc o else sm_sel x (sm_to pc dflt) (sm_lt pc l)) = _
    rw [sm_lt_sel pc dflt x l]
    by_cases h : x = p
    · rw [if_pos h, if_pos h.symm]
    · rw [if_neg h, if_neg (fun e => h e.symm)]
theorem w_lsw {dflt : Int} {ps : Array (Int × Int)} {len : Nat} {tb : List (Int × Nat)} {df : Nat} (hat : sm_at j pc = some (len, .lookupswitch dflt ps, a, b, v)) (hx : wr x = x') (htb : sm_lt pc ps.toList = tb) (hdf : sm_to pc dflt = df) : sm_wp d j pc L (.inl x :: r) S Q = sm_wp d j (sm_sel x' df tb) L r S Q := by
  subst hx; subst htb; subst hdf
  rw [wp_step hat rfl, sm_lt_sel]
  rfl
theorem w_callS {as : List sm_V} {i : Instr} (hat : sm_at j pc = some (3, i, a, b, v)) (hp : pc + 3 = pc') (hc : sm_isCall i a = true) (has : st = as.reverse ++ r) (hb : as.length = b) (hr : r.length ≤ 8) (hm : b ≤ sm_ml a) (hk : sm_rk a = 999) : sm_wp (d + 1) j pc L st S Q = sm_call d a as S (sm_cont (d + 1) j pc' L r Q) := by
  subst hp; subst has; subst hb
  have e1 : (as.reverse ++ r).take as.length = as.reverse := by rw [← List.length_reverse, List.take_left]
  have e2 : (as.reverse ++ r).drop as.length = r := by rw [← List.length_reverse, List.drop_left]
  rw [wp_call hat hc (by simp) (by rw [e2]; exact hr) hm, e1, e2, List.reverse_reverse, hk]
  simp [sm_rok]
theorem w_callV {as : List sm_V} {q kd : Nat} {i : Instr} (hat : sm_at j pc = some (3, i, a, b, v)) (hp : pc + 3 = pc') (hc : sm_isCall i a = true) (has : st = (Sum.inr (some q) :: as).reverse ++ r) (hb : as.length + 1 = b) (hr : r.length ≤ 8) (hm : b ≤ sm_ml a) (hk : sm_rk a = kd) (hkd : kd ≠ 999) : sm_wp (d + 1) j pc L st (Z, Rf, K, n, z) Q = ((K q).1 = kd ∧ sm_call d a (.inr (some q) :: as) (Z, Rf, K, n, z) (sm_cont (d + 1) j pc' L r Q)) := by
  subst hp; subst has; subst hb; subst hk
  have el : (Sum.inr (some q) :: as : List sm_V).length = as.length + 1 := rfl
  have e1 : ((Sum.inr (some q) :: as : List sm_V).reverse ++ r).take (as.length + 1) = (Sum.inr (some q) :: as).reverse := by rw [← el, ← List.length_reverse, List.take_left]
  have e2 : ((Sum.inr (some q) :: as : List sm_V).reverse ++ r).drop (as.length + 1) = r := by rw [← el, ← List.length_reverse, List.drop_left]
  rw [wp_call hat hc (by simp) (by rw [e2]; exact hr) hm, e1, e2, List.reverse_reverse]
  simp [sm_rok, hkd]
theorem w_cont {rv : Option sm_V} : sm_cont d j pc L st Q rv S = sm_wp d j pc L (rv.toList ++ st) S Q := rfl
end WPO
