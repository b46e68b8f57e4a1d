/-! Numbers of the small machine. -/
def inR (x : Int) : Prop := -2147483648 ≤ x ∧ x < 2147483648
theorem wr_bmod (x : Int) : wr x = x.bmod 4294967296 := Int32.toInt_ofInt
theorem wr_id {x : Int} (h1 : -2147483648 ≤ x) (h2 : x < 2147483648) : wr x = x := by
  rw [wr_bmod]
  exact Int.bmod_eq_of_le (by omega) (by omega)
theorem wr_in (x : Int) : inR (wr x) := by
  rw [wr_bmod]
  have h1 : -(4294967296 / 2 : Int) ≤ x.bmod 4294967296 := Int.le_bmod (by decide)
  have h2 : x.bmod 4294967296 < (4294967296 + 1) / 2 := Int.bmod_lt (by decide)
  unfold inR
  omega
theorem wr_wr (x : Int) : wr (wr x) = wr x := wr_id (wr_in x).1 (wr_in x).2
theorem sm_div_eq {x y : Int} (hx : 0 ≤ x) (hx2 : x < 2147483648) (hy : 0 < y) (hy2 : y < 2147483648) : sm_div x y = x / y := by
  have ex : (zI x).toInt = x := wr_id (by omega) hx2
  have ey : (zI y).toInt = y := wr_id (by omega) hy2
  have hle : x / y ≤ x := Int.ediv_le_self _ hx
  have hnn : 0 ≤ x / y := Int.ediv_nonneg hx (by omega)
  unfold sm_div
  rw [Int32.toInt_div, ex, ey, Int.tdiv_eq_ediv_of_nonneg hx]
  exact Int.bmod_eq_of_le (by omega) (by omega)
theorem sm_rem_eq {x y : Int} (hx : 0 ≤ x) (hx2 : x < 2147483648) (hy : 0 < y) (hy2 : y < 2147483648) : sm_rem x y = x % y := by
  have hd : zI x / zI y = zI (x / y) := by
    rw [← sm_div_eq hx hx2 hy hy2]
    exact (zI_of _).symm
  unfold sm_rem
  rw [hd, ← zI_mul, ← zI_sub]
  have h1 : x - x / y * y = x % y := by
    have := Int.mul_ediv_add_emod x y
    rw [Int.mul_comm] at this
    omega
  rw [h1]
  have h2 := Int.emod_nonneg x (by omega : y ≠ 0)
  have h3 := Int.emod_lt_of_pos x hy
  exact wr_id (by omega) (by omega)
def b2i (b : Bool) : Int := if b = true then 1 else 0
theorem wr_b2i (b : Bool) : wr (b2i b) = b2i b := by cases b <;> decide
theorem b2i_01 (b : Bool) : b2i b = 0 ∨ b2i b = 1 := by cases b <;> decide
theorem b2i_eq0 (b : Bool) : (b2i b = 0) = (b = false) := by cases b <;> simp [b2i]
theorem b2i_eq1 (b : Bool) : (b2i b = 1) = (b = true) := by cases b <;> simp [b2i]
theorem b2i_dec {p : Prop} [Decidable p] : (if p then (1 : Int) else 0) = b2i (decide p) := by by_cases h : p <;> simp [h, b2i]
theorem sm_u_ne {α : Type} {f : Nat → Nat → α} {a i b j : Nat} {v : α} (h : b ≠ a) : sm_u f a i v b j = f b j := by simp [sm_u, h]
theorem sm_u_eq {α : Type} {f : Nat → Nat → α} {a i j : Nat} {v : α} : sm_u f a i v a j = if j = i then v else f a j := by simp [sm_u]
theorem sm_u_self {α : Type} {f : Nat → Nat → α} {a i : Nat} {v : α} : sm_u f a i v a i = v := by simp [sm_u]
theorem sm_r_ne {α : Type} {f : Nat → Nat → α} {a b j : Nat} {v : Nat → α} (h : b ≠ a) : sm_r f a v b j = f b j := by simp [sm_r, h]
theorem sm_r_eq {α : Type} {f : Nat → Nat → α} {a j : Nat} {v : Nat → α} : sm_r f a v a j = v j := by simp [sm_r]
theorem ite_both {c : Prop} [Decidable c] {A B : Prop} (h1 : c → A) (h2 : ¬ c → B) : (if c then A else B) := by by_cases h : c <;> simp [h, h1, h2]
/-- is it a cell -/
def isC (w h c : Int) : Bool := decide (0 ≤ c ∧ c < 100 ∧ c % 10 < w ∧ c / 10 < h)
def isP (w h x y : Int) : Bool := decide (0 ≤ x ∧ x ≤ w ∧ 0 ≤ y ∧ y ≤ h)
def cAt (w h x y : Int) : Int := if 0 ≤ x ∧ x < w ∧ 0 ≤ y ∧ y < h then y * 10 + x else -1
theorem sm_rd_ok {l : Nat} {i : Int} (h : 0 ≤ i ∧ i < (l : Int)) : sm_rd (100, l) i = True := eq_true ⟨Or.inl rfl, h⟩
theorem sm_rd_ok2 {l : Nat} {i : Int} (h : 0 ≤ i ∧ i < (l : Int)) : sm_rd (102, l) i = True := eq_true ⟨Or.inr rfl, h⟩
theorem sm_wt_ok {l : Nat} {i : Int} (h : 0 ≤ i ∧ i < (l : Int)) : sm_wt (100, l) i = True := eq_true ⟨rfl, h⟩
theorem sm_cp_ok {l m : Nat} {s t k : Int} (h : 0 ≤ s ∧ 0 ≤ t ∧ 0 ≤ k ∧ s + k ≤ (l : Int) ∧ t + k ≤ (m : Int)) : sm_cp (100, l) (100, m) s t k = True := eq_true ⟨rfl, rfl, h⟩
