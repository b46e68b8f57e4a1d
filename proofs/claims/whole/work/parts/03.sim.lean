/-! A small machine: ints as Int (compared by their low 32 bits), objects and rows by number; its steps are those of the bytecode. -/
abbrev sm_V : Type := Int ⊕ Option Nat
abbrev sm_L : Type := List (Option sm_V)
/-- ints, references, kinds and lengths of cells; how many cells, how many slots were made -/
abbrev sm_S : Type := (Nat → Nat → Int) × (Nat → Nat → Option Nat) × (Nat → Nat × Nat) × Nat × Nat
abbrev sm_E : Type := Nat × Nat × Instr × Nat × Nat × Int
def zI (x : Int) : Int32 := Int32.ofInt x
def wr (x : Int) : Int := (Int32.ofInt x).toInt
def sm_u {α : Type} (f : Nat → Nat → α) (a i : Nat) (v : α) : Nat → Nat → α := fun b j => if b = a ∧ j = i then v else f b j
def sm_r {α : Type} (f : Nat → Nat → α) (a : Nat) (v : Nat → α) : Nat → Nat → α := fun b j => if b = a then v j else f b j
def sm_k {α : Type} (f : Nat → α) (a : Nat) (v : α) : Nat → α := fun b => if b = a then v else f b
def sm_and (x y : Int) : Int := (zI x &&& zI y).toInt
def sm_or (x y : Int) : Int := (zI x ||| zI y).toInt
def sm_shl (x y : Int) : Int := (zI x <<< (zI y &&& 31)).toInt
def sm_shr (x y : Int) : Int := (zI x >>> (zI y &&& 31)).toInt
def sm_ushr (x y : Int) : Int := ((zI x).toUInt32 >>> ((zI y).toUInt32 &&& Int32.toUInt32 31)).toInt32.toInt
def sm_i2c (x : Int) : Int := ((zI x).toUInt32 % 65536).toInt32.toInt
def sm_div (x y : Int) : Int := (zI x / zI y).toInt
def sm_rem (x y : Int) : Int := (zI x - zI x / zI y * zI y).toInt
/-- 0 an int, 1 a reference, 2 a boolean -/
def sm_ftL : List (List Nat) := [[1, 1, 1, 0], [0, 0, 0, 0, 1, 1, 1, 1, 1, 1, 1, 1, 1, 1, 1, 1, 1, 1, 1], [0, 1], [1, 1, 1], [0, 0, 1, 0, 1, 0, 0, 0, 0, 0, 0, 2, 0, 0, 0], [0, 1, 0], [1, 1], [1, 1, 1, 1, 1, 0, 0, 0], [1, 1, 0, 0, 0, 0, 0, 2, 0, 0, 0], [1, 1, 1], [1, 1, 2, 1, 1, 1, 1, 1, 0, 0, 0, 1, 0], [1, 1, 1, 1, 0, 2, 2, 1, 1, 1, 1, 1, 0, 0, 0, 0, 0, 0, 0, 0, 0, 0, 0, 0, 1, 1, 1, 1, 1, 1, 0, 0, 0, 0, 0, 1, 1]]
def sm_ft (ci k : Nat) : Nat := (sm_ftL.getD ci []).getD k 0
def sm_fv (S : sm_S) (ci a k : Nat) : sm_V := if sm_ft ci k = 1 then .inr (S.2.1 a k) else .inl (S.1 a k)
/-- what a field read answers: a reference is never null -/
def sm_gf (S : sm_S) (a q b : Nat) : sm_V := if a = 103 then (if b = 0 then .inr (some ((S.2.1 q 0).getD 0)) else .inl 0) else if sm_ft a b = 1 then .inr (some ((S.2.1 q b).getD 0)) else .inl (S.1 q b)
def sm_N (ci : Nat) : Nat := (sm_ftL.getD ci []).length
def sm_cmp (c : Jvm.ClassFile.Cond) (x y : Int) : Bool := match c with
  | .eq => decide (x = y)
  | .ne => decide (¬ x = y)
  | .lt => decide (x < y)
  | .ge => decide (y ≤ x)
  | .gt => decide (y < x)
  | .le => decide (x ≤ y)
def sm_to (pc : Nat) (o : Int) : Nat := ((pc : Int) + o).toNat
def sm_lk (k : Nat) (L : sm_L) : Option sm_V := (L[k]?).getD none
/-- one step: on, or the method's end -/
def sm_step (pc : Nat) (len : Nat) (i : Instr) (a b : Nat) (v : Int) (L : sm_L) (st : List sm_V) (S : sm_S) : Option ((Nat × sm_L × List sm_V × sm_S) ⊕ (Option sm_V × sm_S)) :=
  match i with
  | .iconst x => some (.inl (pc + len, L, .inl x :: st, S))
  | .bipush x => some (.inl (pc + len, L, .inl x :: st, S))
  | .sipush x => some (.inl (pc + len, L, .inl x :: st, S))
  | .ldc _ => if a = 0 then some (.inl (pc + len, L, .inl v :: st, S)) else some (.inl (pc + len, L, .inr (some b) :: st, S))
  | .aconst_null => some (.inl (pc + len, L, .inr none :: st, S))
  | .iload_n k => match sm_lk k L with
    | some (.inl x) => some (.inl (pc + len, L, .inl x :: st, S))
    | _ => none
  | .iload k => match sm_lk k L with
    | some (.inl x) => some (.inl (pc + len, L, .inl x :: st, S))
    | _ => none
  | .aload_n k => match sm_lk k L with
    | some (.inr x) => some (.inl (pc + len, L, .inr x :: st, S))
    | _ => none
  | .aload k => match sm_lk k L with
    | some (.inr x) => some (.inl (pc + len, L, .inr x :: st, S))
    | _ => none
  | .istore_n k => match st with
    | .inl x :: r => if k < L.length then some (.inl (pc + len, L.set k (some (.inl x)), r, S)) else none
    | _ => none
  | .istore k => match st with
    | .inl x :: r => if k < L.length then some (.inl (pc + len, L.set k (some (.inl x)), r, S)) else none
    | _ => none
  | .astore_n k => match st with
    | .inr x :: r => if k < L.length then some (.inl (pc + len, L.set k (some (.inr x)), r, S)) else none
    | _ => none
  | .astore k => match st with
    | .inr x :: r => if k < L.length then some (.inl (pc + len, L.set k (some (.inr x)), r, S)) else none
    | _ => none
  | .iinc k c => match sm_lk k L with
    | some (.inl x) => if k < L.length then some (.inl (pc + len, L.set k (some (.inl (x + c))), st, S)) else none
    | _ => none
  | .iadd => match st with
    | .inl y :: .inl x :: r => some (.inl (pc + len, L, .inl (x + y) :: r, S))
    | _ => none
  | .isub => match st with
    | .inl y :: .inl x :: r => some (.inl (pc + len, L, .inl (x - y) :: r, S))
    | _ => none
  | .imul => match st with
    | .inl y :: .inl x :: r => some (.inl (pc + len, L, .inl (x * y) :: r, S))
    | _ => none
  | .idiv => match st with
    | .inl y :: .inl x :: r => if wr y = 0 then none else some (.inl (pc + len, L, .inl (sm_div x y) :: r, S))
    | _ => none
  | .irem => match st with
    | .inl y :: .inl x :: r => if wr y = 0 then none else some (.inl (pc + len, L, .inl (sm_rem x y) :: r, S))
    | _ => none
  | .iand => match st with
    | .inl y :: .inl x :: r => some (.inl (pc + len, L, .inl (sm_and x y) :: r, S))
    | _ => none
  | .ior => match st with
    | .inl y :: .inl x :: r => some (.inl (pc + len, L, .inl (sm_or x y) :: r, S))
    | _ => none
  | .ishl => match st with
    | .inl y :: .inl x :: r => some (.inl (pc + len, L, .inl (sm_shl x y) :: r, S))
    | _ => none
  | .ishr => match st with
    | .inl y :: .inl x :: r => some (.inl (pc + len, L, .inl (sm_shr x y) :: r, S))
    | _ => none
  | .iushr => match st with
    | .inl y :: .inl x :: r => some (.inl (pc + len, L, .inl (sm_ushr x y) :: r, S))
    | _ => none
  | .ineg => match st with
    | .inl x :: r => some (.inl (pc + len, L, .inl (-x) :: r, S))
    | _ => none
  | .i2c => match st with
    | .inl x :: r => some (.inl (pc + len, L, .inl (sm_i2c x) :: r, S))
    | _ => none
  | .ifCond c o => match st with
    | .inl x :: r => some (.inl (if sm_cmp c (wr x) 0 = true then sm_to pc o else pc + len, L, r, S))
    | _ => none
  | .if_icmp c o => match st with
    | .inl y :: .inl x :: r => some (.inl (if sm_cmp c (wr x) (wr y) = true then sm_to pc o else pc + len, L, r, S))
    | _ => none
  | .goto o => some (.inl (sm_to pc o, L, st, S))
  | .ifnonnull o => match st with
    | .inr none :: r => some (.inl (pc + len, L, r, S))
    | .inr (some _) :: r => some (.inl (sm_to pc o, L, r, S))
    | _ => none
  | .tableswitch d lo hi offs => match st with
    | .inl x :: r => if wr x < lo ∨ hi < wr x then some (.inl (sm_to pc d, L, r, S)) else match offs[(wr x - lo).toNat]? with
      | some o => some (.inl (sm_to pc o, L, r, S))
      | none => none
    | _ => none
  | .lookupswitch d ps => match st with
    | .inl x :: r => some (.inl (sm_to pc (Op.lookupswitch.offset ps.toList d (wr x)), L, r, S))
    | _ => none
  | .dup => match st with
    | x :: r => some (.inl (pc + len, L, x :: x :: r, S))
    | _ => none
  | .dup2 => match st with
    | x :: y :: r => some (.inl (pc + len, L, x :: y :: x :: y :: r, S))
    | _ => none
  | .pop => match st with
    | _ :: r => some (.inl (pc + len, L, r, S))
    | _ => none
  | .getfield _ => match st with
    | .inr (some q) :: r => if (S.2.2.1 q).1 = a ∧ ((a = 103 ∧ b = 1) ∨ (a ≠ 103 ∧ sm_ft a b ≠ 1) ∨ (S.2.1 q b).isSome = true) then some (.inl (pc + len, L, sm_gf S a q b :: r, S)) else none
    | _ => none
  | .putfield _ => match st with
    | .inl x :: .inr (some q) :: r => if (S.2.2.1 q).1 = a ∧ (sm_ft a b = 0 ∨ (sm_ft a b = 2 ∧ (wr x = 0 ∨ wr x = 1))) then some (.inl (pc + len, L, r, (sm_u S.1 q b x, S.2))) else none
    | .inr x :: .inr (some q) :: r => if (S.2.2.1 q).1 = a ∧ sm_ft a b = 1 then some (.inl (pc + len, L, r, (S.1, sm_u S.2.1 q b x, S.2.2))) else none
    | _ => none
  | .iaload => match st with
    | .inl i :: .inr (some q) :: r => if ((S.2.2.1 q).1 = 100 ∨ (S.2.2.1 q).1 = 102) ∧ 0 ≤ wr i ∧ wr i < ((S.2.2.1 q).2 : Int) then some (.inl (pc + len, L, .inl (S.1 q (wr i).toNat) :: r, S)) else none
    | _ => none
  | .baload => match st with
    | .inl i :: .inr (some q) :: r => if (S.2.2.1 q).1 = 104 ∧ 0 ≤ wr i ∧ wr i < ((S.2.2.1 q).2 : Int) then some (.inl (pc + len, L, .inl (S.1 q (wr i).toNat) :: r, S)) else none
    | _ => none
  | .aaload => match st with
    | .inl i :: .inr (some q) :: r => if (S.2.2.1 q).1 = 101 ∧ 0 ≤ wr i ∧ wr i < ((S.2.2.1 q).2 : Int) ∧ (S.2.1 q (wr i).toNat).isSome = true then some (.inl (pc + len, L, .inr (some ((S.2.1 q (wr i).toNat).getD 0)) :: r, S)) else none
    | _ => none
  | .iastore => match st with
    | .inl x :: .inl i :: .inr (some q) :: r => if (S.2.2.1 q).1 = 100 ∧ 0 ≤ wr i ∧ wr i < ((S.2.2.1 q).2 : Int) then some (.inl (pc + len, L, r, (sm_u S.1 q (wr i).toNat x, S.2))) else none
    | _ => none
  | .aastore => match st with
    | .inr (some x) :: .inl i :: .inr (some q) :: r => if (S.2.2.1 q).1 = 101 ∧ (S.2.2.1 x).1 = 2 ∧ 0 ≤ wr i ∧ wr i < ((S.2.2.1 q).2 : Int) then some (.inl (pc + len, L, r, (S.1, sm_u S.2.1 q (wr i).toNat (some x), S.2.2))) else none
    | _ => none
  | .arraylength => match st with
    | .inr (some q) :: r => if (S.2.2.1 q).1 = 100 ∨ (S.2.2.1 q).1 = 101 ∨ (S.2.2.1 q).1 = 102 ∨ (S.2.2.1 q).1 = 104 then some (.inl (pc + len, L, .inl ((S.2.2.1 q).2 : Int) :: r, S)) else none
    | _ => none
  | .newarray t => match st with
    | .inl x :: r => if t = .int ∧ S.2.2.2.1 < 1000000 ∧ 0 ≤ wr x ∧ wr x ≤ 65536 then some (.inl (pc + len, L, .inr (some S.2.2.2.1) :: r, (sm_r S.1 S.2.2.2.1 (fun _ => 0), sm_r S.2.1 S.2.2.2.1 (fun _ => none), sm_k S.2.2.1 S.2.2.2.1 (100, (wr x).toNat), S.2.2.2.1 + 1, S.2.2.2.2 + (wr x).toNat))) else none
    | _ => none
  | .anewarray _ => match st with
    | .inl x :: r => if S.2.2.2.1 < 1000000 ∧ 0 ≤ wr x ∧ wr x ≤ 65536 then some (.inl (pc + len, L, .inr (some S.2.2.2.1) :: r, (sm_r S.1 S.2.2.2.1 (fun _ => 0), sm_r S.2.1 S.2.2.2.1 (fun _ => none), sm_k S.2.2.1 S.2.2.2.1 (101, (wr x).toNat), S.2.2.2.1 + 1, S.2.2.2.2 + (wr x).toNat))) else none
    | _ => none
  | .new _ => if S.2.2.2.1 < 1000000 ∧ a < 12 then some (.inl (pc + len, L, .inr (some S.2.2.2.1) :: st, (sm_r S.1 S.2.2.2.1 (fun _ => 0), sm_r S.2.1 S.2.2.2.1 (fun _ => none), sm_k S.2.2.1 S.2.2.2.1 (a, sm_N a), S.2.2.2.1 + 1, S.2.2.2.2 + sm_N a))) else none
  | .getstatic _ => if a = 0 then some (.inl (pc + len, L, .inl 1 :: st, S)) else if a = 1 then some (.inl (pc + len, L, .inr (some b) :: st, S)) else some (.inl (pc + len, L, .inr (S.2.1 7000000 0) :: st, S))
  | .invokestatic _ => if a = 1003 then (match st with
    | .inl x :: r => if r.length ≤ 8 then some (.inl (pc + len, L, .inl (if 0 ≤ wr x then x else 0 - x) :: r, S)) else none
    | _ => none) else if a = 1004 then (match st with
    | .inl y :: .inl x :: r => if r.length ≤ 8 then some (.inl (pc + len, L, .inl (if wr y < wr x then y else x) :: r, S)) else none
    | _ => none) else if a = 1005 then (match st with
    | .inl y :: .inl x :: r => if r.length ≤ 8 then some (.inl (pc + len, L, .inl (if wr x < wr y then y else x) :: r, S)) else none
    | _ => none) else match st with
    | .inl n :: .inl dp :: .inr (some q) :: .inl sp :: .inr (some p) :: r => if a = 1000 ∧ r.length ≤ 8 ∧ (S.2.2.1 p).1 = 100 ∧ (S.2.2.1 q).1 = 100 ∧ 0 ≤ wr sp ∧ 0 ≤ wr dp ∧ 0 ≤ wr n ∧ wr sp + wr n ≤ ((S.2.2.1 p).2 : Int) ∧ wr dp + wr n ≤ ((S.2.2.1 q).2 : Int) then some (.inl (pc + len, L, r, (sm_r S.1 q (fun k => if (wr dp).toNat ≤ k ∧ k < (wr dp).toNat + (wr n).toNat then S.1 p ((wr sp).toNat + (k - (wr dp).toNat)) else S.1 q k), S.2))) else none
    | _ => none
  | .invokespecial _ => match st with
    | .inr (some _) :: r => if a = 1001 ∧ r.length ≤ 8 then some (.inl (pc + len, L, r, S)) else none
    | _ => none
  | .ireturn => match st with
    | [.inl x] => if a = 0 ∨ (a = 1 ∧ (wr x = 0 ∨ wr x = 1)) ∨ (a = 2 ∧ 0 ≤ wr x ∧ wr x < 65536) ∨ (a = 3 ∧ -128 ≤ wr x ∧ wr x < 128) then some (.inr (some (.inl x), S)) else none
    | _ => none
  | .areturn => match st with
    | [.inr x] => some (.inr (some (.inr x), S))
    | _ => none
  | .return_ => match st with
    | [] => some (.inr (none, S))
    | _ => none
  | _ => none
/-- is it a call of a method of the table? -/
def sm_isCall (i : Instr) (a : Nat) : Bool := match i with
  | .invokevirtual _ => decide (a < 1000)
  | .invokestatic _ => decide (a < 1000)
  | .invokespecial _ => decide (a < 1000)
  | _ => false
