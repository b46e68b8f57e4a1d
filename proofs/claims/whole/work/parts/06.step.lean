/-! The small machine's steps are the machine's own. -/
theorem zI_add (x y : Int) : zI (x + y) = zI x + zI y := Int32.ofInt_add x y
theorem zI_sub (x y : Int) : zI (x - y) = zI x - zI y := Int32.ofInt_sub x y
theorem zI_mul (x y : Int) : zI (x * y) = zI x * zI y := Int32.ofInt_mul x y
theorem zI_neg (x : Int) : zI (-x) = - zI x := Int32.ofInt_neg x
theorem zI_of (v : Int32) : zI v.toInt = v := Int32.ofInt_toInt v
theorem wr_eq (x : Int) : (zI x).toInt = wr x := rfl
theorem zI_lt (x y : Int) : zI x < zI y ↔ wr x < wr y := Int32.lt_iff_toInt_lt
theorem zI_le (x y : Int) : zI x ≤ zI y ↔ wr x ≤ wr y := Int32.le_iff_toInt_le
theorem zI_eq (x y : Int) : zI x = zI y ↔ wr x = wr y := Int32.toInt_inj.symm
theorem zI_zero : zI 0 = 0 := rfl
theorem wr_zero : wr 0 = 0 := rfl
theorem zI_lt0 (x : Int) : zI x < 0 ↔ wr x < 0 := zI_lt x 0
theorem zI_le0 (x : Int) : zI x ≤ 0 ↔ wr x ≤ 0 := zI_le x 0
theorem zI_ge0 (x : Int) : 0 ≤ zI x ↔ 0 ≤ wr x := zI_le 0 x
theorem zI_gt0 (x : Int) : 0 < zI x ↔ 0 < wr x := zI_lt 0 x
theorem zI_eq0 (x : Int) : zI x = 0 ↔ wr x = 0 := zI_eq x 0
theorem zI_clamp (x : Int) : (zI x).toNatClampNeg = (wr x).toNat := rfl
theorem zI_in {i : Int} {n : Nat} (h0 : 0 ≤ wr i) (h1 : wr i < (n : Int)) : vp_in (zI i) n := by
  unfold vp_in
  rw [zI_clamp, zI_lt0]
  omega
theorem zI_nat (n : Nat) : zI (n : Int) = Int32.ofNat n := rfl
theorem sm_tgt {pc : Nat} {o : Int} (h : 0 ≤ (pc : Int) + o) : (pc : Int) + o = ((sm_to pc o : Nat) : Int) := by
  unfold sm_to
  omega
/-- the length of an instruction -/
def sm_ilen (i : Instr) (len : Nat) : Nat := match i with
  | .bipush _ => 2
  | .sipush _ => 3
  | .ldc _ => 2
  | .iload _ => 2
  | .aload _ => 2
  | .istore _ => 2
  | .astore _ => 2
  | .iinc _ _ => 3
  | .ifCond _ _ => 3
  | .if_icmp _ _ => 3
  | .goto _ => 3
  | .ifnonnull _ => 3
  | .tableswitch _ _ _ _ => len
  | .lookupswitch _ _ => len
  | .getfield _ => 3
  | .putfield _ => 3
  | .getstatic _ => 3
  | .new _ => 3
  | .newarray _ => 2
  | .anewarray _ => 3
  | .invokevirtual _ => 3
  | .invokestatic _ => 3
  | .invokespecial _ => 3
  | _ => 1
def sm_fin (a b : Nat) : Bool := match vwCl[a]? with
  | some r => (r.2.1 b).2.2.2
  | none => true
/-- what is looked at beforehand, of each instruction: o the class's number, j the method's -/
def sm_ckI (o j pc len : Nat) (i : Instr) (a b : Nat) (v : Int) : Bool := decide (len = sm_ilen i len) && match i with
  | .bipush x => decide ((Int8.ofInt x).toInt32 = zI x)
  | .sipush x => decide ((Int16.ofInt x).toInt32 = zI x)
  | .ldc k => if a = 0 then sm_ldT.contains (o, k, v) else decide (a = 1) && decide (2000000 ≤ b) && sm_lsT.contains (o, k, b - 2000000)
  | .ifCond _ x => decide (0 ≤ (pc : Int) + x)
  | .if_icmp _ x => decide (0 ≤ (pc : Int) + x)
  | .goto x => decide (0 ≤ (pc : Int) + x)
  | .ifnonnull x => decide (0 ≤ (pc : Int) + x)
  | .tableswitch d _ _ offs => decide (0 ≤ (pc : Int) + d) && offs.toList.all (fun x => decide (0 ≤ (pc : Int) + x))
  | .lookupswitch d ps => decide (0 ≤ (pc : Int) + d) && ps.toList.all (fun x => decide (0 ≤ (pc : Int) + x.2)) && (ps.toList.zip (ps.toList.drop 1)).all (fun (a, next) => a.1 < next.1)
  | .getfield k => if a = 103 then sm_sfT.contains (o, k, b) else sm_flT.contains (o, k, a, b)
  | .putfield k => sm_flT.contains (o, k, a, b) && (!(sm_fin a b) || (decide ((sm_y j).name = "<init>") && decide (o = a)))
  | .new k => sm_nwT.contains (o, k, a)
  | .anewarray k => sm_anT.contains (o, k)
  | .getstatic k => if a = 0 then sm_gsT.contains (o, k, 10) else if a = 1 then decide (1000000 ≤ b) && decide (b < 1000005) && sm_gsT.contains (o, k, b - 1000000) else sm_gsT.contains (o, k, 11)
  | .invokestatic k => if a = 1000 then sm_acT.contains (o, k) else if a = 1003 then sm_mhT.contains (o, k, 0) else if a = 1004 then sm_mhT.contains (o, k, 1) else if a = 1005 then sm_mhT.contains (o, k, 2) else decide (1000 ≤ a) || (sm_msT.contains (o, k, a) && decide (b = sm_na a))
  | .invokespecial k => if a = 1001 then sm_oiT.contains (o, k) else decide (1000 ≤ a) || ((sm_miT.contains (o, k, a) || sm_mnT.contains (o, k, a)) && decide (b = sm_na a))
  | .invokevirtual k => decide (1000 ≤ a) || (sm_mvT.contains (o, k, a) && decide (b = sm_na a))
  | _ => true
theorem sm_lookup_tgt {pc : Nat} {d x : Int} : ∀ {ps : List (Int × Int)}, 0 ≤ (pc : Int) + d → (∀ q ∈ ps, 0 ≤ (pc : Int) + q.2) → 0 ≤ (pc : Int) + Op.lookupswitch.offset ps d x
  | [], hd, _ => by rw [Op.lookupswitch.offset_nil]; exact hd
  | (a, o) :: r, hd, hp => by
    rw [Op.lookupswitch.offset_cons]
    split
    · exact hp (a, o) List.mem_cons_self
    · exact sm_lookup_tgt hd (fun q hq => hp q (List.mem_cons_of_mem _ hq))
