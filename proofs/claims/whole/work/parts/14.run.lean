set_option maxRecDepth 100000 in
theorem sm_cok0 : ∀ q ∈ List.range 209, (sm_codes.getD q []).all (sm_okE q) = true := show ∀ q ∈ [0, 1, 2, 3, 4, 5, 6, 7, 8, 9, 10, 11, 12, 13, 14, 15, 16, 17, 18, 19, 20, 21, 22, 23, 24, 25, 26, 27, 28, 29, 30, 31, 32, 33, 34, 35, 36, 37, 38, 39, 40, 41, 42, 43, 44, 45, 46, 47, 48, 49, 50, 51, 52, 53, 54, 55, 56, 57, 58, 59, 60, 61, 62, 63, 64, 65, 66, 67, 68, 69, 70, 71, 72, 73, 74, 75, 76, 77, 78, 79, 80, 81, 82, 83, 84, 85, 86, 87, 88, 89, 90, 91, 92, 93, 94, 95, 96, 97, 98, 99, 100, 101, 102, 103, 104, 105, 106, 107, 108, 109, 110, 111, 112, 113, 114, 115, 116, 117, 118, 119, 120, 121, 122, 123, 124, 125, 126, 127, 128, 129, 130, 131, 132, 133, 134, 135, 136, 137, 138, 139, 140, 141, 142, 143, 144, 145, 146, 147, 148, 149, 150, 151, 152, 153, 154, 155, 156, 157, 158, 159, 160, 161, 162, 163, 164, 165, 166, 167, 168, 169, 170, 171, 172, 173, 174, 175, 176, 177, 178, 179, 180, 181, 182, 183, 184, 185, 186, 187, 188, 189, 190, 191, 192, 193, 194, 195, 196, 197, 198, 199, 200, 201, 202, 203, 204, 205, 206, 207, 208], (sm_codes.getD q []).all (sm_okE q) = true from (List.forall_mem_cons.mpr ⟨sm_k0_ok, (List.forall_mem_cons.mpr ⟨sm_k1_ok, (List.forall_mem_cons.mpr ⟨sm_k2_ok, (List.forall_mem_cons.mpr ⟨sm_k3_ok, (List.forall_mem_cons.mpr ⟨sm_k4_ok, (List.forall_mem_cons.mpr ⟨sm_k5_ok, (List.forall_mem_cons.mpr ⟨sm_k6_ok, (List.forall_mem_cons.mpr ⟨sm_k7_ok, (List.forall_mem_cons.mpr ⟨sm_k8_ok, (List.forall_mem_cons.mpr ⟨sm_k9_ok, (List.forall_mem_cons.mpr ⟨sm_k10_ok, (List.forall_mem_cons.mpr ⟨sm_k11_ok, (List.forall_mem_cons.mpr ⟨sm_k12_ok, (List.forall_mem_cons.mpr ⟨sm_k13_ok, (List.forall_mem_cons.mpr ⟨sm_k14_ok, (List.forall_mem_cons.mpr ⟨sm_k15_ok, (List.forall_mem_cons.mpr ⟨sm_k16_ok, (List.forall_mem_cons.mpr ⟨sm_k17_ok, (List.forall_mem_cons.mpr ⟨sm_k18_ok, (List.forall_mem_cons.mpr ⟨sm_k19_ok, (List.forall_mem_cons.mpr ⟨sm_k20_ok, (List.forall_mem_cons.mpr ⟨sm_k21_ok, (List.forall_mem_cons.mpr ⟨sm_k22_ok, (List.forall_mem_cons.mpr ⟨sm_k23_ok, (List.forall_mem_cons.mpr ⟨sm_k24_ok, (List.forall_mem_cons.mpr ⟨sm_k25_ok, (List.forall_mem_cons.mpr ⟨sm_k26_ok, (List.forall_mem_cons.mpr ⟨sm_k27_ok, (List.forall_mem_cons.mpr ⟨sm_k28_ok, (List.forall_mem_cons.mpr ⟨sm_k29_ok, (List.forall_mem_cons.mpr ⟨sm_k30_ok, (List.forall_mem_cons.mpr ⟨sm_k31_ok, (List.forall_mem_cons.mpr ⟨sm_k32_ok, (List.forall_mem_cons.mpr ⟨sm_k33_ok, (List.forall_mem_cons.mpr ⟨sm_k34_ok, (List.forall_mem_cons.mpr ⟨sm_k35_ok, (List.forall_mem_cons.mpr ⟨sm_k36_ok, (List.forall_mem_cons.mpr ⟨sm_k37_ok, (List.forall_mem_cons.mpr ⟨sm_k38_ok, (List.forall_mem_cons.mpr ⟨sm_k39_ok, (List.forall_mem_cons.mpr ⟨sm_k40_ok, (List.forall_mem_cons.mpr ⟨sm_k41_ok, (List.forall_mem_cons.mpr ⟨sm_k42_ok, (List.forall_mem_cons.mpr ⟨sm_k43_ok, (List.forall_mem_cons.mpr ⟨sm_k44_ok, (List.forall_mem_cons.mpr ⟨sm_k45_ok, (List.forall_mem_cons.mpr ⟨sm_k46_ok, (List.forall_mem_cons.mpr ⟨sm_k47_ok, (List.forall_mem_cons.mpr ⟨sm_k48_ok, (List.forall_mem_cons.mpr ⟨sm_k49_ok, (List.forall_mem_cons.mpr ⟨sm_k50_ok, (List.forall_mem_cons.mpr ⟨sm_k51_ok, (List.forall_mem_cons.mpr ⟨sm_k52_ok, (List.forall_mem_cons.mpr ⟨sm_k53_ok, (List.forall_mem_cons.mpr ⟨sm_k54_ok, (List.forall_mem_cons.mpr ⟨sm_k55_ok, (List.forall_mem_cons.mpr ⟨sm_k56_ok, (List.forall_mem_cons.mpr ⟨sm_k57_ok, (List.forall_mem_cons.mpr ⟨sm_k58_ok, (List.forall_mem_cons.mpr ⟨sm_k59_ok, (List.forall_mem_cons.mpr ⟨sm_k60_ok, (List.forall_mem_cons.mpr ⟨sm_k61_ok, (List.forall_mem_cons.mpr ⟨sm_k62_ok, (List.forall_mem_cons.mpr ⟨sm_k63_ok, (List.forall_mem_cons.mpr ⟨sm_k64_ok, (List.forall_mem_cons.mpr ⟨sm_k65_ok, (List.forall_mem_cons.mpr ⟨sm_k66_ok, (List.forall_mem_cons.mpr ⟨sm_k67_ok, (List.forall_mem_cons.mpr ⟨sm_k68_ok, (List.forall_mem_cons.mpr ⟨sm_k69_ok, (List.forall_mem_cons.mpr ⟨sm_k70_ok, (List.forall_mem_cons.mpr ⟨sm_k71_ok, (List.forall_mem_cons.mpr ⟨sm_k72_ok, (List.forall_mem_cons.mpr ⟨sm_k73_ok, (List.forall_mem_cons.mpr ⟨sm_k74_ok, (List.forall_mem_cons.mpr ⟨sm_k75_ok, (List.forall_mem_cons.mpr ⟨sm_k76_ok, (List.forall_mem_cons.mpr ⟨sm_k77_ok, (List.forall_mem_cons.mpr ⟨sm_k78_ok, (List.forall_mem_cons.mpr ⟨sm_k79_ok, (List.forall_mem_cons.mpr ⟨sm_k80_ok, (List.forall_mem_cons.mpr ⟨sm_k81_ok, (List.forall_mem_cons.mpr ⟨sm_k82_ok, (List.forall_mem_cons.mpr ⟨sm_k83_ok, (List.forall_mem_cons.mpr ⟨sm_k84_ok, (List.forall_mem_cons.mpr ⟨sm_k85_ok, (List.forall_mem_cons.mpr ⟨sm_k86_ok, (List.forall_mem_cons.mpr ⟨sm_k87_ok, (List.forall_mem_cons.mpr ⟨sm_k88_ok, (List.forall_mem_cons.mpr ⟨sm_k89_ok, (List.forall_mem_cons.mpr ⟨sm_k90_ok, (List.forall_mem_cons.mpr ⟨sm_k91_ok, (List.forall_mem_cons.mpr ⟨sm_k92_ok, (List.forall_mem_cons.mpr ⟨sm_k93_ok, (List.forall_mem_cons.mpr ⟨sm_k94_ok, (List.forall_mem_cons.mpr ⟨sm_k95_ok, (List.forall_mem_cons.mpr ⟨sm_k96_ok, (List.forall_mem_cons.mpr ⟨sm_k97_ok, (List.forall_mem_cons.mpr ⟨sm_k98_ok, (List.forall_mem_cons.mpr ⟨sm_k99_ok, (List.forall_mem_cons.mpr ⟨sm_k100_ok, (List.forall_mem_cons.mpr ⟨sm_k101_ok, (List.forall_mem_cons.mpr ⟨sm_k102_ok, (List.forall_mem_cons.mpr ⟨sm_k103_ok, (List.forall_mem_cons.mpr ⟨sm_k104_ok, (List.forall_mem_cons.mpr ⟨sm_k105_ok, (List.forall_mem_cons.mpr ⟨sm_k106_ok, (List.forall_mem_cons.mpr ⟨sm_k107_ok, (List.forall_mem_cons.mpr ⟨sm_k108_ok, (List.forall_mem_cons.mpr ⟨sm_k109_ok, (List.forall_mem_cons.mpr ⟨sm_k110_ok, (List.forall_mem_cons.mpr ⟨sm_k111_ok, (List.forall_mem_cons.mpr ⟨sm_k112_ok, (List.forall_mem_cons.mpr ⟨sm_k113_ok, (List.forall_mem_cons.mpr ⟨sm_k114_ok, (List.forall_mem_cons.mpr ⟨sm_k115_ok, (List.forall_mem_cons.mpr ⟨sm_k116_ok, (List.forall_mem_cons.mpr ⟨sm_k117_ok, (List.forall_mem_cons.mpr ⟨sm_k118_ok, (List.forall_mem_cons.mpr ⟨sm_k119_ok, (List.forall_mem_cons.mpr ⟨sm_k120_ok, (List.forall_mem_cons.mpr ⟨sm_k121_ok, (List.forall_mem_cons.mpr ⟨sm_k122_ok, (List.forall_mem_cons.mpr ⟨sm_k123_ok, (List.forall_mem_cons.mpr ⟨sm_k124_ok, (List.forall_mem_cons.mpr ⟨sm_k125_ok, (List.forall_mem_cons.mpr ⟨sm_k126_ok, (List.forall_mem_cons.mpr ⟨sm_k127_ok, (List.forall_mem_cons.mpr ⟨sm_k128_ok, (List.forall_mem_cons.mpr ⟨sm_k129_ok, (List.forall_mem_cons.mpr ⟨sm_k130_ok, (List.forall_mem_cons.mpr ⟨sm_k131_ok, (List.forall_mem_cons.mpr ⟨sm_k132_ok, (List.forall_mem_cons.mpr ⟨sm_k133_ok, (List.forall_mem_cons.mpr ⟨sm_k134_ok, (List.forall_mem_cons.mpr ⟨sm_k135_ok, (List.forall_mem_cons.mpr ⟨sm_k136_ok, (List.forall_mem_cons.mpr ⟨sm_k137_ok, (List.forall_mem_cons.mpr ⟨sm_k138_ok, (List.forall_mem_cons.mpr ⟨sm_k139_ok, (List.forall_mem_cons.mpr ⟨sm_k140_ok, (List.forall_mem_cons.mpr ⟨sm_k141_ok, (List.forall_mem_cons.mpr ⟨sm_k142_ok, (List.forall_mem_cons.mpr ⟨sm_k143_ok, (List.forall_mem_cons.mpr ⟨sm_k144_ok, (List.forall_mem_cons.mpr ⟨sm_k145_ok, (List.forall_mem_cons.mpr ⟨sm_k146_ok, (List.forall_mem_cons.mpr ⟨sm_k147_ok, (List.forall_mem_cons.mpr ⟨sm_k148_ok, (List.forall_mem_cons.mpr ⟨sm_k149_ok, (List.forall_mem_cons.mpr ⟨sm_k150_ok, (List.forall_mem_cons.mpr ⟨sm_k151_ok, (List.forall_mem_cons.mpr ⟨sm_k152_ok, (List.forall_mem_cons.mpr ⟨sm_k153_ok, (List.forall_mem_cons.mpr ⟨sm_k154_ok, (List.forall_mem_cons.mpr ⟨sm_k155_ok, (List.forall_mem_cons.mpr ⟨sm_k156_ok, (List.forall_mem_cons.mpr ⟨sm_k157_ok, (List.forall_mem_cons.mpr ⟨sm_k158_ok, (List.forall_mem_cons.mpr ⟨sm_k159_ok, (List.forall_mem_cons.mpr ⟨sm_k160_ok, (List.forall_mem_cons.mpr ⟨sm_k161_ok, (List.forall_mem_cons.mpr ⟨sm_k162_ok, (List.forall_mem_cons.mpr ⟨sm_k163_ok, (List.forall_mem_cons.mpr ⟨sm_k164_ok, (List.forall_mem_cons.mpr ⟨sm_k165_ok, (List.forall_mem_cons.mpr ⟨sm_k166_ok, (List.forall_mem_cons.mpr ⟨sm_k167_ok, (List.forall_mem_cons.mpr ⟨sm_k168_ok, (List.forall_mem_cons.mpr ⟨sm_k169_ok, (List.forall_mem_cons.mpr ⟨sm_k170_ok, (List.forall_mem_cons.mpr ⟨sm_k171_ok, (List.forall_mem_cons.mpr ⟨sm_k172_ok, (List.forall_mem_cons.mpr ⟨sm_k173_ok, (List.forall_mem_cons.mpr ⟨sm_k174_ok, (List.forall_mem_cons.mpr ⟨sm_k175_ok, (List.forall_mem_cons.mpr ⟨sm_k176_ok, (List.forall_mem_cons.mpr ⟨sm_k177_ok, (List.forall_mem_cons.mpr ⟨sm_k178_ok, (List.forall_mem_cons.mpr ⟨sm_k179_ok, (List.forall_mem_cons.mpr ⟨sm_k180_ok, (List.forall_mem_cons.mpr ⟨sm_k181_ok, (List.forall_mem_cons.mpr ⟨sm_k182_ok, (List.forall_mem_cons.mpr ⟨sm_k183_ok, (List.forall_mem_cons.mpr ⟨sm_k184_ok, (List.forall_mem_cons.mpr ⟨sm_k185_ok, (List.forall_mem_cons.mpr ⟨sm_k186_ok, (List.forall_mem_cons.mpr ⟨sm_k187_ok, (List.forall_mem_cons.mpr ⟨sm_k188_ok, (List.forall_mem_cons.mpr ⟨sm_k189_ok, (List.forall_mem_cons.mpr ⟨sm_k190_ok, (List.forall_mem_cons.mpr ⟨sm_k191_ok, (List.forall_mem_cons.mpr ⟨sm_k192_ok, (List.forall_mem_cons.mpr ⟨sm_k193_ok, (List.forall_mem_cons.mpr ⟨sm_k194_ok, (List.forall_mem_cons.mpr ⟨sm_k195_ok, (List.forall_mem_cons.mpr ⟨sm_k196_ok, (List.forall_mem_cons.mpr ⟨sm_k197_ok, (List.forall_mem_cons.mpr ⟨sm_k198_ok, (List.forall_mem_cons.mpr ⟨sm_k199_ok, (List.forall_mem_cons.mpr ⟨sm_k200_ok, (List.forall_mem_cons.mpr ⟨sm_k201_ok, (List.forall_mem_cons.mpr ⟨sm_k202_ok, (List.forall_mem_cons.mpr ⟨sm_k203_ok, (List.forall_mem_cons.mpr ⟨sm_k204_ok, (List.forall_mem_cons.mpr ⟨sm_k205_ok, (List.forall_mem_cons.mpr ⟨sm_k206_ok, (List.forall_mem_cons.mpr ⟨sm_k207_ok, (List.forall_mem_cons.mpr ⟨sm_k208_ok, (fun _ h => absurd h List.not_mem_nil)⟩)⟩)⟩)⟩)⟩)⟩)⟩)⟩)⟩)⟩)⟩)⟩)⟩)⟩)⟩)⟩)⟩)⟩)⟩)⟩)⟩)⟩)⟩)⟩)⟩)⟩)⟩)⟩)⟩)⟩)⟩)⟩)⟩)⟩)⟩)⟩)⟩)⟩)⟩)⟩)⟩)⟩)⟩)⟩)⟩)⟩)⟩)⟩)⟩)⟩)⟩)⟩)⟩)⟩)⟩)⟩)⟩)⟩)⟩)⟩)⟩)⟩)⟩)⟩)⟩)⟩)⟩)⟩)⟩)⟩)⟩)⟩)⟩)⟩)⟩)⟩)⟩)⟩)⟩)⟩)⟩)⟩)⟩)⟩)⟩)⟩)⟩)⟩)⟩)⟩)⟩)⟩)⟩)⟩)⟩)⟩)⟩)⟩)⟩)⟩)⟩)⟩)⟩)⟩)⟩)⟩)⟩)⟩)⟩)⟩)⟩)⟩)⟩)⟩)⟩)⟩)⟩)⟩)⟩)⟩)⟩)⟩)⟩)⟩)⟩)⟩)⟩)⟩)⟩)⟩)⟩)⟩)⟩)⟩)⟩)⟩)⟩)⟩)⟩)⟩)⟩)⟩)⟩)⟩)⟩)⟩)⟩)⟩)⟩)⟩)⟩)⟩)⟩)⟩)⟩)⟩)⟩)⟩)⟩)⟩)⟩)⟩)⟩)⟩)⟩)⟩)⟩)⟩)⟩)⟩)⟩)⟩)⟩)⟩)⟩)⟩)⟩)⟩)⟩)⟩)⟩)⟩)⟩)⟩)⟩)⟩)⟩)⟩)⟩)⟩)⟩)⟩)⟩)⟩)⟩)⟩)⟩)⟩)⟩)⟩)⟩)⟩)⟩)⟩)⟩)⟩)⟩)⟩)⟩)
theorem sm_cok (j : Nat) : (sm_codes.getD j []).all (sm_okE j) = true := by
  rcases Nat.lt_or_ge j 209 with h | h
  · exact sm_cok0 j (List.mem_range.mpr h)
  · rw [List.getD_eq_getElem?_getD, List.getElem?_eq_none (show sm_codes.length ≤ j from h)]
    rfl
/-- a return's kind is the method's -/
def sm_rck (rt : Option FieldType) (i : Instr) (a : Nat) : Bool := match i with
  | .ireturn => (decide (a = 0) && decide (rt = some .int)) || (decide (a = 1) && decide (rt = some .boolean)) || (decide (a = 2) && decide (rt = some .char)) || (decide (a = 3) && decide (rt = some .byte))
  | .areturn => match rt with
    | some (.object _) => true
    | some (.array _) => true
    | _ => false
  | .return_ => decide (rt = none)
  | _ => true
set_option maxRecDepth 100000 in
theorem sm_rok0 : (List.range 209).all (fun j => (sm_codes.getD j []).all (fun e => sm_rck (sm_rt j) e.2.2.1 e.2.2.2.1)) = true := by decide +kernel
theorem sm_find_mem {pc : Nat} {x : Nat × Instr × Nat × Nat × Int} : ∀ {l : List sm_E}, sm_find pc l = some x → (pc, x) ∈ l
  | [], h => by cases h
  | e :: r, h => by
    unfold sm_find at h
    split at h
    · rename_i he
      cases h
      rw [← he]
      exact List.mem_cons_self
    · exact List.mem_cons_of_mem _ (sm_find_mem h)
theorem sm_at_ok {j pc : Nat} {len : Nat} {i : Instr} {a b : Nat} {v : Int} (h : sm_at j pc = some (len, i, a, b, v)) : decode (sm_b j) pc = .ok (i, len) ∧ sm_ckI (sm_own j) j pc len i a b v = true ∧ sm_rck (sm_rt j) i a = true := by
  have hm := sm_find_mem h
  have h1 := List.all_eq_true.mp (sm_cok j) _ hm
  simp only [sm_okE, Bool.and_eq_true, decide_eq_true_eq] at h1
  refine ⟨h1.1, h1.2, ?_⟩
  rcases Nat.lt_or_ge j 209 with q | q
  · have h2 := List.all_eq_true.mp (List.all_eq_true.mp sm_rok0 j (List.mem_range.mpr q)) _ hm
    exact h2
  · rw [List.getD_eq_getElem?_getD, List.getElem?_eq_none (show sm_codes.length ≤ j from q)] at hm
    cases hm
def sm_entry (j : Nat) (as : List sm_V) : sm_L := as.map some ++ List.replicate (sm_ml j - as.length) none
def sm_rok (rk : Nat) (as : List sm_V) (S : sm_S) : Bool := decide (rk = 999) || match as with
  | .inr (some q) :: _ => decide ((S.2.2.1 q).1 = rk)
  | _ => false
/-- f: how many steps at most; d: how deep calls go -/
def sm_run : Nat → Nat → Nat → Nat → sm_L → List sm_V → sm_S → Option (Option sm_V × sm_S)
  | 0, _, _, _, _, _, _ => none
  | f + 1, d, j, pc, L, st, S =>
    match sm_at j pc with
    | none => none
    | some (len, i, a, b, v) =>
      if sm_isCall i a = true then
        if 0 < d ∧ b ≤ st.length ∧ (st.drop b).length ≤ 8 ∧ b ≤ sm_ml a ∧ sm_rok (sm_rk a) ((st.take b).reverse) S = true then
          match sm_run f (d - 1) a 0 (sm_entry a (st.take b).reverse) [] S with
          | none => none
          | some (r, S') => sm_run f d j (pc + len) L (r.toList ++ st.drop b) S'
        else none
      else match sm_step pc len i a b v L st S with
        | none => none
        | some (.inl (pc', L', st', S')) => sm_run f d j pc' L' st' S'
        | some (.inr r) => some r
theorem sm_step_mono {pc len : Nat} {i : Instr} {a b : Nat} {v : Int} {L L' : sm_L} {st st' : List sm_V} {S S' : sm_S} {pc' : Nat} (h : sm_step pc len i a b v L st S = some (.inl (pc', L', st', S'))) : S.2.2.2.1 ≤ S'.2.2.2.1 ∧ S.2.2.2.2 ≤ S'.2.2.2.2 := by
  unfold sm_step at h
  repeat' split at h
  all_goals first
    | (cases h; done)
    | (cases h; exact ⟨Nat.le_refl _, Nat.le_refl _⟩)
    | (cases h; exact ⟨Nat.le_add_right _ _, Nat.le_add_right _ _⟩)
theorem sm_step_end {pc len : Nat} {i : Instr} {a b : Nat} {v : Int} {L : sm_L} {st : List sm_V} {S : sm_S} {r : Option sm_V × sm_S} (h : sm_step pc len i a b v L st S = some (.inr r)) : r.2 = S ∧
    ((i = .ireturn ∧ ∃ x, st = [.inl x] ∧ r.1 = some (.inl x) ∧ (a = 0 ∨ (a = 1 ∧ (wr x = 0 ∨ wr x = 1)) ∨ (a = 2 ∧ 0 ≤ wr x ∧ wr x < 65536) ∨ (a = 3 ∧ -128 ≤ wr x ∧ wr x < 128))) ∨ (i = .areturn ∧ ∃ x, st = [.inr x] ∧ r.1 = some (.inr x)) ∨ (i = .return_ ∧ st = [] ∧ r.1 = none)) := by
  unfold sm_step at h
  repeat' split at h
  all_goals first
    | (cases h; done)
    | (cases h; exact ⟨rfl, Or.inl ⟨rfl, _, rfl, rfl, by assumption⟩⟩)
    | (cases h; exact ⟨rfl, Or.inr (Or.inl ⟨rfl, _, rfl, rfl⟩)⟩)
    | (cases h; exact ⟨rfl, Or.inr (Or.inr ⟨rfl, rfl, rfl⟩)⟩)
theorem sm_run_mono : ∀ {f d j pc : Nat} {L : sm_L} {st : List sm_V} {S : sm_S} {r : Option sm_V × sm_S}, sm_run f d j pc L st S = some r → S.2.2.2.1 ≤ r.2.2.2.2.1 ∧ S.2.2.2.2 ≤ r.2.2.2.2.2 := by
  intro f
  induction f with
  | zero => intro d j pc L st S r h; cases h
  | succ f ih =>
    intro d j pc L st S r h
    unfold sm_run at h
    split at h
    · cases h
    · split at h
      · split at h
        · split at h
          · cases h
          · rename_i h1
            have a1 := ih h1
            have a2 := ih h
            exact ⟨Nat.le_trans a1.1 a2.1, Nat.le_trans a1.2 a2.2⟩
        · cases h
      · split at h
        · cases h
        · rename_i h1
          have a1 := sm_step_mono h1
          have a2 := ih h
          exact ⟨Nat.le_trans a1.1 a2.1, Nat.le_trans a1.2 a2.2⟩
        · rename_i h1
          cases h
          have := (sm_step_end h1).1
          rw [this]
          exact ⟨Nat.le_refl _, Nat.le_refl _⟩
theorem sm_good {ws : List Cond} (h : ∀ w ∈ ws, w ∈ sm_wds) : GoodIn sm_wds ws := fun w hw => ⟨h w hw, good_of_word (List.mem_filter.mp (h w hw)).2⟩
theorem sm_lg (ad : Nat → Nat) (as : List sm_V) : lg_sl (as.map (sm_tr ad)) = as.map (fun v => Slot.val (sm_tr ad v)) := by
  induction as with
  | nil => rfl
  | cons a l ih =>
    have h : lg_sl (List.map (sm_tr ad) (a :: l)) = (if (sm_tr ad a).category = 2 then [.val (sm_tr ad a), .second] else [.val (sm_tr ad a)]) ++ lg_sl (l.map (sm_tr ad)) := rfl
    rw [h, sm_cat, ih]
    rfl
theorem sm_lh_entry (ad : Nat → Nat) (j : Nat) (as : List sm_V) (h : as.length ≤ sm_ml j) : sm_lh ad ((lg_sl (as.map (sm_tr ad)) ++ List.replicate (sm_ml j - (lg_sl (as.map (sm_tr ad))).length) Slot.unset).toArray) (sm_ml j) (sm_entry j as) := by
  have hlen : (lg_sl (as.map (sm_tr ad))).length = as.length := by rw [sm_lg, List.length_map]
  have he := lv_entry (as.map (sm_tr ad)) (n := sm_ml j) (by rw [hlen]; exact h)
  refine ⟨by simp [sm_entry]; omega, he.1, he.2.1, fun q hq => ?_⟩
  obtain ⟨v, h1, h2⟩ := sm_lv_mem.mp hq
  have hlt : q.1 < as.length := by
    rcases Nat.lt_or_ge q.1 as.length with c | c
    · exact c
    · unfold sm_lk sm_entry at h1
      rw [List.getElem?_append_right (by rw [List.length_map]; exact c), List.getElem?_replicate] at h1
      split at h1 <;> cases h1
  unfold sm_lk sm_entry at h1
  rw [List.getElem?_append_left (by rw [List.length_map]; exact hlt), List.getElem?_map, List.getElem?_eq_getElem hlt] at h1
  cases h1
  rw [sm_lg, List.getElem?_toArray, List.getElem?_append_left (by rw [List.length_map]; exact hlt), List.getElem?_map, List.getElem?_eq_getElem hlt, h2]
  rfl
