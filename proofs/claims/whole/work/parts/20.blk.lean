theorem t0_0 : sm_at 0 0 = some (1, .aload_n 0, 0, 0, 0) := rfl
theorem t0_1 : sm_at 0 1 = some (3, .invokespecial 3, 1001, 1, 0) := rfl
theorem t0_4 : sm_at 0 4 = some (1, .aload_n 0, 0, 0, 0) := rfl
theorem t0_5 : sm_at 0 5 = some (2, .bipush 100, 0, 0, 0) := rfl
theorem t0_7 : sm_at 0 7 = some (2, .newarray .int, 0, 0, 0) := rfl
theorem t0_9 : sm_at 0 9 = some (3, .putfield 9, 0, 0, 0) := rfl
theorem t0_12 : sm_at 0 12 = some (1, .aload_n 0, 0, 0, 0) := rfl
theorem t0_13 : sm_at 0 13 = some (2, .bipush 100, 0, 0, 0) := rfl
theorem t0_15 : sm_at 0 15 = some (2, .newarray .int, 0, 0, 0) := rfl
theorem t0_17 : sm_at 0 17 = some (3, .putfield 15, 0, 1, 0) := rfl
theorem t0_20 : sm_at 0 20 = some (1, .aload_n 0, 0, 0, 0) := rfl
theorem t0_21 : sm_at 0 21 = some (2, .bipush 100, 0, 0, 0) := rfl
theorem t0_23 : sm_at 0 23 = some (2, .newarray .int, 0, 0, 0) := rfl
theorem t0_25 : sm_at 0 25 = some (3, .putfield 18, 0, 2, 0) := rfl
theorem t0_28 : sm_at 0 28 = some (1, .return_, 0, 0, 0) := rfl
set_option maxRecDepth 10000 in
theorem b0_0 {d : Nat} {r0 : Nat} {Z : Nat → Nat → Int} {Rf : Nat → Nat → Option Nat} {K : Nat → Nat × Nat} {n z : Nat} {Q : Option sm_V → sm_S → Prop} : sm_wp d 0 0 [some (.inr (some r0))] [] (Z, Rf, K, n, z) Q = ((n < 1000000 ∧ 0 ≤ (100 : Int) ∧ (100 : Int) ≤ 65536) ∧ ((sm_k K n (100, 100)) r0).1 = 0 ∧ (n + 1 < 1000000 ∧ 0 ≤ (100 : Int) ∧ (100 : Int) ≤ 65536) ∧ ((sm_k (sm_k K n (100, 100)) (n + 1) (100, 100)) r0).1 = 0 ∧ (n + 1 + 1 < 1000000 ∧ 0 ≤ (100 : Int) ∧ (100 : Int) ≤ 65536) ∧ ((sm_k (sm_k (sm_k K n (100, 100)) (n + 1) (100, 100)) (n + 1 + 1) (100, 100)) r0).1 = 0 ∧ Q none (sm_r (sm_r (sm_r Z n (fun _ => 0)) (n + 1) (fun _ => 0)) (n + 1 + 1) (fun _ => 0), sm_u (sm_r (sm_u (sm_r (sm_u (sm_r Rf n (fun _ => none)) r0 0 (some n)) (n + 1) (fun _ => none)) r0 1 (some (n + 1))) (n + 1 + 1) (fun _ => none)) r0 2 (some (n + 1 + 1)), sm_k (sm_k (sm_k K n (100, 100)) (n + 1) (100, 100)) (n + 1 + 1) (100, 100), n + 1 + 1 + 1, z + 100 + 100 + 100)) := (w_aload_n t0_0 rfl rfl).trans ((w_oinit t0_1 rfl (Nat.le_of_ble_eq_true rfl)).trans ((w_aload_n t0_4 rfl rfl).trans ((w_bipush t0_5 rfl).trans ((w_newa t0_7 rfl wl_100).trans (congrArg (And _) ((w_putR t0_9 rfl (by decide)).trans (congrArg (And _) ((w_aload_n t0_12 rfl rfl).trans ((w_bipush t0_13 rfl).trans ((w_newa t0_15 rfl wl_100).trans (congrArg (And _) ((w_putR t0_17 rfl (by decide)).trans (congrArg (And _) ((w_aload_n t0_20 rfl rfl).trans ((w_bipush t0_21 rfl).trans ((w_newa t0_23 rfl wl_100).trans (congrArg (And _) ((w_putR t0_25 rfl (by decide)).trans (congrArg (And _) (w_vret t0_28))))))))))))))))))))
theorem t1_0 : sm_at 1 0 = some (1, .aload_n 0, 0, 0, 0) := rfl
theorem t1_1 : sm_at 1 1 = some (3, .getfield 9, 0, 0, 0) := rfl
theorem t1_4 : sm_at 1 4 = some (1, .iconst (-1), 0, 0, 0) := rfl
theorem t1_5 : sm_at 1 5 = some (3, .invokestatic 21, 205, 2, 0) := rfl
theorem t1_8 : sm_at 1 8 = some (1, .aload_n 0, 0, 0, 0) := rfl
theorem t1_9 : sm_at 1 9 = some (1, .iconst 0, 0, 0, 0) := rfl
theorem t1_10 : sm_at 1 10 = some (3, .putfield 27, 0, 3, 0) := rfl
theorem t1_13 : sm_at 1 13 = some (1, .iconst 0, 0, 0, 0) := rfl
theorem t1_14 : sm_at 1 14 = some (1, .istore_n 3, 0, 0, 0) := rfl
theorem t1_15 : sm_at 1 15 = some (1, .iload_n 3, 0, 0, 0) := rfl
theorem t1_16 : sm_at 1 16 = some (1, .aload_n 1, 0, 0, 0) := rfl
theorem t1_17 : sm_at 1 17 = some (3, .getfield 31, 1, 1, 0) := rfl
theorem t1_20 : sm_at 1 20 = some (3, .if_icmp .ge 65, 0, 0, 0) := rfl
theorem t1_23 : sm_at 1 23 = some (1, .iconst 0, 0, 0, 0) := rfl
theorem t1_24 : sm_at 1 24 = some (2, .istore 4, 0, 0, 0) := rfl
theorem t1_26 : sm_at 1 26 = some (2, .iload 4, 0, 0, 0) := rfl
theorem t1_28 : sm_at 1 28 = some (1, .aload_n 1, 0, 0, 0) := rfl
theorem t1_29 : sm_at 1 29 = some (3, .getfield 36, 1, 0, 0) := rfl
theorem t1_32 : sm_at 1 32 = some (3, .if_icmp .ge 47, 0, 0, 0) := rfl
theorem t1_35 : sm_at 1 35 = some (1, .iload_n 3, 0, 0, 0) := rfl
theorem t1_36 : sm_at 1 36 = some (2, .bipush 10, 0, 0, 0) := rfl
theorem t1_38 : sm_at 1 38 = some (1, .imul, 0, 0, 0) := rfl
theorem t1_39 : sm_at 1 39 = some (2, .iload 4, 0, 0, 0) := rfl
theorem t1_41 : sm_at 1 41 = some (1, .iadd, 0, 0, 0) := rfl
theorem t1_42 : sm_at 1 42 = some (2, .istore 5, 0, 0, 0) := rfl
theorem t1_44 : sm_at 1 44 = some (1, .aload_n 0, 0, 0, 0) := rfl
theorem t1_45 : sm_at 1 45 = some (3, .getfield 9, 0, 0, 0) := rfl
theorem t1_48 : sm_at 1 48 = some (2, .iload 5, 0, 0, 0) := rfl
theorem t1_50 : sm_at 1 50 = some (1, .iaload, 0, 0, 0) := rfl
theorem t1_51 : sm_at 1 51 = some (1, .iconst (-1), 0, 0, 0) := rfl
theorem t1_52 : sm_at 1 52 = some (3, .if_icmp .ne 21, 0, 0, 0) := rfl
theorem t1_55 : sm_at 1 55 = some (1, .aload_n 0, 0, 0, 0) := rfl
theorem t1_56 : sm_at 1 56 = some (1, .aload_n 1, 0, 0, 0) := rfl
theorem t1_57 : sm_at 1 57 = some (1, .aload_n 2, 0, 0, 0) := rfl
theorem t1_58 : sm_at 1 58 = some (2, .iload 5, 0, 0, 0) := rfl
theorem t1_60 : sm_at 1 60 = some (3, .invokevirtual 39, 2, 4, 0) := rfl
theorem t1_63 : sm_at 1 63 = some (1, .aload_n 0, 0, 0, 0) := rfl
theorem t1_64 : sm_at 1 64 = some (1, .dup, 0, 0, 0) := rfl
theorem t1_65 : sm_at 1 65 = some (3, .getfield 27, 0, 3, 0) := rfl
theorem t1_68 : sm_at 1 68 = some (1, .iconst 1, 0, 0, 0) := rfl
theorem t1_69 : sm_at 1 69 = some (1, .iadd, 0, 0, 0) := rfl
theorem t1_70 : sm_at 1 70 = some (3, .putfield 27, 0, 3, 0) := rfl
theorem t1_73 : sm_at 1 73 = some (3, .iinc 4 1, 0, 0, 0) := rfl
theorem t1_76 : sm_at 1 76 = some (3, .goto (-50), 0, 0, 0) := rfl
theorem t1_79 : sm_at 1 79 = some (3, .iinc 3 1, 0, 0, 0) := rfl
theorem t1_82 : sm_at 1 82 = some (3, .goto (-67), 0, 0, 0) := rfl
theorem t1_85 : sm_at 1 85 = some (1, .return_, 0, 0, 0) := rfl
set_option maxRecDepth 10000 in
theorem b1_0 {d : Nat} {r0 : Nat} {l1 : Option sm_V} {l2 : Option sm_V} {l3 : Option sm_V} {l4 : Option sm_V} {l5 : Option sm_V} {Z : Nat → Nat → Int} {Rf : Nat → Nat → Option Nat} {K : Nat → Nat × Nat} {n z : Nat} {Q : Option sm_V → sm_S → Prop} : sm_wp (d + 1) 1 0 [some (.inr (some r0)), l1, l2, l3, l4, l5] [] (Z, Rf, K, n, z) Q = ((K r0).1 = 0 ∧ (Rf r0 0).isSome = true ∧ sm_call d 205 [.inr (some ((Rf r0 0).getD 0)), .inl ((-1))] (Z, Rf, K, n, z) (sm_cont (d + 1) 1 8 [some (.inr (some r0)), l1, l2, l3, l4, l5] [] Q)) := (w_aload_n t1_0 rfl rfl).trans ((w_getR t1_1 rfl (by decide)).trans (congrArg (And _) (congrArg (And _) ((w_iconst t1_4 rfl).trans (w_callS t1_5 rfl rfl rfl rfl (Nat.le_of_ble_eq_true rfl) (Nat.le_of_ble_eq_true rfl) rfl)))))
set_option maxRecDepth 10000 in
theorem b1_8 {d : Nat} {r0 : Nat} {l1 : Option sm_V} {l2 : Option sm_V} {l3 : Option sm_V} {l4 : Option sm_V} {l5 : Option sm_V} {Z : Nat → Nat → Int} {Rf : Nat → Nat → Option Nat} {K : Nat → Nat × Nat} {n z : Nat} {Q : Option sm_V → sm_S → Prop} : sm_wp d 1 8 [some (.inr (some r0)), l1, l2, l3, l4, l5] [] (Z, Rf, K, n, z) Q = ((K r0).1 = 0 ∧ sm_wp d 1 15 [some (.inr (some r0)), l1, l2, some (.inl 0), l4, l5] [] (sm_u Z r0 3 0, Rf, K, n, z) Q) := (w_aload_n t1_8 rfl rfl).trans ((w_iconst t1_9 rfl).trans ((w_putI t1_10 rfl (by decide)).trans (congrArg (And _) ((w_iconst t1_13 rfl).trans (w_istore_n t1_14 rfl (Nat.le_of_ble_eq_true rfl) rfl)))))
set_option maxRecDepth 10000 in
theorem b1_15 {d : Nat} {l0 : Option sm_V} {r1 : Nat} {l2 : Option sm_V} {x3 : Int} {l4 : Option sm_V} {l5 : Option sm_V} {Z : Nat → Nat → Int} {Rf : Nat → Nat → Option Nat} {K : Nat → Nat × Nat} {n z : Nat} {Q : Option sm_V → sm_S → Prop} : sm_wp d 1 15 [l0, some (.inr (some r1)), l2, some (.inl x3), l4, l5] [] (Z, Rf, K, n, z) Q = ((K r1).1 = 1 ∧ (if wr (Z r1 1) ≤ wr x3 then sm_wp d 1 85 [l0, some (.inr (some r1)), l2, some (.inl x3), l4, l5] [] (Z, Rf, K, n, z) Q else sm_wp d 1 23 [l0, some (.inr (some r1)), l2, some (.inl x3), l4, l5] [] (Z, Rf, K, n, z) Q)) := (w_iload_n t1_15 rfl rfl).trans ((w_aload_n t1_16 rfl rfl).trans ((w_getI t1_17 rfl (by decide)).trans (congrArg (And _) (w_icge t1_20 rfl rfl rfl rfl))))
set_option maxRecDepth 10000 in
theorem b1_23 {d : Nat} {l0 : Option sm_V} {l1 : Option sm_V} {l2 : Option sm_V} {l3 : Option sm_V} {l4 : Option sm_V} {l5 : Option sm_V} {Z : Nat → Nat → Int} {Rf : Nat → Nat → Option Nat} {K : Nat → Nat × Nat} {n z : Nat} {Q : Option sm_V → sm_S → Prop} : sm_wp d 1 23 [l0, l1, l2, l3, l4, l5] [] (Z, Rf, K, n, z) Q = (sm_wp d 1 26 [l0, l1, l2, l3, some (.inl 0), l5] [] (Z, Rf, K, n, z) Q) := (w_iconst t1_23 rfl).trans (w_istore t1_24 rfl (Nat.le_of_ble_eq_true rfl) rfl)
set_option maxRecDepth 10000 in
theorem b1_26 {d : Nat} {l0 : Option sm_V} {r1 : Nat} {l2 : Option sm_V} {l3 : Option sm_V} {x4 : Int} {l5 : Option sm_V} {Z : Nat → Nat → Int} {Rf : Nat → Nat → Option Nat} {K : Nat → Nat × Nat} {n z : Nat} {Q : Option sm_V → sm_S → Prop} : sm_wp d 1 26 [l0, some (.inr (some r1)), l2, l3, some (.inl x4), l5] [] (Z, Rf, K, n, z) Q = ((K r1).1 = 1 ∧ (if wr (Z r1 0) ≤ wr x4 then sm_wp d 1 79 [l0, some (.inr (some r1)), l2, l3, some (.inl x4), l5] [] (Z, Rf, K, n, z) Q else sm_wp d 1 35 [l0, some (.inr (some r1)), l2, l3, some (.inl x4), l5] [] (Z, Rf, K, n, z) Q)) := (w_iload t1_26 rfl rfl).trans ((w_aload_n t1_28 rfl rfl).trans ((w_getI t1_29 rfl (by decide)).trans (congrArg (And _) (w_icge t1_32 rfl rfl rfl rfl))))
set_option maxRecDepth 10000 in
theorem b1_35 {d : Nat} {r0 : Nat} {l1 : Option sm_V} {l2 : Option sm_V} {x3 : Int} {x4 : Int} {l5 : Option sm_V} {Z : Nat → Nat → Int} {Rf : Nat → Nat → Option Nat} {K : Nat → Nat × Nat} {n z : Nat} {Q : Option sm_V → sm_S → Prop} : sm_wp d 1 35 [some (.inr (some r0)), l1, l2, some (.inl x3), some (.inl x4), l5] [] (Z, Rf, K, n, z) Q = ((K r0).1 = 0 ∧ (Rf r0 0).isSome = true ∧ sm_rd (K (((Rf r0 0).getD 0))) (wr ((x3 * 10) + x4)) ∧ (if wr (Z (((Rf r0 0).getD 0)) ((wr ((x3 * 10) + x4)).toNat)) = (-1 : Int) then sm_wp d 1 55 [some (.inr (some r0)), l1, l2, some (.inl x3), some (.inl x4), some (.inl ((x3 * 10) + x4))] [] (Z, Rf, K, n, z) Q else sm_wp d 1 73 [some (.inr (some r0)), l1, l2, some (.inl x3), some (.inl x4), some (.inl ((x3 * 10) + x4))] [] (Z, Rf, K, n, z) Q)) := (w_iload_n t1_35 rfl rfl).trans ((w_bipush t1_36 rfl).trans ((w_imul t1_38 rfl).trans ((w_iload t1_39 rfl rfl).trans ((w_iadd t1_41 rfl).trans ((w_istore t1_42 rfl (Nat.le_of_ble_eq_true rfl) rfl).trans ((w_aload_n t1_44 rfl rfl).trans ((w_getR t1_45 rfl (by decide)).trans (congrArg (And _) (congrArg (And _) ((w_iload t1_48 rfl rfl).trans ((w_iald t1_50 rfl rfl).trans (congrArg (And _) ((w_iconst t1_51 rfl).trans (w_icne t1_52 rfl wl_m1 rfl rfl))))))))))))))
set_option maxRecDepth 10000 in
theorem b1_55 {d : Nat} {r0 : Nat} {q1 : Option Nat} {q2 : Option Nat} {l3 : Option sm_V} {l4 : Option sm_V} {x5 : Int} {Z : Nat → Nat → Int} {Rf : Nat → Nat → Option Nat} {K : Nat → Nat × Nat} {n z : Nat} {Q : Option sm_V → sm_S → Prop} : sm_wp (d + 1) 1 55 [some (.inr (some r0)), some (.inr q1), some (.inr q2), l3, l4, some (.inl x5)] [] (Z, Rf, K, n, z) Q = ((K r0).1 = 0 ∧ sm_call d 2 [.inr (some r0), .inr q1, .inr q2, .inl x5] (Z, Rf, K, n, z) (sm_cont (d + 1) 1 63 [some (.inr (some r0)), some (.inr q1), some (.inr q2), l3, l4, some (.inl x5)] [] Q)) := (w_aload_n t1_55 rfl rfl).trans ((w_aload_n t1_56 rfl rfl).trans ((w_aload_n t1_57 rfl rfl).trans ((w_iload t1_58 rfl rfl).trans (w_callV t1_60 rfl rfl rfl rfl (Nat.le_of_ble_eq_true rfl) (Nat.le_of_ble_eq_true rfl) rfl (by decide)))))
set_option maxRecDepth 10000 in
theorem b1_63 {d : Nat} {r0 : Nat} {l1 : Option sm_V} {l2 : Option sm_V} {l3 : Option sm_V} {l4 : Option sm_V} {l5 : Option sm_V} {Z : Nat → Nat → Int} {Rf : Nat → Nat → Option Nat} {K : Nat → Nat × Nat} {n z : Nat} {Q : Option sm_V → sm_S → Prop} : sm_wp d 1 63 [some (.inr (some r0)), l1, l2, l3, l4, l5] [] (Z, Rf, K, n, z) Q = ((K r0).1 = 0 ∧ (K r0).1 = 0 ∧ sm_wp d 1 73 [some (.inr (some r0)), l1, l2, l3, l4, l5] [] (sm_u Z r0 3 ((Z r0 3) + 1), Rf, K, n, z) Q) := (w_aload_n t1_63 rfl rfl).trans ((w_dup t1_64 rfl).trans ((w_getI t1_65 rfl (by decide)).trans (congrArg (And _) ((w_iconst t1_68 rfl).trans ((w_iadd t1_69 rfl).trans ((w_putI t1_70 rfl (by decide)).trans (congrArg (And _) rfl)))))))
set_option maxRecDepth 10000 in
theorem b1_73 {d : Nat} {l0 : Option sm_V} {l1 : Option sm_V} {l2 : Option sm_V} {l3 : Option sm_V} {x4 : Int} {l5 : Option sm_V} {Z : Nat → Nat → Int} {Rf : Nat → Nat → Option Nat} {K : Nat → Nat × Nat} {n z : Nat} {Q : Option sm_V → sm_S → Prop} : sm_wp d 1 73 [l0, l1, l2, l3, some (.inl x4), l5] [] (Z, Rf, K, n, z) Q = (sm_wp d 1 26 [l0, l1, l2, l3, some (.inl (x4 + 1)), l5] [] (Z, Rf, K, n, z) Q) := (w_iinc t1_73 rfl rfl (Nat.le_of_ble_eq_true rfl) rfl).trans (w_goto t1_76 rfl)
set_option maxRecDepth 10000 in
theorem b1_79 {d : Nat} {l0 : Option sm_V} {l1 : Option sm_V} {l2 : Option sm_V} {x3 : Int} {l4 : Option sm_V} {l5 : Option sm_V} {Z : Nat → Nat → Int} {Rf : Nat → Nat → Option Nat} {K : Nat → Nat × Nat} {n z : Nat} {Q : Option sm_V → sm_S → Prop} : sm_wp d 1 79 [l0, l1, l2, some (.inl x3), l4, l5] [] (Z, Rf, K, n, z) Q = (sm_wp d 1 15 [l0, l1, l2, some (.inl (x3 + 1)), l4, l5] [] (Z, Rf, K, n, z) Q) := (w_iinc t1_79 rfl rfl (Nat.le_of_ble_eq_true rfl) rfl).trans (w_goto t1_82 rfl)
set_option maxRecDepth 10000 in
theorem b1_85 {d : Nat} {l0 : Option sm_V} {l1 : Option sm_V} {l2 : Option sm_V} {l3 : Option sm_V} {l4 : Option sm_V} {l5 : Option sm_V} {Z : Nat → Nat → Int} {Rf : Nat → Nat → Option Nat} {K : Nat → Nat × Nat} {n z : Nat} {Q : Option sm_V → sm_S → Prop} : sm_wp d 1 85 [l0, l1, l2, l3, l4, l5] [] (Z, Rf, K, n, z) Q = (Q none (Z, Rf, K, n, z)) := w_vret t1_85
theorem t2_0 : sm_at 2 0 = some (1, .aload_n 0, 0, 0, 0) := rfl
theorem t2_1 : sm_at 2 1 = some (3, .getfield 9, 0, 0, 0) := rfl
theorem t2_4 : sm_at 2 4 = some (1, .iload_n 3, 0, 0, 0) := rfl
theorem t2_5 : sm_at 2 5 = some (1, .iload_n 3, 0, 0, 0) := rfl
theorem t2_6 : sm_at 2 6 = some (1, .iastore, 0, 0, 0) := rfl
theorem t2_7 : sm_at 2 7 = some (1, .aload_n 0, 0, 0, 0) := rfl
theorem t2_8 : sm_at 2 8 = some (3, .getfield 18, 0, 2, 0) := rfl
theorem t2_11 : sm_at 2 11 = some (1, .iconst 0, 0, 0, 0) := rfl
theorem t2_12 : sm_at 2 12 = some (1, .iload_n 3, 0, 0, 0) := rfl
theorem t2_13 : sm_at 2 13 = some (1, .iastore, 0, 0, 0) := rfl
theorem t2_14 : sm_at 2 14 = some (1, .iconst 1, 0, 0, 0) := rfl
theorem t2_15 : sm_at 2 15 = some (2, .istore 4, 0, 0, 0) := rfl
theorem t2_17 : sm_at 2 17 = some (1, .iconst 0, 0, 0, 0) := rfl
theorem t2_18 : sm_at 2 18 = some (2, .istore 5, 0, 0, 0) := rfl
theorem t2_20 : sm_at 2 20 = some (2, .iload 5, 0, 0, 0) := rfl
theorem t2_22 : sm_at 2 22 = some (2, .iload 4, 0, 0, 0) := rfl
theorem t2_24 : sm_at 2 24 = some (3, .if_icmp .ge 152, 0, 0, 0) := rfl
theorem t2_27 : sm_at 2 27 = some (2, .iload 5, 0, 0, 0) := rfl
theorem t2_29 : sm_at 2 29 = some (2, .bipush 100, 0, 0, 0) := rfl
theorem t2_31 : sm_at 2 31 = some (3, .if_icmp .ge 145, 0, 0, 0) := rfl
theorem t2_34 : sm_at 2 34 = some (1, .aload_n 0, 0, 0, 0) := rfl
theorem t2_35 : sm_at 2 35 = some (3, .getfield 18, 0, 2, 0) := rfl
theorem t2_38 : sm_at 2 38 = some (2, .iload 5, 0, 0, 0) := rfl
theorem t2_40 : sm_at 2 40 = some (1, .iaload, 0, 0, 0) := rfl
theorem t2_41 : sm_at 2 41 = some (2, .bipush 10, 0, 0, 0) := rfl
theorem t2_43 : sm_at 2 43 = some (1, .irem, 0, 0, 0) := rfl
theorem t2_44 : sm_at 2 44 = some (2, .istore 6, 0, 0, 0) := rfl
theorem t2_46 : sm_at 2 46 = some (1, .aload_n 0, 0, 0, 0) := rfl
theorem t2_47 : sm_at 2 47 = some (3, .getfield 18, 0, 2, 0) := rfl
theorem t2_50 : sm_at 2 50 = some (2, .iload 5, 0, 0, 0) := rfl
theorem t2_52 : sm_at 2 52 = some (1, .iaload, 0, 0, 0) := rfl
theorem t2_53 : sm_at 2 53 = some (2, .bipush 10, 0, 0, 0) := rfl
theorem t2_55 : sm_at 2 55 = some (1, .idiv, 0, 0, 0) := rfl
theorem t2_56 : sm_at 2 56 = some (2, .istore 7, 0, 0, 0) := rfl
theorem t2_58 : sm_at 2 58 = some (1, .iconst 0, 0, 0, 0) := rfl
theorem t2_59 : sm_at 2 59 = some (2, .istore 8, 0, 0, 0) := rfl
theorem t2_61 : sm_at 2 61 = some (2, .iload 8, 0, 0, 0) := rfl
theorem t2_63 : sm_at 2 63 = some (1, .iconst 4, 0, 0, 0) := rfl
theorem t2_64 : sm_at 2 64 = some (3, .if_icmp .ge 106, 0, 0, 0) := rfl
theorem t2_67 : sm_at 2 67 = some (1, .aload_n 1, 0, 0, 0) := rfl
theorem t2_68 : sm_at 2 68 = some (2, .iload 6, 0, 0, 0) := rfl
theorem t2_70 : sm_at 2 70 = some (3, .getstatic 43, 1, 1000000, 0) := rfl
theorem t2_73 : sm_at 2 73 = some (2, .iload 8, 0, 0, 0) := rfl
theorem t2_75 : sm_at 2 75 = some (1, .iaload, 0, 0, 0) := rfl
theorem t2_76 : sm_at 2 76 = some (1, .iadd, 0, 0, 0) := rfl
theorem t2_77 : sm_at 2 77 = some (2, .iload 7, 0, 0, 0) := rfl
theorem t2_79 : sm_at 2 79 = some (3, .getstatic 46, 1, 1000001, 0) := rfl
theorem t2_82 : sm_at 2 82 = some (2, .iload 8, 0, 0, 0) := rfl
theorem t2_84 : sm_at 2 84 = some (1, .iaload, 0, 0, 0) := rfl
theorem t2_85 : sm_at 2 85 = some (1, .iadd, 0, 0, 0) := rfl
theorem t2_86 : sm_at 2 86 = some (3, .invokevirtual 49, 9, 3, 0) := rfl
theorem t2_89 : sm_at 2 89 = some (2, .istore 9, 0, 0, 0) := rfl
theorem t2_91 : sm_at 2 91 = some (1, .aload_n 1, 0, 0, 0) := rfl
theorem t2_92 : sm_at 2 92 = some (2, .iload 6, 0, 0, 0) := rfl
theorem t2_94 : sm_at 2 94 = some (2, .iload 7, 0, 0, 0) := rfl
theorem t2_96 : sm_at 2 96 = some (2, .iload 8, 0, 0, 0) := rfl
theorem t2_98 : sm_at 2 98 = some (3, .invokevirtual 53, 12, 4, 0) := rfl
theorem t2_101 : sm_at 2 101 = some (2, .istore 10, 0, 0, 0) := rfl
theorem t2_103 : sm_at 2 103 = some (2, .iload 9, 0, 0, 0) := rfl
theorem t2_105 : sm_at 2 105 = some (1, .iconst (-1), 0, 0, 0) := rfl
set_option maxRecDepth 100000 in
theorem t2_106 : sm_at 2 106 = some (3, .if_icmp .eq 58, 0, 0, 0) := rfl
set_option maxRecDepth 100000 in
theorem t2_109 : sm_at 2 109 = some (2, .iload 10, 0, 0, 0) := rfl
set_option maxRecDepth 100000 in
theorem t2_111 : sm_at 2 111 = some (1, .iconst (-1), 0, 0, 0) := rfl
set_option maxRecDepth 100000 in
theorem t2_112 : sm_at 2 112 = some (3, .if_icmp .eq 52, 0, 0, 0) := rfl
set_option maxRecDepth 100000 in
theorem t2_115 : sm_at 2 115 = some (1, .aload_n 0, 0, 0, 0) := rfl
set_option maxRecDepth 100000 in
theorem t2_116 : sm_at 2 116 = some (3, .getfield 9, 0, 0, 0) := rfl
set_option maxRecDepth 100000 in
theorem t2_119 : sm_at 2 119 = some (2, .iload 9, 0, 0, 0) := rfl
set_option maxRecDepth 100000 in
theorem t2_121 : sm_at 2 121 = some (1, .iaload, 0, 0, 0) := rfl
set_option maxRecDepth 100000 in
theorem t2_122 : sm_at 2 122 = some (1, .iconst (-1), 0, 0, 0) := rfl
set_option maxRecDepth 100000 in
theorem t2_123 : sm_at 2 123 = some (3, .if_icmp .ne 41, 0, 0, 0) := rfl
set_option maxRecDepth 100000 in
theorem t2_126 : sm_at 2 126 = some (1, .aload_n 2, 0, 0, 0) := rfl
set_option maxRecDepth 100000 in
theorem t2_127 : sm_at 2 127 = some (3, .getfield 57, 9, 0, 0) := rfl
set_option maxRecDepth 100000 in
theorem t2_130 : sm_at 2 130 = some (2, .iload 10, 0, 0, 0) := rfl
set_option maxRecDepth 100000 in
theorem t2_132 : sm_at 2 132 = some (1, .iaload, 0, 0, 0) := rfl
set_option maxRecDepth 100000 in
theorem t2_133 : sm_at 2 133 = some (1, .iconst (-1), 0, 0, 0) := rfl
set_option maxRecDepth 100000 in
theorem t2_134 : sm_at 2 134 = some (3, .if_icmp .ne 30, 0, 0, 0) := rfl
set_option maxRecDepth 100000 in
theorem t2_137 : sm_at 2 137 = some (2, .iload 4, 0, 0, 0) := rfl
set_option maxRecDepth 100000 in
theorem t2_139 : sm_at 2 139 = some (2, .bipush 100, 0, 0, 0) := rfl
set_option maxRecDepth 100000 in
theorem t2_141 : sm_at 2 141 = some (3, .if_icmp .ge 23, 0, 0, 0) := rfl
set_option maxRecDepth 100000 in
theorem t2_144 : sm_at 2 144 = some (1, .aload_n 0, 0, 0, 0) := rfl
set_option maxRecDepth 100000 in
theorem t2_145 : sm_at 2 145 = some (3, .getfield 9, 0, 0, 0) := rfl
set_option maxRecDepth 100000 in
theorem t2_148 : sm_at 2 148 = some (2, .iload 9, 0, 0, 0) := rfl
set_option maxRecDepth 100000 in
theorem t2_150 : sm_at 2 150 = some (1, .iload_n 3, 0, 0, 0) := rfl
set_option maxRecDepth 100000 in
theorem t2_151 : sm_at 2 151 = some (1, .iastore, 0, 0, 0) := rfl
set_option maxRecDepth 100000 in
theorem t2_152 : sm_at 2 152 = some (1, .aload_n 0, 0, 0, 0) := rfl
set_option maxRecDepth 100000 in
theorem t2_153 : sm_at 2 153 = some (3, .getfield 18, 0, 2, 0) := rfl
set_option maxRecDepth 100000 in
theorem t2_156 : sm_at 2 156 = some (2, .iload 4, 0, 0, 0) := rfl
set_option maxRecDepth 100000 in
theorem t2_158 : sm_at 2 158 = some (2, .iload 9, 0, 0, 0) := rfl
set_option maxRecDepth 100000 in
theorem t2_160 : sm_at 2 160 = some (1, .iastore, 0, 0, 0) := rfl
set_option maxRecDepth 100000 in
theorem t2_161 : sm_at 2 161 = some (3, .iinc 4 1, 0, 0, 0) := rfl
set_option maxRecDepth 100000 in
theorem t2_164 : sm_at 2 164 = some (3, .iinc 8 1, 0, 0, 0) := rfl
set_option maxRecDepth 100000 in
theorem t2_167 : sm_at 2 167 = some (3, .goto (-106), 0, 0, 0) := rfl
set_option maxRecDepth 100000 in
theorem t2_170 : sm_at 2 170 = some (3, .iinc 5 1, 0, 0, 0) := rfl
set_option maxRecDepth 100000 in
theorem t2_173 : sm_at 2 173 = some (3, .goto (-153), 0, 0, 0) := rfl
set_option maxRecDepth 100000 in
theorem t2_176 : sm_at 2 176 = some (1, .aload_n 0, 0, 0, 0) := rfl
set_option maxRecDepth 100000 in
theorem t2_177 : sm_at 2 177 = some (3, .getfield 15, 0, 1, 0) := rfl
set_option maxRecDepth 100000 in
theorem t2_180 : sm_at 2 180 = some (1, .iload_n 3, 0, 0, 0) := rfl
set_option maxRecDepth 100000 in
theorem t2_181 : sm_at 2 181 = some (2, .iload 4, 0, 0, 0) := rfl
set_option maxRecDepth 100000 in
theorem t2_183 : sm_at 2 183 = some (1, .iastore, 0, 0, 0) := rfl
set_option maxRecDepth 100000 in
theorem t2_184 : sm_at 2 184 = some (1, .return_, 0, 0, 0) := rfl
set_option maxRecDepth 10000 in
theorem b2_0 {d : Nat} {r0 : Nat} {l1 : Option sm_V} {l2 : Option sm_V} {x3 : Int} {l4 : Option sm_V} {l5 : Option sm_V} {l6 : Option sm_V} {l7 : Option sm_V} {l8 : Option sm_V} {l9 : Option sm_V} {l10 : Option sm_V} {Z : Nat → Nat → Int} {Rf : Nat → Nat → Option Nat} {K : Nat → Nat × Nat} {n z : Nat} {Q : Option sm_V → sm_S → Prop} : sm_wp d 2 0 [some (.inr (some r0)), l1, l2, some (.inl x3), l4, l5, l6, l7, l8, l9, l10] [] (Z, Rf, K, n, z) Q = ((K r0).1 = 0 ∧ (Rf r0 0).isSome = true ∧ sm_wt (K (((Rf r0 0).getD 0))) (wr x3) ∧ (K r0).1 = 0 ∧ (Rf r0 2).isSome = true ∧ sm_wt (K (((Rf r0 2).getD 0))) ((0 : Int)) ∧ sm_wp d 2 20 [some (.inr (some r0)), l1, l2, some (.inl x3), some (.inl 1), some (.inl 0), l6, l7, l8, l9, l10] [] (sm_u (sm_u Z (((Rf r0 0).getD 0)) ((wr x3).toNat) x3) (((Rf r0 2).getD 0)) 0 x3, Rf, K, n, z) Q) := (w_aload_n t2_0 rfl rfl).trans ((w_getR t2_1 rfl (by decide)).trans (congrArg (And _) (congrArg (And _) ((w_iload_n t2_4 rfl rfl).trans ((w_iload_n t2_5 rfl rfl).trans ((w_iast t2_6 rfl rfl).trans (congrArg (And _) ((w_aload_n t2_7 rfl rfl).trans ((w_getR t2_8 rfl (by decide)).trans (congrArg (And _) (congrArg (And _) ((w_iconst t2_11 rfl).trans ((w_iload_n t2_12 rfl rfl).trans ((w_iast t2_13 rfl wl_0).trans (congrArg (And _) ((w_iconst t2_14 rfl).trans ((w_istore t2_15 rfl (Nat.le_of_ble_eq_true rfl) rfl).trans ((w_iconst t2_17 rfl).trans (w_istore t2_18 rfl (Nat.le_of_ble_eq_true rfl) rfl)))))))))))))))))))
set_option maxRecDepth 10000 in
theorem b2_20 {d : Nat} {l0 : Option sm_V} {l1 : Option sm_V} {l2 : Option sm_V} {l3 : Option sm_V} {x4 : Int} {x5 : Int} {l6 : Option sm_V} {l7 : Option sm_V} {l8 : Option sm_V} {l9 : Option sm_V} {l10 : Option sm_V} {Z : Nat → Nat → Int} {Rf : Nat → Nat → Option Nat} {K : Nat → Nat × Nat} {n z : Nat} {Q : Option sm_V → sm_S → Prop} : sm_wp d 2 20 [l0, l1, l2, l3, some (.inl x4), some (.inl x5), l6, l7, l8, l9, l10] [] (Z, Rf, K, n, z) Q = (if wr x4 ≤ wr x5 then sm_wp d 2 176 [l0, l1, l2, l3, some (.inl x4), some (.inl x5), l6, l7, l8, l9, l10] [] (Z, Rf, K, n, z) Q else sm_wp d 2 27 [l0, l1, l2, l3, some (.inl x4), some (.inl x5), l6, l7, l8, l9, l10] [] (Z, Rf, K, n, z) Q) := (w_iload t2_20 rfl rfl).trans ((w_iload t2_22 rfl rfl).trans (w_icge t2_24 rfl rfl rfl rfl))
set_option maxRecDepth 10000 in
theorem b2_27 {d : Nat} {l0 : Option sm_V} {l1 : Option sm_V} {l2 : Option sm_V} {l3 : Option sm_V} {l4 : Option sm_V} {x5 : Int} {l6 : Option sm_V} {l7 : Option sm_V} {l8 : Option sm_V} {l9 : Option sm_V} {l10 : Option sm_V} {Z : Nat → Nat → Int} {Rf : Nat → Nat → Option Nat} {K : Nat → Nat × Nat} {n z : Nat} {Q : Option sm_V → sm_S → Prop} : sm_wp d 2 27 [l0, l1, l2, l3, l4, some (.inl x5), l6, l7, l8, l9, l10] [] (Z, Rf, K, n, z) Q = (if (100 : Int) ≤ wr x5 then sm_wp d 2 176 [l0, l1, l2, l3, l4, some (.inl x5), l6, l7, l8, l9, l10] [] (Z, Rf, K, n, z) Q else sm_wp d 2 34 [l0, l1, l2, l3, l4, some (.inl x5), l6, l7, l8, l9, l10] [] (Z, Rf, K, n, z) Q) := (w_iload t2_27 rfl rfl).trans ((w_bipush t2_29 rfl).trans (w_icge t2_31 rfl wl_100 rfl rfl))
set_option maxRecDepth 10000 in
theorem b2_34 {d : Nat} {r0 : Nat} {l1 : Option sm_V} {l2 : Option sm_V} {l3 : Option sm_V} {l4 : Option sm_V} {x5 : Int} {l6 : Option sm_V} {l7 : Option sm_V} {l8 : Option sm_V} {l9 : Option sm_V} {l10 : Option sm_V} {Z : Nat → Nat → Int} {Rf : Nat → Nat → Option Nat} {K : Nat → Nat × Nat} {n z : Nat} {Q : Option sm_V → sm_S → Prop} : sm_wp d 2 34 [some (.inr (some r0)), l1, l2, l3, l4, some (.inl x5), l6, l7, l8, l9, l10] [] (Z, Rf, K, n, z) Q = ((K r0).1 = 0 ∧ (Rf r0 2).isSome = true ∧ sm_rd (K (((Rf r0 2).getD 0))) (wr x5) ∧ ¬ (10 : Int) = 0 ∧ (K r0).1 = 0 ∧ (Rf r0 2).isSome = true ∧ sm_rd (K (((Rf r0 2).getD 0))) (wr x5) ∧ ¬ (10 : Int) = 0 ∧ sm_wp d 2 61 [some (.inr (some r0)), l1, l2, l3, l4, some (.inl x5), some (.inl (sm_rem (Z (((Rf r0 2).getD 0)) ((wr x5).toNat)) 10)), some (.inl (sm_div (Z (((Rf r0 2).getD 0)) ((wr x5).toNat)) 10)), some (.inl 0), l9, l10] [] (Z, Rf, K, n, z) Q) := (w_aload_n t2_34 rfl rfl).trans ((w_getR t2_35 rfl (by decide)).trans (congrArg (And _) (congrArg (And _) ((w_iload t2_38 rfl rfl).trans ((w_iald t2_40 rfl rfl).trans (congrArg (And _) ((w_bipush t2_41 rfl).trans ((w_irem t2_43 rfl wl_10).trans (congrArg (And _) ((w_istore t2_44 rfl (Nat.le_of_ble_eq_true rfl) rfl).trans ((w_aload_n t2_46 rfl rfl).trans ((w_getR t2_47 rfl (by decide)).trans (congrArg (And _) (congrArg (And _) ((w_iload t2_50 rfl rfl).trans ((w_iald t2_52 rfl rfl).trans (congrArg (And _) ((w_bipush t2_53 rfl).trans ((w_idiv t2_55 rfl wl_10).trans (congrArg (And _) ((w_istore t2_56 rfl (Nat.le_of_ble_eq_true rfl) rfl).trans ((w_iconst t2_58 rfl).trans (w_istore t2_59 rfl (Nat.le_of_ble_eq_true rfl) rfl)))))))))))))))))))))))
set_option maxRecDepth 10000 in
theorem b2_61 {d : Nat} {l0 : Option sm_V} {l1 : Option sm_V} {l2 : Option sm_V} {l3 : Option sm_V} {l4 : Option sm_V} {l5 : Option sm_V} {l6 : Option sm_V} {l7 : Option sm_V} {x8 : Int} {l9 : Option sm_V} {l10 : Option sm_V} {Z : Nat → Nat → Int} {Rf : Nat → Nat → Option Nat} {K : Nat → Nat × Nat} {n z : Nat} {Q : Option sm_V → sm_S → Prop} : sm_wp d 2 61 [l0, l1, l2, l3, l4, l5, l6, l7, some (.inl x8), l9, l10] [] (Z, Rf, K, n, z) Q = (if (4 : Int) ≤ wr x8 then sm_wp d 2 170 [l0, l1, l2, l3, l4, l5, l6, l7, some (.inl x8), l9, l10] [] (Z, Rf, K, n, z) Q else sm_wp d 2 67 [l0, l1, l2, l3, l4, l5, l6, l7, some (.inl x8), l9, l10] [] (Z, Rf, K, n, z) Q) := (w_iload t2_61 rfl rfl).trans ((w_iconst t2_63 rfl).trans (w_icge t2_64 rfl wl_4 rfl rfl))
set_option maxRecDepth 10000 in
theorem b2_67 {d : Nat} {l0 : Option sm_V} {r1 : Nat} {l2 : Option sm_V} {l3 : Option sm_V} {l4 : Option sm_V} {l5 : Option sm_V} {x6 : Int} {x7 : Int} {x8 : Int} {l9 : Option sm_V} {l10 : Option sm_V} {Z : Nat → Nat → Int} {Rf : Nat → Nat → Option Nat} {K : Nat → Nat × Nat} {n z : Nat} {Q : Option sm_V → sm_S → Prop} : sm_wp (d + 1) 2 67 [l0, some (.inr (some r1)), l2, l3, l4, l5, some (.inl x6), some (.inl x7), some (.inl x8), l9, l10] [] (Z, Rf, K, n, z) Q = (sm_rd (K 1000000) (wr x8) ∧ sm_rd (K 1000001) (wr x8) ∧ (K r1).1 = 1 ∧ sm_call d 9 [.inr (some r1), .inl (x6 + (Z 1000000 ((wr x8).toNat))), .inl (x7 + (Z 1000001 ((wr x8).toNat)))] (Z, Rf, K, n, z) (sm_cont (d + 1) 2 89 [l0, some (.inr (some r1)), l2, l3, l4, l5, some (.inl x6), some (.inl x7), some (.inl x8), l9, l10] [] Q)) := (w_aload_n t2_67 rfl rfl).trans ((w_iload t2_68 rfl rfl).trans ((w_gs1 t2_70 rfl).trans ((w_iload t2_73 rfl rfl).trans ((w_iald t2_75 rfl rfl).trans (congrArg (And _) ((w_iadd t2_76 rfl).trans ((w_iload t2_77 rfl rfl).trans ((w_gs1 t2_79 rfl).trans ((w_iload t2_82 rfl rfl).trans ((w_iald t2_84 rfl rfl).trans (congrArg (And _) ((w_iadd t2_85 rfl).trans (w_callV t2_86 rfl rfl rfl rfl (Nat.le_of_ble_eq_true rfl) (Nat.le_of_ble_eq_true rfl) rfl (by decide))))))))))))))
set_option maxRecDepth 10000 in
theorem b2_89 {d : Nat} {l0 : Option sm_V} {r1 : Nat} {l2 : Option sm_V} {l3 : Option sm_V} {l4 : Option sm_V} {l5 : Option sm_V} {x6 : Int} {x7 : Int} {x8 : Int} {l9 : Option sm_V} {l10 : Option sm_V} {s0 : Int} {Z : Nat → Nat → Int} {Rf : Nat → Nat → Option Nat} {K : Nat → Nat × Nat} {n z : Nat} {Q : Option sm_V → sm_S → Prop} : sm_wp (d + 1) 2 89 [l0, some (.inr (some r1)), l2, l3, l4, l5, some (.inl x6), some (.inl x7), some (.inl x8), l9, l10] [.inl s0] (Z, Rf, K, n, z) Q = ((K r1).1 = 1 ∧ sm_call d 12 [.inr (some r1), .inl x6, .inl x7, .inl x8] (Z, Rf, K, n, z) (sm_cont (d + 1) 2 101 [l0, some (.inr (some r1)), l2, l3, l4, l5, some (.inl x6), some (.inl x7), some (.inl x8), some (.inl s0), l10] [] Q)) := (w_istore t2_89 rfl (Nat.le_of_ble_eq_true rfl) rfl).trans ((w_aload_n t2_91 rfl rfl).trans ((w_iload t2_92 rfl rfl).trans ((w_iload t2_94 rfl rfl).trans ((w_iload t2_96 rfl rfl).trans (w_callV t2_98 rfl rfl rfl rfl (Nat.le_of_ble_eq_true rfl) (Nat.le_of_ble_eq_true rfl) rfl (by decide))))))
set_option maxRecDepth 10000 in
theorem b2_101 {d : Nat} {l0 : Option sm_V} {l1 : Option sm_V} {l2 : Option sm_V} {l3 : Option sm_V} {l4 : Option sm_V} {l5 : Option sm_V} {l6 : Option sm_V} {l7 : Option sm_V} {l8 : Option sm_V} {x9 : Int} {l10 : Option sm_V} {s0 : Int} {Z : Nat → Nat → Int} {Rf : Nat → Nat → Option Nat} {K : Nat → Nat × Nat} {n z : Nat} {Q : Option sm_V → sm_S → Prop} : sm_wp d 2 101 [l0, l1, l2, l3, l4, l5, l6, l7, l8, some (.inl x9), l10] [.inl s0] (Z, Rf, K, n, z) Q = (if wr x9 = (-1 : Int) then sm_wp d 2 164 [l0, l1, l2, l3, l4, l5, l6, l7, l8, some (.inl x9), some (.inl s0)] [] (Z, Rf, K, n, z) Q else sm_wp d 2 109 [l0, l1, l2, l3, l4, l5, l6, l7, l8, some (.inl x9), some (.inl s0)] [] (Z, Rf, K, n, z) Q) := (w_istore t2_101 rfl (Nat.le_of_ble_eq_true rfl) rfl).trans ((w_iload t2_103 rfl rfl).trans ((w_iconst t2_105 rfl).trans (w_iceq t2_106 rfl wl_m1 rfl rfl)))
set_option maxRecDepth 10000 in
theorem b2_109 {d : Nat} {l0 : Option sm_V} {l1 : Option sm_V} {l2 : Option sm_V} {l3 : Option sm_V} {l4 : Option sm_V} {l5 : Option sm_V} {l6 : Option sm_V} {l7 : Option sm_V} {l8 : Option sm_V} {l9 : Option sm_V} {x10 : Int} {Z : Nat → Nat → Int} {Rf : Nat → Nat → Option Nat} {K : Nat → Nat × Nat} {n z : Nat} {Q : Option sm_V → sm_S → Prop} : sm_wp d 2 109 [l0, l1, l2, l3, l4, l5, l6, l7, l8, l9, some (.inl x10)] [] (Z, Rf, K, n, z) Q = (if wr x10 = (-1 : Int) then sm_wp d 2 164 [l0, l1, l2, l3, l4, l5, l6, l7, l8, l9, some (.inl x10)] [] (Z, Rf, K, n, z) Q else sm_wp d 2 115 [l0, l1, l2, l3, l4, l5, l6, l7, l8, l9, some (.inl x10)] [] (Z, Rf, K, n, z) Q) := (w_iload t2_109 rfl rfl).trans ((w_iconst t2_111 rfl).trans (w_iceq t2_112 rfl wl_m1 rfl rfl))
set_option maxRecDepth 10000 in
theorem b2_115 {d : Nat} {r0 : Nat} {l1 : Option sm_V} {l2 : Option sm_V} {l3 : Option sm_V} {l4 : Option sm_V} {l5 : Option sm_V} {l6 : Option sm_V} {l7 : Option sm_V} {l8 : Option sm_V} {x9 : Int} {l10 : Option sm_V} {Z : Nat → Nat → Int} {Rf : Nat → Nat → Option Nat} {K : Nat → Nat × Nat} {n z : Nat} {Q : Option sm_V → sm_S → Prop} : sm_wp d 2 115 [some (.inr (some r0)), l1, l2, l3, l4, l5, l6, l7, l8, some (.inl x9), l10] [] (Z, Rf, K, n, z) Q = ((K r0).1 = 0 ∧ (Rf r0 0).isSome = true ∧ sm_rd (K (((Rf r0 0).getD 0))) (wr x9) ∧ (if wr (Z (((Rf r0 0).getD 0)) ((wr x9).toNat)) = (-1 : Int) then sm_wp d 2 126 [some (.inr (some r0)), l1, l2, l3, l4, l5, l6, l7, l8, some (.inl x9), l10] [] (Z, Rf, K, n, z) Q else sm_wp d 2 164 [some (.inr (some r0)), l1, l2, l3, l4, l5, l6, l7, l8, some (.inl x9), l10] [] (Z, Rf, K, n, z) Q)) := (w_aload_n t2_115 rfl rfl).trans ((w_getR t2_116 rfl (by decide)).trans (congrArg (And _) (congrArg (And _) ((w_iload t2_119 rfl rfl).trans ((w_iald t2_121 rfl rfl).trans (congrArg (And _) ((w_iconst t2_122 rfl).trans (w_icne t2_123 rfl wl_m1 rfl rfl))))))))
set_option maxRecDepth 10000 in
theorem b2_126 {d : Nat} {l0 : Option sm_V} {l1 : Option sm_V} {r2 : Nat} {l3 : Option sm_V} {l4 : Option sm_V} {l5 : Option sm_V} {l6 : Option sm_V} {l7 : Option sm_V} {l8 : Option sm_V} {l9 : Option sm_V} {x10 : Int} {Z : Nat → Nat → Int} {Rf : Nat → Nat → Option Nat} {K : Nat → Nat × Nat} {n z : Nat} {Q : Option sm_V → sm_S → Prop} : sm_wp d 2 126 [l0, l1, some (.inr (some r2)), l3, l4, l5, l6, l7, l8, l9, some (.inl x10)] [] (Z, Rf, K, n, z) Q = ((K r2).1 = 9 ∧ (Rf r2 0).isSome = true ∧ sm_rd (K (((Rf r2 0).getD 0))) (wr x10) ∧ (if wr (Z (((Rf r2 0).getD 0)) ((wr x10).toNat)) = (-1 : Int) then sm_wp d 2 137 [l0, l1, some (.inr (some r2)), l3, l4, l5, l6, l7, l8, l9, some (.inl x10)] [] (Z, Rf, K, n, z) Q else sm_wp d 2 164 [l0, l1, some (.inr (some r2)), l3, l4, l5, l6, l7, l8, l9, some (.inl x10)] [] (Z, Rf, K, n, z) Q)) := (w_aload_n t2_126 rfl rfl).trans ((w_getR t2_127 rfl (by decide)).trans (congrArg (And _) (congrArg (And _) ((w_iload t2_130 rfl rfl).trans ((w_iald t2_132 rfl rfl).trans (congrArg (And _) ((w_iconst t2_133 rfl).trans (w_icne t2_134 rfl wl_m1 rfl rfl))))))))
set_option maxRecDepth 10000 in
theorem b2_137 {d : Nat} {l0 : Option sm_V} {l1 : Option sm_V} {l2 : Option sm_V} {l3 : Option sm_V} {x4 : Int} {l5 : Option sm_V} {l6 : Option sm_V} {l7 : Option sm_V} {l8 : Option sm_V} {l9 : Option sm_V} {l10 : Option sm_V} {Z : Nat → Nat → Int} {Rf : Nat → Nat → Option Nat} {K : Nat → Nat × Nat} {n z : Nat} {Q : Option sm_V → sm_S → Prop} : sm_wp d 2 137 [l0, l1, l2, l3, some (.inl x4), l5, l6, l7, l8, l9, l10] [] (Z, Rf, K, n, z) Q = (if (100 : Int) ≤ wr x4 then sm_wp d 2 164 [l0, l1, l2, l3, some (.inl x4), l5, l6, l7, l8, l9, l10] [] (Z, Rf, K, n, z) Q else sm_wp d 2 144 [l0, l1, l2, l3, some (.inl x4), l5, l6, l7, l8, l9, l10] [] (Z, Rf, K, n, z) Q) := (w_iload t2_137 rfl rfl).trans ((w_bipush t2_139 rfl).trans (w_icge t2_141 rfl wl_100 rfl rfl))
set_option maxRecDepth 10000 in
theorem b2_144 {d : Nat} {r0 : Nat} {l1 : Option sm_V} {l2 : Option sm_V} {x3 : Int} {x4 : Int} {l5 : Option sm_V} {l6 : Option sm_V} {l7 : Option sm_V} {l8 : Option sm_V} {x9 : Int} {l10 : Option sm_V} {Z : Nat → Nat → Int} {Rf : Nat → Nat → Option Nat} {K : Nat → Nat × Nat} {n z : Nat} {Q : Option sm_V → sm_S → Prop} : sm_wp d 2 144 [some (.inr (some r0)), l1, l2, some (.inl x3), some (.inl x4), l5, l6, l7, l8, some (.inl x9), l10] [] (Z, Rf, K, n, z) Q = ((K r0).1 = 0 ∧ (Rf r0 0).isSome = true ∧ sm_wt (K (((Rf r0 0).getD 0))) (wr x9) ∧ (K r0).1 = 0 ∧ (Rf r0 2).isSome = true ∧ sm_wt (K (((Rf r0 2).getD 0))) (wr x4) ∧ sm_wp d 2 164 [some (.inr (some r0)), l1, l2, some (.inl x3), some (.inl (x4 + 1)), l5, l6, l7, l8, some (.inl x9), l10] [] (sm_u (sm_u Z (((Rf r0 0).getD 0)) ((wr x9).toNat) x3) (((Rf r0 2).getD 0)) ((wr x4).toNat) x9, Rf, K, n, z) Q) := (w_aload_n t2_144 rfl rfl).trans ((w_getR t2_145 rfl (by decide)).trans (congrArg (And _) (congrArg (And _) ((w_iload t2_148 rfl rfl).trans ((w_iload_n t2_150 rfl rfl).trans ((w_iast t2_151 rfl rfl).trans (congrArg (And _) ((w_aload_n t2_152 rfl rfl).trans ((w_getR t2_153 rfl (by decide)).trans (congrArg (And _) (congrArg (And _) ((w_iload t2_156 rfl rfl).trans ((w_iload t2_158 rfl rfl).trans ((w_iast t2_160 rfl rfl).trans (congrArg (And _) (w_iinc t2_161 rfl rfl (Nat.le_of_ble_eq_true rfl) rfl))))))))))))))))
set_option maxRecDepth 10000 in
theorem b2_164 {d : Nat} {l0 : Option sm_V} {l1 : Option sm_V} {l2 : Option sm_V} {l3 : Option sm_V} {l4 : Option sm_V} {l5 : Option sm_V} {l6 : Option sm_V} {l7 : Option sm_V} {x8 : Int} {l9 : Option sm_V} {l10 : Option sm_V} {Z : Nat → Nat → Int} {Rf : Nat → Nat → Option Nat} {K : Nat → Nat × Nat} {n z : Nat} {Q : Option sm_V → sm_S → Prop} : sm_wp d 2 164 [l0, l1, l2, l3, l4, l5, l6, l7, some (.inl x8), l9, l10] [] (Z, Rf, K, n, z) Q = (sm_wp d 2 61 [l0, l1, l2, l3, l4, l5, l6, l7, some (.inl (x8 + 1)), l9, l10] [] (Z, Rf, K, n, z) Q) := (w_iinc t2_164 rfl rfl (Nat.le_of_ble_eq_true rfl) rfl).trans (w_goto t2_167 rfl)
set_option maxRecDepth 10000 in
theorem b2_170 {d : Nat} {l0 : Option sm_V} {l1 : Option sm_V} {l2 : Option sm_V} {l3 : Option sm_V} {l4 : Option sm_V} {x5 : Int} {l6 : Option sm_V} {l7 : Option sm_V} {l8 : Option sm_V} {l9 : Option sm_V} {l10 : Option sm_V} {Z : Nat → Nat → Int} {Rf : Nat → Nat → Option Nat} {K : Nat → Nat × Nat} {n z : Nat} {Q : Option sm_V → sm_S → Prop} : sm_wp d 2 170 [l0, l1, l2, l3, l4, some (.inl x5), l6, l7, l8, l9, l10] [] (Z, Rf, K, n, z) Q = (sm_wp d 2 20 [l0, l1, l2, l3, l4, some (.inl (x5 + 1)), l6, l7, l8, l9, l10] [] (Z, Rf, K, n, z) Q) := (w_iinc t2_170 rfl rfl (Nat.le_of_ble_eq_true rfl) rfl).trans (w_goto t2_173 rfl)
set_option maxRecDepth 10000 in
theorem b2_176 {d : Nat} {r0 : Nat} {l1 : Option sm_V} {l2 : Option sm_V} {x3 : Int} {x4 : Int} {l5 : Option sm_V} {l6 : Option sm_V} {l7 : Option sm_V} {l8 : Option sm_V} {l9 : Option sm_V} {l10 : Option sm_V} {Z : Nat → Nat → Int} {Rf : Nat → Nat → Option Nat} {K : Nat → Nat × Nat} {n z : Nat} {Q : Option sm_V → sm_S → Prop} : sm_wp d 2 176 [some (.inr (some r0)), l1, l2, some (.inl x3), some (.inl x4), l5, l6, l7, l8, l9, l10] [] (Z, Rf, K, n, z) Q = ((K r0).1 = 0 ∧ (Rf r0 1).isSome = true ∧ sm_wt (K (((Rf r0 1).getD 0))) (wr x3) ∧ Q none (sm_u Z (((Rf r0 1).getD 0)) ((wr x3).toNat) x4, Rf, K, n, z)) := (w_aload_n t2_176 rfl rfl).trans ((w_getR t2_177 rfl (by decide)).trans (congrArg (And _) (congrArg (And _) ((w_iload_n t2_180 rfl rfl).trans ((w_iload t2_181 rfl rfl).trans ((w_iast t2_183 rfl rfl).trans (congrArg (And _) (w_vret t2_184))))))))
theorem t3_0 : sm_at 3 0 = some (1, .iload_n 1, 0, 0, 0) := rfl
theorem t3_1 : sm_at 3 1 = some (3, .ifCond .lt 38, 0, 0, 0) := rfl
theorem t3_4 : sm_at 3 4 = some (1, .iload_n 1, 0, 0, 0) := rfl
theorem t3_5 : sm_at 3 5 = some (2, .bipush 100, 0, 0, 0) := rfl
theorem t3_7 : sm_at 3 7 = some (3, .if_icmp .ge 32, 0, 0, 0) := rfl
theorem t3_10 : sm_at 3 10 = some (1, .iload_n 2, 0, 0, 0) := rfl
theorem t3_11 : sm_at 3 11 = some (3, .ifCond .lt 28, 0, 0, 0) := rfl
theorem t3_14 : sm_at 3 14 = some (1, .iload_n 2, 0, 0, 0) := rfl
theorem t3_15 : sm_at 3 15 = some (2, .bipush 100, 0, 0, 0) := rfl
theorem t3_17 : sm_at 3 17 = some (3, .if_icmp .ge 22, 0, 0, 0) := rfl
theorem t3_20 : sm_at 3 20 = some (1, .aload_n 0, 0, 0, 0) := rfl
theorem t3_21 : sm_at 3 21 = some (3, .getfield 9, 0, 0, 0) := rfl
theorem t3_24 : sm_at 3 24 = some (1, .iload_n 1, 0, 0, 0) := rfl
theorem t3_25 : sm_at 3 25 = some (1, .iaload, 0, 0, 0) := rfl
theorem t3_26 : sm_at 3 26 = some (1, .aload_n 0, 0, 0, 0) := rfl
theorem t3_27 : sm_at 3 27 = some (3, .getfield 9, 0, 0, 0) := rfl
theorem t3_30 : sm_at 3 30 = some (1, .iload_n 2, 0, 0, 0) := rfl
theorem t3_31 : sm_at 3 31 = some (1, .iaload, 0, 0, 0) := rfl
theorem t3_32 : sm_at 3 32 = some (3, .if_icmp .ne 7, 0, 0, 0) := rfl
theorem t3_35 : sm_at 3 35 = some (1, .iconst 1, 0, 0, 0) := rfl
theorem t3_36 : sm_at 3 36 = some (3, .goto 4, 0, 0, 0) := rfl
theorem t3_39 : sm_at 3 39 = some (1, .iconst 0, 0, 0, 0) := rfl
theorem t3_40 : sm_at 3 40 = some (1, .ireturn, 1, 0, 0) := rfl
set_option maxRecDepth 10000 in
theorem b3_0 {d : Nat} {l0 : Option sm_V} {x1 : Int} {l2 : Option sm_V} {Z : Nat → Nat → Int} {Rf : Nat → Nat → Option Nat} {K : Nat → Nat × Nat} {n z : Nat} {Q : Option sm_V → sm_S → Prop} : sm_wp d 3 0 [l0, some (.inl x1), l2] [] (Z, Rf, K, n, z) Q = (if wr x1 < 0 then sm_wp d 3 39 [l0, some (.inl x1), l2] [] (Z, Rf, K, n, z) Q else sm_wp d 3 4 [l0, some (.inl x1), l2] [] (Z, Rf, K, n, z) Q) := (w_iload_n t3_0 rfl rfl).trans (w_iflt t3_1 rfl rfl rfl)
set_option maxRecDepth 10000 in
theorem b3_4 {d : Nat} {l0 : Option sm_V} {x1 : Int} {l2 : Option sm_V} {Z : Nat → Nat → Int} {Rf : Nat → Nat → Option Nat} {K : Nat → Nat × Nat} {n z : Nat} {Q : Option sm_V → sm_S → Prop} : sm_wp d 3 4 [l0, some (.inl x1), l2] [] (Z, Rf, K, n, z) Q = (if (100 : Int) ≤ wr x1 then sm_wp d 3 39 [l0, some (.inl x1), l2] [] (Z, Rf, K, n, z) Q else sm_wp d 3 10 [l0, some (.inl x1), l2] [] (Z, Rf, K, n, z) Q) := (w_iload_n t3_4 rfl rfl).trans ((w_bipush t3_5 rfl).trans (w_icge t3_7 rfl wl_100 rfl rfl))
set_option maxRecDepth 10000 in
theorem b3_10 {d : Nat} {l0 : Option sm_V} {l1 : Option sm_V} {x2 : Int} {Z : Nat → Nat → Int} {Rf : Nat → Nat → Option Nat} {K : Nat → Nat × Nat} {n z : Nat} {Q : Option sm_V → sm_S → Prop} : sm_wp d 3 10 [l0, l1, some (.inl x2)] [] (Z, Rf, K, n, z) Q = (if wr x2 < 0 then sm_wp d 3 39 [l0, l1, some (.inl x2)] [] (Z, Rf, K, n, z) Q else sm_wp d 3 14 [l0, l1, some (.inl x2)] [] (Z, Rf, K, n, z) Q) := (w_iload_n t3_10 rfl rfl).trans (w_iflt t3_11 rfl rfl rfl)
set_option maxRecDepth 10000 in
theorem b3_14 {d : Nat} {l0 : Option sm_V} {l1 : Option sm_V} {x2 : Int} {Z : Nat → Nat → Int} {Rf : Nat → Nat → Option Nat} {K : Nat → Nat × Nat} {n z : Nat} {Q : Option sm_V → sm_S → Prop} : sm_wp d 3 14 [l0, l1, some (.inl x2)] [] (Z, Rf, K, n, z) Q = (if (100 : Int) ≤ wr x2 then sm_wp d 3 39 [l0, l1, some (.inl x2)] [] (Z, Rf, K, n, z) Q else sm_wp d 3 20 [l0, l1, some (.inl x2)] [] (Z, Rf, K, n, z) Q) := (w_iload_n t3_14 rfl rfl).trans ((w_bipush t3_15 rfl).trans (w_icge t3_17 rfl wl_100 rfl rfl))
set_option maxRecDepth 10000 in
theorem b3_20 {d : Nat} {r0 : Nat} {x1 : Int} {x2 : Int} {Z : Nat → Nat → Int} {Rf : Nat → Nat → Option Nat} {K : Nat → Nat × Nat} {n z : Nat} {Q : Option sm_V → sm_S → Prop} : sm_wp d 3 20 [some (.inr (some r0)), some (.inl x1), some (.inl x2)] [] (Z, Rf, K, n, z) Q = ((K r0).1 = 0 ∧ (Rf r0 0).isSome = true ∧ sm_rd (K (((Rf r0 0).getD 0))) (wr x1) ∧ (K r0).1 = 0 ∧ (Rf r0 0).isSome = true ∧ sm_rd (K (((Rf r0 0).getD 0))) (wr x2) ∧ (if wr (Z (((Rf r0 0).getD 0)) ((wr x1).toNat)) = wr (Z (((Rf r0 0).getD 0)) ((wr x2).toNat)) then sm_wp d 3 35 [some (.inr (some r0)), some (.inl x1), some (.inl x2)] [] (Z, Rf, K, n, z) Q else sm_wp d 3 39 [some (.inr (some r0)), some (.inl x1), some (.inl x2)] [] (Z, Rf, K, n, z) Q)) := (w_aload_n t3_20 rfl rfl).trans ((w_getR t3_21 rfl (by decide)).trans (congrArg (And _) (congrArg (And _) ((w_iload_n t3_24 rfl rfl).trans ((w_iald t3_25 rfl rfl).trans (congrArg (And _) ((w_aload_n t3_26 rfl rfl).trans ((w_getR t3_27 rfl (by decide)).trans (congrArg (And _) (congrArg (And _) ((w_iload_n t3_30 rfl rfl).trans ((w_iald t3_31 rfl rfl).trans (congrArg (And _) (w_icne t3_32 rfl rfl rfl rfl))))))))))))))
set_option maxRecDepth 10000 in
theorem b3_35 {d : Nat} {l0 : Option sm_V} {l1 : Option sm_V} {l2 : Option sm_V} {Z : Nat → Nat → Int} {Rf : Nat → Nat → Option Nat} {K : Nat → Nat × Nat} {n z : Nat} {Q : Option sm_V → sm_S → Prop} : sm_wp d 3 35 [l0, l1, l2] [] (Z, Rf, K, n, z) Q = (sm_wp d 3 40 [l0, l1, l2] [.inl 1] (Z, Rf, K, n, z) Q) := (w_iconst t3_35 rfl).trans (w_goto t3_36 rfl)
set_option maxRecDepth 10000 in
theorem b3_39 {d : Nat} {l0 : Option sm_V} {l1 : Option sm_V} {l2 : Option sm_V} {Z : Nat → Nat → Int} {Rf : Nat → Nat → Option Nat} {K : Nat → Nat × Nat} {n z : Nat} {Q : Option sm_V → sm_S → Prop} : sm_wp d 3 39 [l0, l1, l2] [] (Z, Rf, K, n, z) Q = (sm_wp d 3 40 [l0, l1, l2] [.inl 0] (Z, Rf, K, n, z) Q) := w_iconst t3_39 rfl
set_option maxRecDepth 10000 in
theorem b3_40 {d : Nat} {l0 : Option sm_V} {l1 : Option sm_V} {l2 : Option sm_V} {s0 : Int} {Z : Nat → Nat → Int} {Rf : Nat → Nat → Option Nat} {K : Nat → Nat × Nat} {n z : Nat} {Q : Option sm_V → sm_S → Prop} : sm_wp d 3 40 [l0, l1, l2] [.inl s0] (Z, Rf, K, n, z) Q = ((wr s0 = 0 ∨ wr s0 = 1) ∧ Q (some (.inl s0)) (Z, Rf, K, n, z)) := w_zret t3_40 rfl
theorem t4_0 : sm_at 4 0 = some (1, .iload_n 1, 0, 0, 0) := rfl
theorem t4_1 : sm_at 4 1 = some (3, .ifCond .lt 33, 0, 0, 0) := rfl
theorem t4_4 : sm_at 4 4 = some (1, .iload_n 1, 0, 0, 0) := rfl
theorem t4_5 : sm_at 4 5 = some (2, .bipush 100, 0, 0, 0) := rfl
theorem t4_7 : sm_at 4 7 = some (3, .if_icmp .ge 27, 0, 0, 0) := rfl
theorem t4_10 : sm_at 4 10 = some (1, .aload_n 0, 0, 0, 0) := rfl
theorem t4_11 : sm_at 4 11 = some (3, .getfield 9, 0, 0, 0) := rfl
theorem t4_14 : sm_at 4 14 = some (1, .iload_n 1, 0, 0, 0) := rfl
theorem t4_15 : sm_at 4 15 = some (1, .iaload, 0, 0, 0) := rfl
theorem t4_16 : sm_at 4 16 = some (1, .iconst (-1), 0, 0, 0) := rfl
theorem t4_17 : sm_at 4 17 = some (3, .if_icmp .eq 17, 0, 0, 0) := rfl
theorem t4_20 : sm_at 4 20 = some (1, .aload_n 0, 0, 0, 0) := rfl
theorem t4_21 : sm_at 4 21 = some (3, .getfield 15, 0, 1, 0) := rfl
theorem t4_24 : sm_at 4 24 = some (1, .aload_n 0, 0, 0, 0) := rfl
theorem t4_25 : sm_at 4 25 = some (3, .getfield 9, 0, 0, 0) := rfl
theorem t4_28 : sm_at 4 28 = some (1, .iload_n 1, 0, 0, 0) := rfl
theorem t4_29 : sm_at 4 29 = some (1, .iaload, 0, 0, 0) := rfl
theorem t4_30 : sm_at 4 30 = some (1, .iaload, 0, 0, 0) := rfl
theorem t4_31 : sm_at 4 31 = some (3, .goto 4, 0, 0, 0) := rfl
theorem t4_34 : sm_at 4 34 = some (1, .iconst 0, 0, 0, 0) := rfl
theorem t4_35 : sm_at 4 35 = some (1, .ireturn, 0, 0, 0) := rfl
set_option maxRecDepth 10000 in
theorem b4_0 {d : Nat} {l0 : Option sm_V} {x1 : Int} {Z : Nat → Nat → Int} {Rf : Nat → Nat → Option Nat} {K : Nat → Nat × Nat} {n z : Nat} {Q : Option sm_V → sm_S → Prop} : sm_wp d 4 0 [l0, some (.inl x1)] [] (Z, Rf, K, n, z) Q = (if wr x1 < 0 then sm_wp d 4 34 [l0, some (.inl x1)] [] (Z, Rf, K, n, z) Q else sm_wp d 4 4 [l0, some (.inl x1)] [] (Z, Rf, K, n, z) Q) := (w_iload_n t4_0 rfl rfl).trans (w_iflt t4_1 rfl rfl rfl)
set_option maxRecDepth 10000 in
theorem b4_4 {d : Nat} {l0 : Option sm_V} {x1 : Int} {Z : Nat → Nat → Int} {Rf : Nat → Nat → Option Nat} {K : Nat → Nat × Nat} {n z : Nat} {Q : Option sm_V → sm_S → Prop} : sm_wp d 4 4 [l0, some (.inl x1)] [] (Z, Rf, K, n, z) Q = (if (100 : Int) ≤ wr x1 then sm_wp d 4 34 [l0, some (.inl x1)] [] (Z, Rf, K, n, z) Q else sm_wp d 4 10 [l0, some (.inl x1)] [] (Z, Rf, K, n, z) Q) := (w_iload_n t4_4 rfl rfl).trans ((w_bipush t4_5 rfl).trans (w_icge t4_7 rfl wl_100 rfl rfl))
set_option maxRecDepth 10000 in
theorem b4_10 {d : Nat} {r0 : Nat} {x1 : Int} {Z : Nat → Nat → Int} {Rf : Nat → Nat → Option Nat} {K : Nat → Nat × Nat} {n z : Nat} {Q : Option sm_V → sm_S → Prop} : sm_wp d 4 10 [some (.inr (some r0)), some (.inl x1)] [] (Z, Rf, K, n, z) Q = ((K r0).1 = 0 ∧ (Rf r0 0).isSome = true ∧ sm_rd (K (((Rf r0 0).getD 0))) (wr x1) ∧ (if wr (Z (((Rf r0 0).getD 0)) ((wr x1).toNat)) = (-1 : Int) then sm_wp d 4 34 [some (.inr (some r0)), some (.inl x1)] [] (Z, Rf, K, n, z) Q else sm_wp d 4 20 [some (.inr (some r0)), some (.inl x1)] [] (Z, Rf, K, n, z) Q)) := (w_aload_n t4_10 rfl rfl).trans ((w_getR t4_11 rfl (by decide)).trans (congrArg (And _) (congrArg (And _) ((w_iload_n t4_14 rfl rfl).trans ((w_iald t4_15 rfl rfl).trans (congrArg (And _) ((w_iconst t4_16 rfl).trans (w_iceq t4_17 rfl wl_m1 rfl rfl))))))))
set_option maxRecDepth 10000 in
theorem b4_20 {d : Nat} {r0 : Nat} {x1 : Int} {Z : Nat → Nat → Int} {Rf : Nat → Nat → Option Nat} {K : Nat → Nat × Nat} {n z : Nat} {Q : Option sm_V → sm_S → Prop} : sm_wp d 4 20 [some (.inr (some r0)), some (.inl x1)] [] (Z, Rf, K, n, z) Q = ((K r0).1 = 0 ∧ (Rf r0 1).isSome = true ∧ (K r0).1 = 0 ∧ (Rf r0 0).isSome = true ∧ sm_rd (K (((Rf r0 0).getD 0))) (wr x1) ∧ sm_rd (K (((Rf r0 1).getD 0))) (wr (Z (((Rf r0 0).getD 0)) ((wr x1).toNat))) ∧ sm_wp d 4 35 [some (.inr (some r0)), some (.inl x1)] [.inl (Z (((Rf r0 1).getD 0)) ((wr (Z (((Rf r0 0).getD 0)) ((wr x1).toNat))).toNat))] (Z, Rf, K, n, z) Q) := (w_aload_n t4_20 rfl rfl).trans ((w_getR t4_21 rfl (by decide)).trans (congrArg (And _) (congrArg (And _) ((w_aload_n t4_24 rfl rfl).trans ((w_getR t4_25 rfl (by decide)).trans (congrArg (And _) (congrArg (And _) ((w_iload_n t4_28 rfl rfl).trans ((w_iald t4_29 rfl rfl).trans (congrArg (And _) ((w_iald t4_30 rfl rfl).trans (congrArg (And _) (w_goto t4_31 rfl)))))))))))))
set_option maxRecDepth 10000 in
theorem b4_34 {d : Nat} {l0 : Option sm_V} {l1 : Option sm_V} {Z : Nat → Nat → Int} {Rf : Nat → Nat → Option Nat} {K : Nat → Nat × Nat} {n z : Nat} {Q : Option sm_V → sm_S → Prop} : sm_wp d 4 34 [l0, l1] [] (Z, Rf, K, n, z) Q = (sm_wp d 4 35 [l0, l1] [.inl 0] (Z, Rf, K, n, z) Q) := w_iconst t4_34 rfl
set_option maxRecDepth 10000 in
theorem b4_35 {d : Nat} {l0 : Option sm_V} {l1 : Option sm_V} {s0 : Int} {Z : Nat → Nat → Int} {Rf : Nat → Nat → Option Nat} {K : Nat → Nat × Nat} {n z : Nat} {Q : Option sm_V → sm_S → Prop} : sm_wp d 4 35 [l0, l1] [.inl s0] (Z, Rf, K, n, z) Q = (Q (some (.inl s0)) (Z, Rf, K, n, z)) := w_iret t4_35
theorem t5_0 : sm_at 5 0 = some (1, .aload_n 0, 0, 0, 0) := rfl
theorem t5_1 : sm_at 5 1 = some (3, .invokespecial 3, 1001, 1, 0) := rfl
theorem t5_4 : sm_at 5 4 = some (1, .aload_n 0, 0, 0, 0) := rfl
theorem t5_5 : sm_at 5 5 = some (2, .bipush 100, 0, 0, 0) := rfl
theorem t5_7 : sm_at 5 7 = some (2, .newarray .int, 0, 0, 0) := rfl
theorem t5_9 : sm_at 5 9 = some (3, .putfield 9, 1, 4, 0) := rfl
theorem t5_12 : sm_at 5 12 = some (1, .aload_n 0, 0, 0, 0) := rfl
theorem t5_13 : sm_at 5 13 = some (2, .bipush 100, 0, 0, 0) := rfl
theorem t5_15 : sm_at 5 15 = some (2, .newarray .int, 0, 0, 0) := rfl
theorem t5_17 : sm_at 5 17 = some (3, .putfield 15, 1, 5, 0) := rfl
theorem t5_20 : sm_at 5 20 = some (1, .aload_n 0, 0, 0, 0) := rfl
theorem t5_21 : sm_at 5 21 = some (2, .bipush 100, 0, 0, 0) := rfl
theorem t5_23 : sm_at 5 23 = some (2, .newarray .int, 0, 0, 0) := rfl
theorem t5_25 : sm_at 5 25 = some (3, .putfield 18, 1, 6, 0) := rfl
theorem t5_28 : sm_at 5 28 = some (1, .aload_n 0, 0, 0, 0) := rfl
theorem t5_29 : sm_at 5 29 = some (2, .bipush 100, 0, 0, 0) := rfl
theorem t5_31 : sm_at 5 31 = some (2, .newarray .int, 0, 0, 0) := rfl
theorem t5_33 : sm_at 5 33 = some (3, .putfield 21, 1, 7, 0) := rfl
theorem t5_36 : sm_at 5 36 = some (1, .aload_n 0, 0, 0, 0) := rfl
theorem t5_37 : sm_at 5 37 = some (2, .bipush 100, 0, 0, 0) := rfl
theorem t5_39 : sm_at 5 39 = some (2, .newarray .int, 0, 0, 0) := rfl
theorem t5_41 : sm_at 5 41 = some (3, .putfield 24, 1, 8, 0) := rfl
theorem t5_44 : sm_at 5 44 = some (1, .aload_n 0, 0, 0, 0) := rfl
theorem t5_45 : sm_at 5 45 = some (2, .bipush 100, 0, 0, 0) := rfl
theorem t5_47 : sm_at 5 47 = some (2, .newarray .int, 0, 0, 0) := rfl
theorem t5_49 : sm_at 5 49 = some (3, .putfield 27, 1, 9, 0) := rfl
theorem t5_52 : sm_at 5 52 = some (1, .aload_n 0, 0, 0, 0) := rfl
theorem t5_53 : sm_at 5 53 = some (2, .bipush 100, 0, 0, 0) := rfl
theorem t5_55 : sm_at 5 55 = some (2, .newarray .int, 0, 0, 0) := rfl
theorem t5_57 : sm_at 5 57 = some (3, .putfield 30, 1, 10, 0) := rfl
theorem t5_60 : sm_at 5 60 = some (1, .aload_n 0, 0, 0, 0) := rfl
theorem t5_61 : sm_at 5 61 = some (2, .bipush 121, 0, 0, 0) := rfl
theorem t5_63 : sm_at 5 63 = some (2, .newarray .int, 0, 0, 0) := rfl
theorem t5_65 : sm_at 5 65 = some (3, .putfield 33, 1, 11, 0) := rfl
theorem t5_68 : sm_at 5 68 = some (1, .aload_n 0, 0, 0, 0) := rfl
theorem t5_69 : sm_at 5 69 = some (3, .new 36, 5, 0, 0) := rfl
theorem t5_72 : sm_at 5 72 = some (1, .dup, 0, 0, 0) := rfl
theorem t5_73 : sm_at 5 73 = some (2, .bipush 6, 0, 0, 0) := rfl
theorem t5_75 : sm_at 5 75 = some (3, .invokespecial 38, 51, 2, 0) := rfl
theorem t5_78 : sm_at 5 78 = some (3, .putfield 41, 1, 12, 0) := rfl
theorem t5_81 : sm_at 5 81 = some (1, .aload_n 0, 0, 0, 0) := rfl
theorem t5_82 : sm_at 5 82 = some (3, .new 36, 5, 0, 0) := rfl
theorem t5_85 : sm_at 5 85 = some (1, .dup, 0, 0, 0) := rfl
theorem t5_86 : sm_at 5 86 = some (2, .bipush 8, 0, 0, 0) := rfl
theorem t5_88 : sm_at 5 88 = some (3, .invokespecial 38, 51, 2, 0) := rfl
theorem t5_91 : sm_at 5 91 = some (3, .putfield 45, 1, 13, 0) := rfl
theorem t5_94 : sm_at 5 94 = some (1, .aload_n 0, 0, 0, 0) := rfl
theorem t5_95 : sm_at 5 95 = some (3, .new 36, 5, 0, 0) := rfl
theorem t5_98 : sm_at 5 98 = some (1, .dup, 0, 0, 0) := rfl
theorem t5_99 : sm_at 5 99 = some (2, .bipush 6, 0, 0, 0) := rfl
theorem t5_101 : sm_at 5 101 = some (3, .invokespecial 38, 51, 2, 0) := rfl
theorem t5_104 : sm_at 5 104 = some (3, .putfield 48, 1, 14, 0) := rfl
theorem t5_107 : sm_at 5 107 = some (1, .aload_n 0, 0, 0, 0) := rfl
theorem t5_108 : sm_at 5 108 = some (3, .new 36, 5, 0, 0) := rfl
theorem t5_111 : sm_at 5 111 = some (1, .dup, 0, 0, 0) := rfl
theorem t5_112 : sm_at 5 112 = some (2, .bipush 20, 0, 0, 0) := rfl
theorem t5_114 : sm_at 5 114 = some (3, .invokespecial 38, 51, 2, 0) := rfl
theorem t5_117 : sm_at 5 117 = some (3, .putfield 51, 1, 15, 0) := rfl
theorem t5_120 : sm_at 5 120 = some (1, .aload_n 0, 0, 0, 0) := rfl
theorem t5_121 : sm_at 5 121 = some (1, .iconst 4, 0, 0, 0) := rfl
set_option maxRecDepth 100000 in
theorem t5_122 : sm_at 5 122 = some (3, .anewarray 54, 0, 0, 0) := rfl
set_option maxRecDepth 100000 in
theorem t5_125 : sm_at 5 125 = some (3, .putfield 56, 1, 16, 0) := rfl
set_option maxRecDepth 100000 in
theorem t5_128 : sm_at 5 128 = some (1, .aload_n 0, 0, 0, 0) := rfl
set_option maxRecDepth 100000 in
theorem t5_129 : sm_at 5 129 = some (3, .new 54, 2, 0, 0) := rfl
set_option maxRecDepth 100000 in
theorem t5_132 : sm_at 5 132 = some (1, .dup, 0, 0, 0) := rfl
set_option maxRecDepth 100000 in
theorem t5_133 : sm_at 5 133 = some (1, .iconst 0, 0, 0, 0) := rfl
set_option maxRecDepth 100000 in
theorem t5_134 : sm_at 5 134 = some (1, .iconst 0, 0, 0, 0) := rfl
set_option maxRecDepth 100000 in
theorem t5_135 : sm_at 5 135 = some (2, .newarray .int, 0, 0, 0) := rfl
set_option maxRecDepth 100000 in
theorem t5_137 : sm_at 5 137 = some (3, .invokespecial 60, 21, 3, 0) := rfl
set_option maxRecDepth 100000 in
theorem t5_140 : sm_at 5 140 = some (3, .putfield 63, 1, 17, 0) := rfl
set_option maxRecDepth 100000 in
theorem t5_143 : sm_at 5 143 = some (1, .aload_n 0, 0, 0, 0) := rfl
set_option maxRecDepth 100000 in
theorem t5_144 : sm_at 5 144 = some (3, .new 67, 9, 0, 0) := rfl
set_option maxRecDepth 100000 in
theorem t5_147 : sm_at 5 147 = some (1, .dup, 0, 0, 0) := rfl
set_option maxRecDepth 100000 in
theorem t5_148 : sm_at 5 148 = some (2, .bipush 99, 0, 0, 0) := rfl
set_option maxRecDepth 100000 in
theorem t5_150 : sm_at 5 150 = some (3, .invokespecial 69, 75, 2, 0) := rfl
set_option maxRecDepth 100000 in
theorem t5_153 : sm_at 5 153 = some (3, .putfield 70, 1, 18, 0) := rfl
set_option maxRecDepth 100000 in
theorem t5_156 : sm_at 5 156 = some (1, .return_, 0, 0, 0) := rfl
set_option maxRecDepth 10000 in
theorem b5_0 {d : Nat} {r0 : Nat} {Z : Nat → Nat → Int} {Rf : Nat → Nat → Option Nat} {K : Nat → Nat × Nat} {n z : Nat} {Q : Option sm_V → sm_S → Prop} : sm_wp (d + 1) 5 0 [some (.inr (some r0))] [] (Z, Rf, K, n, z) Q = ((n < 1000000 ∧ 0 ≤ (100 : Int) ∧ (100 : Int) ≤ 65536) ∧ ((sm_k K n (100, 100)) r0).1 = 1 ∧ (n + 1 < 1000000 ∧ 0 ≤ (100 : Int) ∧ (100 : Int) ≤ 65536) ∧ ((sm_k (sm_k K n (100, 100)) (n + 1) (100, 100)) r0).1 = 1 ∧ (n + 1 + 1 < 1000000 ∧ 0 ≤ (100 : Int) ∧ (100 : Int) ≤ 65536) ∧ ((sm_k (sm_k (sm_k K n (100, 100)) (n + 1) (100, 100)) (n + 1 + 1) (100, 100)) r0).1 = 1 ∧ (n + 1 + 1 + 1 < 1000000 ∧ 0 ≤ (100 : Int) ∧ (100 : Int) ≤ 65536) ∧ ((sm_k (sm_k (sm_k (sm_k K n (100, 100)) (n + 1) (100, 100)) (n + 1 + 1) (100, 100)) (n + 1 + 1 + 1) (100, 100)) r0).1 = 1 ∧ (n + 1 + 1 + 1 + 1 < 1000000 ∧ 0 ≤ (100 : Int) ∧ (100 : Int) ≤ 65536) ∧ ((sm_k (sm_k (sm_k (sm_k (sm_k K n (100, 100)) (n + 1) (100, 100)) (n + 1 + 1) (100, 100)) (n + 1 + 1 + 1) (100, 100)) (n + 1 + 1 + 1 + 1) (100, 100)) r0).1 = 1 ∧ (n + 1 + 1 + 1 + 1 + 1 < 1000000 ∧ 0 ≤ (100 : Int) ∧ (100 : Int) ≤ 65536) ∧ ((sm_k (sm_k (sm_k (sm_k (sm_k (sm_k K n (100, 100)) (n + 1) (100, 100)) (n + 1 + 1) (100, 100)) (n + 1 + 1 + 1) (100, 100)) (n + 1 + 1 + 1 + 1) (100, 100)) (n + 1 + 1 + 1 + 1 + 1) (100, 100)) r0).1 = 1 ∧ (n + 1 + 1 + 1 + 1 + 1 + 1 < 1000000 ∧ 0 ≤ (100 : Int) ∧ (100 : Int) ≤ 65536) ∧ ((sm_k (sm_k (sm_k (sm_k (sm_k (sm_k (sm_k K n (100, 100)) (n + 1) (100, 100)) (n + 1 + 1) (100, 100)) (n + 1 + 1 + 1) (100, 100)) (n + 1 + 1 + 1 + 1) (100, 100)) (n + 1 + 1 + 1 + 1 + 1) (100, 100)) (n + 1 + 1 + 1 + 1 + 1 + 1) (100, 100)) r0).1 = 1 ∧ (n + 1 + 1 + 1 + 1 + 1 + 1 + 1 < 1000000 ∧ 0 ≤ (121 : Int) ∧ (121 : Int) ≤ 65536) ∧ ((sm_k (sm_k (sm_k (sm_k (sm_k (sm_k (sm_k (sm_k K n (100, 100)) (n + 1) (100, 100)) (n + 1 + 1) (100, 100)) (n + 1 + 1 + 1) (100, 100)) (n + 1 + 1 + 1 + 1) (100, 100)) (n + 1 + 1 + 1 + 1 + 1) (100, 100)) (n + 1 + 1 + 1 + 1 + 1 + 1) (100, 100)) (n + 1 + 1 + 1 + 1 + 1 + 1 + 1) (100, 121)) r0).1 = 1 ∧ n + 1 + 1 + 1 + 1 + 1 + 1 + 1 + 1 < 1000000 ∧ ((sm_k (sm_k (sm_k (sm_k (sm_k (sm_k (sm_k (sm_k (sm_k K n (100, 100)) (n + 1) (100, 100)) (n + 1 + 1) (100, 100)) (n + 1 + 1 + 1) (100, 100)) (n + 1 + 1 + 1 + 1) (100, 100)) (n + 1 + 1 + 1 + 1 + 1) (100, 100)) (n + 1 + 1 + 1 + 1 + 1 + 1) (100, 100)) (n + 1 + 1 + 1 + 1 + 1 + 1 + 1) (100, 121)) (n + 1 + 1 + 1 + 1 + 1 + 1 + 1 + 1) (5, 3)) ((n + 1 + 1 + 1 + 1 + 1 + 1 + 1 + 1))).1 = 5 ∧ sm_call d 51 [.inr (some (n + 1 + 1 + 1 + 1 + 1 + 1 + 1 + 1)), .inl 6] (sm_r (sm_r (sm_r (sm_r (sm_r (sm_r (sm_r (sm_r (sm_r Z n (fun _ => 0)) (n + 1) (fun _ => 0)) (n + 1 + 1) (fun _ => 0)) (n + 1 + 1 + 1) (fun _ => 0)) (n + 1 + 1 + 1 + 1) (fun _ => 0)) (n + 1 + 1 + 1 + 1 + 1) (fun _ => 0)) (n + 1 + 1 + 1 + 1 + 1 + 1) (fun _ => 0)) (n + 1 + 1 + 1 + 1 + 1 + 1 + 1) (fun _ => 0)) (n + 1 + 1 + 1 + 1 + 1 + 1 + 1 + 1) (fun _ => 0), sm_r (sm_u (sm_r (sm_u (sm_r (sm_u (sm_r (sm_u (sm_r (sm_u (sm_r (sm_u (sm_r (sm_u (sm_r (sm_u (sm_r Rf n (fun _ => none)) r0 4 (some n)) (n + 1) (fun _ => none)) r0 5 (some (n + 1))) (n + 1 + 1) (fun _ => none)) r0 6 (some (n + 1 + 1))) (n + 1 + 1 + 1) (fun _ => none)) r0 7 (some (n + 1 + 1 + 1))) (n + 1 + 1 + 1 + 1) (fun _ => none)) r0 8 (some (n + 1 + 1 + 1 + 1))) (n + 1 + 1 + 1 + 1 + 1) (fun _ => none)) r0 9 (some (n + 1 + 1 + 1 + 1 + 1))) (n + 1 + 1 + 1 + 1 + 1 + 1) (fun _ => none)) r0 10 (some (n + 1 + 1 + 1 + 1 + 1 + 1))) (n + 1 + 1 + 1 + 1 + 1 + 1 + 1) (fun _ => none)) r0 11 (some (n + 1 + 1 + 1 + 1 + 1 + 1 + 1))) (n + 1 + 1 + 1 + 1 + 1 + 1 + 1 + 1) (fun _ => none), sm_k (sm_k (sm_k (sm_k (sm_k (sm_k (sm_k (sm_k (sm_k K n (100, 100)) (n + 1) (100, 100)) (n + 1 + 1) (100, 100)) (n + 1 + 1 + 1) (100, 100)) (n + 1 + 1 + 1 + 1) (100, 100)) (n + 1 + 1 + 1 + 1 + 1) (100, 100)) (n + 1 + 1 + 1 + 1 + 1 + 1) (100, 100)) (n + 1 + 1 + 1 + 1 + 1 + 1 + 1) (100, 121)) (n + 1 + 1 + 1 + 1 + 1 + 1 + 1 + 1) (5, 3), n + 1 + 1 + 1 + 1 + 1 + 1 + 1 + 1 + 1, z + 100 + 100 + 100 + 100 + 100 + 100 + 100 + 121 + 3) (sm_cont (d + 1) 5 78 [some (.inr (some r0))] [.inr (some (n + 1 + 1 + 1 + 1 + 1 + 1 + 1 + 1)), .inr (some r0)] Q)) := (w_aload_n t5_0 rfl rfl).trans ((w_oinit t5_1 rfl (Nat.le_of_ble_eq_true rfl)).trans ((w_aload_n t5_4 rfl rfl).trans ((w_bipush t5_5 rfl).trans ((w_newa t5_7 rfl wl_100).trans (congrArg (And _) ((w_putR t5_9 rfl (by decide)).trans (congrArg (And _) ((w_aload_n t5_12 rfl rfl).trans ((w_bipush t5_13 rfl).trans ((w_newa t5_15 rfl wl_100).trans (congrArg (And _) ((w_putR t5_17 rfl (by decide)).trans (congrArg (And _) ((w_aload_n t5_20 rfl rfl).trans ((w_bipush t5_21 rfl).trans ((w_newa t5_23 rfl wl_100).trans (congrArg (And _) ((w_putR t5_25 rfl (by decide)).trans (congrArg (And _) ((w_aload_n t5_28 rfl rfl).trans ((w_bipush t5_29 rfl).trans ((w_newa t5_31 rfl wl_100).trans (congrArg (And _) ((w_putR t5_33 rfl (by decide)).trans (congrArg (And _) ((w_aload_n t5_36 rfl rfl).trans ((w_bipush t5_37 rfl).trans ((w_newa t5_39 rfl wl_100).trans (congrArg (And _) ((w_putR t5_41 rfl (by decide)).trans (congrArg (And _) ((w_aload_n t5_44 rfl rfl).trans ((w_bipush t5_45 rfl).trans ((w_newa t5_47 rfl wl_100).trans (congrArg (And _) ((w_putR t5_49 rfl (by decide)).trans (congrArg (And _) ((w_aload_n t5_52 rfl rfl).trans ((w_bipush t5_53 rfl).trans ((w_newa t5_55 rfl wl_100).trans (congrArg (And _) ((w_putR t5_57 rfl (by decide)).trans (congrArg (And _) ((w_aload_n t5_60 rfl rfl).trans ((w_bipush t5_61 rfl).trans ((w_newa t5_63 rfl wl_121).trans (congrArg (And _) ((w_putR t5_65 rfl (by decide)).trans (congrArg (And _) ((w_aload_n t5_68 rfl rfl).trans ((w_new t5_69 rfl (by decide) rfl).trans (congrArg (And _) ((w_dup t5_72 rfl).trans ((w_bipush t5_73 rfl).trans (w_callV t5_75 rfl rfl rfl rfl (Nat.le_of_ble_eq_true rfl) (Nat.le_of_ble_eq_true rfl) rfl (by decide))))))))))))))))))))))))))))))))))))))))))))))))))))))))
set_option maxRecDepth 10000 in
theorem b5_78 {d : Nat} {q0 : Option Nat} {rs0 : Nat} {qs1 : Option Nat} {Z : Nat → Nat → Int} {Rf : Nat → Nat → Option Nat} {K : Nat → Nat × Nat} {n z : Nat} {Q : Option sm_V → sm_S → Prop} : sm_wp (d + 1) 5 78 [some (.inr q0)] [.inr qs1, .inr (some rs0)] (Z, Rf, K, n, z) Q = ((K rs0).1 = 1 ∧ n < 1000000 ∧ ((sm_k K n (5, 3)) n).1 = 5 ∧ sm_call d 51 [.inr (some n), .inl 8] (sm_r Z n (fun _ => 0), sm_r (sm_u Rf rs0 12 qs1) n (fun _ => none), sm_k K n (5, 3), n + 1, z + 3) (sm_cont (d + 1) 5 91 [some (.inr q0)] [.inr (some n), .inr q0] Q)) := (w_putR t5_78 rfl (by decide)).trans (congrArg (And _) ((w_aload_n t5_81 rfl rfl).trans ((w_new t5_82 rfl (by decide) rfl).trans (congrArg (And _) ((w_dup t5_85 rfl).trans ((w_bipush t5_86 rfl).trans (w_callV t5_88 rfl rfl rfl rfl (Nat.le_of_ble_eq_true rfl) (Nat.le_of_ble_eq_true rfl) rfl (by decide))))))))
set_option maxRecDepth 10000 in
theorem b5_91 {d : Nat} {q0 : Option Nat} {rs0 : Nat} {qs1 : Option Nat} {Z : Nat → Nat → Int} {Rf : Nat → Nat → Option Nat} {K : Nat → Nat × Nat} {n z : Nat} {Q : Option sm_V → sm_S → Prop} : sm_wp (d + 1) 5 91 [some (.inr q0)] [.inr qs1, .inr (some rs0)] (Z, Rf, K, n, z) Q = ((K rs0).1 = 1 ∧ n < 1000000 ∧ ((sm_k K n (5, 3)) n).1 = 5 ∧ sm_call d 51 [.inr (some n), .inl 6] (sm_r Z n (fun _ => 0), sm_r (sm_u Rf rs0 13 qs1) n (fun _ => none), sm_k K n (5, 3), n + 1, z + 3) (sm_cont (d + 1) 5 104 [some (.inr q0)] [.inr (some n), .inr q0] Q)) := (w_putR t5_91 rfl (by decide)).trans (congrArg (And _) ((w_aload_n t5_94 rfl rfl).trans ((w_new t5_95 rfl (by decide) rfl).trans (congrArg (And _) ((w_dup t5_98 rfl).trans ((w_bipush t5_99 rfl).trans (w_callV t5_101 rfl rfl rfl rfl (Nat.le_of_ble_eq_true rfl) (Nat.le_of_ble_eq_true rfl) rfl (by decide))))))))
set_option maxRecDepth 10000 in
theorem b5_104 {d : Nat} {q0 : Option Nat} {rs0 : Nat} {qs1 : Option Nat} {Z : Nat → Nat → Int} {Rf : Nat → Nat → Option Nat} {K : Nat → Nat × Nat} {n z : Nat} {Q : Option sm_V → sm_S → Prop} : sm_wp (d + 1) 5 104 [some (.inr q0)] [.inr qs1, .inr (some rs0)] (Z, Rf, K, n, z) Q = ((K rs0).1 = 1 ∧ n < 1000000 ∧ ((sm_k K n (5, 3)) n).1 = 5 ∧ sm_call d 51 [.inr (some n), .inl 20] (sm_r Z n (fun _ => 0), sm_r (sm_u Rf rs0 14 qs1) n (fun _ => none), sm_k K n (5, 3), n + 1, z + 3) (sm_cont (d + 1) 5 117 [some (.inr q0)] [.inr (some n), .inr q0] Q)) := (w_putR t5_104 rfl (by decide)).trans (congrArg (And _) ((w_aload_n t5_107 rfl rfl).trans ((w_new t5_108 rfl (by decide) rfl).trans (congrArg (And _) ((w_dup t5_111 rfl).trans ((w_bipush t5_112 rfl).trans (w_callV t5_114 rfl rfl rfl rfl (Nat.le_of_ble_eq_true rfl) (Nat.le_of_ble_eq_true rfl) rfl (by decide))))))))
set_option maxRecDepth 10000 in
theorem b5_117 {d : Nat} {r0 : Nat} {rs0 : Nat} {qs1 : Option Nat} {Z : Nat → Nat → Int} {Rf : Nat → Nat → Option Nat} {K : Nat → Nat × Nat} {n z : Nat} {Q : Option sm_V → sm_S → Prop} : sm_wp (d + 1) 5 117 [some (.inr (some r0))] [.inr qs1, .inr (some rs0)] (Z, Rf, K, n, z) Q = ((K rs0).1 = 1 ∧ (n < 1000000 ∧ 0 ≤ (4 : Int) ∧ (4 : Int) ≤ 65536) ∧ ((sm_k K n (101, 4)) r0).1 = 1 ∧ n + 1 < 1000000 ∧ (n + 1 + 1 < 1000000 ∧ 0 ≤ (0 : Int) ∧ (0 : Int) ≤ 65536) ∧ ((sm_k (sm_k (sm_k K n (101, 4)) (n + 1) (2, 2)) (n + 1 + 1) (100, 0)) ((n + 1))).1 = 2 ∧ sm_call d 21 [.inr (some (n + 1)), .inl 0, .inr (some (n + 1 + 1))] (sm_r (sm_r (sm_r Z n (fun _ => 0)) (n + 1) (fun _ => 0)) (n + 1 + 1) (fun _ => 0), sm_r (sm_r (sm_u (sm_r (sm_u Rf rs0 15 qs1) n (fun _ => none)) r0 16 (some n)) (n + 1) (fun _ => none)) (n + 1 + 1) (fun _ => none), sm_k (sm_k (sm_k K n (101, 4)) (n + 1) (2, 2)) (n + 1 + 1) (100, 0), n + 1 + 1 + 1, z + 4 + 2 + 0) (sm_cont (d + 1) 5 140 [some (.inr (some r0))] [.inr (some (n + 1)), .inr (some r0)] Q)) := (w_putR t5_117 rfl (by decide)).trans (congrArg (And _) ((w_aload_n t5_120 rfl rfl).trans ((w_iconst t5_121 rfl).trans ((w_anew t5_122 rfl wl_4).trans (congrArg (And _) ((w_putR t5_125 rfl (by decide)).trans (congrArg (And _) ((w_aload_n t5_128 rfl rfl).trans ((w_new t5_129 rfl (by decide) rfl).trans (congrArg (And _) ((w_dup t5_132 rfl).trans ((w_iconst t5_133 rfl).trans ((w_iconst t5_134 rfl).trans ((w_newa t5_135 rfl wl_0).trans (congrArg (And _) (w_callV t5_137 rfl rfl rfl rfl (Nat.le_of_ble_eq_true rfl) (Nat.le_of_ble_eq_true rfl) rfl (by decide)))))))))))))))))
set_option maxRecDepth 10000 in
theorem b5_140 {d : Nat} {q0 : Option Nat} {rs0 : Nat} {qs1 : Option Nat} {Z : Nat → Nat → Int} {Rf : Nat → Nat → Option Nat} {K : Nat → Nat × Nat} {n z : Nat} {Q : Option sm_V → sm_S → Prop} : sm_wp (d + 1) 5 140 [some (.inr q0)] [.inr qs1, .inr (some rs0)] (Z, Rf, K, n, z) Q = ((K rs0).1 = 1 ∧ n < 1000000 ∧ ((sm_k K n (9, 3)) n).1 = 9 ∧ sm_call d 75 [.inr (some n), .inl 99] (sm_r Z n (fun _ => 0), sm_r (sm_u Rf rs0 17 qs1) n (fun _ => none), sm_k K n (9, 3), n + 1, z + 3) (sm_cont (d + 1) 5 153 [some (.inr q0)] [.inr (some n), .inr q0] Q)) := (w_putR t5_140 rfl (by decide)).trans (congrArg (And _) ((w_aload_n t5_143 rfl rfl).trans ((w_new t5_144 rfl (by decide) rfl).trans (congrArg (And _) ((w_dup t5_147 rfl).trans ((w_bipush t5_148 rfl).trans (w_callV t5_150 rfl rfl rfl rfl (Nat.le_of_ble_eq_true rfl) (Nat.le_of_ble_eq_true rfl) rfl (by decide))))))))
set_option maxRecDepth 10000 in
theorem b5_153 {d : Nat} {l0 : Option sm_V} {rs0 : Nat} {qs1 : Option Nat} {Z : Nat → Nat → Int} {Rf : Nat → Nat → Option Nat} {K : Nat → Nat × Nat} {n z : Nat} {Q : Option sm_V → sm_S → Prop} : sm_wp d 5 153 [l0] [.inr qs1, .inr (some rs0)] (Z, Rf, K, n, z) Q = ((K rs0).1 = 1 ∧ Q none (Z, sm_u Rf rs0 18 qs1, K, n, z)) := (w_putR t5_153 rfl (by decide)).trans (congrArg (And _) (w_vret t5_156))
theorem t6_0 : sm_at 6 0 = some (1, .aload_n 0, 0, 0, 0) := rfl
theorem t6_1 : sm_at 6 1 = some (1, .iload_n 1, 0, 0, 0) := rfl
theorem t6_2 : sm_at 6 2 = some (3, .putfield 74, 1, 0, 0) := rfl
theorem t6_5 : sm_at 6 5 = some (1, .aload_n 0, 0, 0, 0) := rfl
theorem t6_6 : sm_at 6 6 = some (1, .iload_n 2, 0, 0, 0) := rfl
theorem t6_7 : sm_at 6 7 = some (3, .putfield 78, 1, 1, 0) := rfl
theorem t6_10 : sm_at 6 10 = some (1, .aload_n 0, 0, 0, 0) := rfl
theorem t6_11 : sm_at 6 11 = some (1, .iconst 0, 0, 0, 0) := rfl
theorem t6_12 : sm_at 6 12 = some (3, .putfield 81, 1, 3, 0) := rfl
theorem t6_15 : sm_at 6 15 = some (1, .aload_n 0, 0, 0, 0) := rfl
theorem t6_16 : sm_at 6 16 = some (3, .getfield 9, 1, 4, 0) := rfl
theorem t6_19 : sm_at 6 19 = some (1, .iconst 0, 0, 0, 0) := rfl
theorem t6_20 : sm_at 6 20 = some (3, .invokestatic 84, 205, 2, 0) := rfl
theorem t6_23 : sm_at 6 23 = some (1, .aload_n 0, 0, 0, 0) := rfl
theorem t6_24 : sm_at 6 24 = some (3, .getfield 15, 1, 5, 0) := rfl
theorem t6_27 : sm_at 6 27 = some (1, .iconst 1, 0, 0, 0) := rfl
theorem t6_28 : sm_at 6 28 = some (3, .invokestatic 84, 205, 2, 0) := rfl
theorem t6_31 : sm_at 6 31 = some (1, .aload_n 0, 0, 0, 0) := rfl
theorem t6_32 : sm_at 6 32 = some (3, .getfield 18, 1, 6, 0) := rfl
theorem t6_35 : sm_at 6 35 = some (1, .iconst 0, 0, 0, 0) := rfl
theorem t6_36 : sm_at 6 36 = some (3, .invokestatic 84, 205, 2, 0) := rfl
theorem t6_39 : sm_at 6 39 = some (1, .aload_n 0, 0, 0, 0) := rfl
theorem t6_40 : sm_at 6 40 = some (3, .getfield 21, 1, 7, 0) := rfl
theorem t6_43 : sm_at 6 43 = some (1, .iconst 0, 0, 0, 0) := rfl
theorem t6_44 : sm_at 6 44 = some (3, .invokestatic 84, 205, 2, 0) := rfl
theorem t6_47 : sm_at 6 47 = some (1, .aload_n 0, 0, 0, 0) := rfl
theorem t6_48 : sm_at 6 48 = some (3, .getfield 24, 1, 8, 0) := rfl
theorem t6_51 : sm_at 6 51 = some (1, .iconst 0, 0, 0, 0) := rfl
theorem t6_52 : sm_at 6 52 = some (3, .invokestatic 84, 205, 2, 0) := rfl
theorem t6_55 : sm_at 6 55 = some (1, .aload_n 0, 0, 0, 0) := rfl
theorem t6_56 : sm_at 6 56 = some (3, .getfield 27, 1, 9, 0) := rfl
theorem t6_59 : sm_at 6 59 = some (1, .iconst 0, 0, 0, 0) := rfl
theorem t6_60 : sm_at 6 60 = some (3, .invokestatic 84, 205, 2, 0) := rfl
theorem t6_63 : sm_at 6 63 = some (1, .aload_n 0, 0, 0, 0) := rfl
theorem t6_64 : sm_at 6 64 = some (3, .getfield 30, 1, 10, 0) := rfl
theorem t6_67 : sm_at 6 67 = some (1, .iconst (-1), 0, 0, 0) := rfl
theorem t6_68 : sm_at 6 68 = some (3, .invokestatic 84, 205, 2, 0) := rfl
theorem t6_71 : sm_at 6 71 = some (1, .aload_n 0, 0, 0, 0) := rfl
theorem t6_72 : sm_at 6 72 = some (3, .getfield 33, 1, 11, 0) := rfl
theorem t6_75 : sm_at 6 75 = some (1, .iconst 0, 0, 0, 0) := rfl
theorem t6_76 : sm_at 6 76 = some (3, .invokestatic 84, 205, 2, 0) := rfl
theorem t6_79 : sm_at 6 79 = some (1, .aload_n 0, 0, 0, 0) := rfl
theorem t6_80 : sm_at 6 80 = some (3, .getfield 41, 1, 12, 0) := rfl
theorem t6_83 : sm_at 6 83 = some (1, .iconst 0, 0, 0, 0) := rfl
theorem t6_84 : sm_at 6 84 = some (3, .putfield 90, 5, 2, 0) := rfl
theorem t6_87 : sm_at 6 87 = some (1, .aload_n 0, 0, 0, 0) := rfl
theorem t6_88 : sm_at 6 88 = some (3, .getfield 45, 1, 13, 0) := rfl
theorem t6_91 : sm_at 6 91 = some (1, .iconst 0, 0, 0, 0) := rfl
theorem t6_92 : sm_at 6 92 = some (3, .putfield 90, 5, 2, 0) := rfl
theorem t6_95 : sm_at 6 95 = some (1, .aload_n 0, 0, 0, 0) := rfl
theorem t6_96 : sm_at 6 96 = some (3, .getfield 48, 1, 14, 0) := rfl
theorem t6_99 : sm_at 6 99 = some (1, .iconst 0, 0, 0, 0) := rfl
theorem t6_100 : sm_at 6 100 = some (3, .putfield 90, 5, 2, 0) := rfl
theorem t6_103 : sm_at 6 103 = some (1, .aload_n 0, 0, 0, 0) := rfl
theorem t6_104 : sm_at 6 104 = some (3, .getfield 51, 1, 15, 0) := rfl
theorem t6_107 : sm_at 6 107 = some (1, .iconst 0, 0, 0, 0) := rfl
theorem t6_108 : sm_at 6 108 = some (3, .putfield 90, 5, 2, 0) := rfl
theorem t6_111 : sm_at 6 111 = some (1, .iconst 0, 0, 0, 0) := rfl
theorem t6_112 : sm_at 6 112 = some (1, .istore_n 3, 0, 0, 0) := rfl
theorem t6_113 : sm_at 6 113 = some (1, .iload_n 3, 0, 0, 0) := rfl
set_option maxRecDepth 100000 in
theorem t6_114 : sm_at 6 114 = some (1, .iconst 4, 0, 0, 0) := rfl
set_option maxRecDepth 100000 in
theorem t6_115 : sm_at 6 115 = some (3, .if_icmp .ge 19, 0, 0, 0) := rfl
set_option maxRecDepth 100000 in
theorem t6_118 : sm_at 6 118 = some (1, .aload_n 0, 0, 0, 0) := rfl
set_option maxRecDepth 100000 in
theorem t6_119 : sm_at 6 119 = some (3, .getfield 56, 1, 16, 0) := rfl
set_option maxRecDepth 100000 in
theorem t6_122 : sm_at 6 122 = some (1, .iload_n 3, 0, 0, 0) := rfl
set_option maxRecDepth 100000 in
theorem t6_123 : sm_at 6 123 = some (1, .aload_n 0, 0, 0, 0) := rfl
set_option maxRecDepth 100000 in
theorem t6_124 : sm_at 6 124 = some (3, .getfield 63, 1, 17, 0) := rfl
set_option maxRecDepth 100000 in
theorem t6_127 : sm_at 6 127 = some (1, .aastore, 0, 0, 0) := rfl
set_option maxRecDepth 100000 in
theorem t6_128 : sm_at 6 128 = some (3, .iinc 3 1, 0, 0, 0) := rfl
set_option maxRecDepth 100000 in
theorem t6_131 : sm_at 6 131 = some (3, .goto (-18), 0, 0, 0) := rfl
set_option maxRecDepth 100000 in
theorem t6_134 : sm_at 6 134 = some (1, .aload_n 0, 0, 0, 0) := rfl
set_option maxRecDepth 100000 in
theorem t6_135 : sm_at 6 135 = some (3, .getfield 70, 1, 18, 0) := rfl
set_option maxRecDepth 100000 in
theorem t6_138 : sm_at 6 138 = some (3, .invokevirtual 93, 76, 1, 0) := rfl
set_option maxRecDepth 100000 in
theorem t6_141 : sm_at 6 141 = some (1, .return_, 0, 0, 0) := rfl
set_option maxRecDepth 10000 in
theorem b6_0 {d : Nat} {r0 : Nat} {x1 : Int} {x2 : Int} {l3 : Option sm_V} {Z : Nat → Nat → Int} {Rf : Nat → Nat → Option Nat} {K : Nat → Nat × Nat} {n z : Nat} {Q : Option sm_V → sm_S → Prop} : sm_wp (d + 1) 6 0 [some (.inr (some r0)), some (.inl x1), some (.inl x2), l3] [] (Z, Rf, K, n, z) Q = ((K r0).1 = 1 ∧ (K r0).1 = 1 ∧ (K r0).1 = 1 ∧ (K r0).1 = 1 ∧ (Rf r0 4).isSome = true ∧ sm_call d 205 [.inr (some ((Rf r0 4).getD 0)), .inl 0] (sm_u (sm_u (sm_u Z r0 0 x1) r0 1 x2) r0 3 0, Rf, K, n, z) (sm_cont (d + 1) 6 23 [some (.inr (some r0)), some (.inl x1), some (.inl x2), l3] [] Q)) := (w_aload_n t6_0 rfl rfl).trans ((w_iload_n t6_1 rfl rfl).trans ((w_putI t6_2 rfl (by decide)).trans (congrArg (And _) ((w_aload_n t6_5 rfl rfl).trans ((w_iload_n t6_6 rfl rfl).trans ((w_putI t6_7 rfl (by decide)).trans (congrArg (And _) ((w_aload_n t6_10 rfl rfl).trans ((w_iconst t6_11 rfl).trans ((w_putI t6_12 rfl (by decide)).trans (congrArg (And _) ((w_aload_n t6_15 rfl rfl).trans ((w_getR t6_16 rfl (by decide)).trans (congrArg (And _) (congrArg (And _) ((w_iconst t6_19 rfl).trans (w_callS t6_20 rfl rfl rfl rfl (Nat.le_of_ble_eq_true rfl) (Nat.le_of_ble_eq_true rfl) rfl)))))))))))))))))
set_option maxRecDepth 10000 in
theorem b6_23 {d : Nat} {r0 : Nat} {l1 : Option sm_V} {l2 : Option sm_V} {l3 : Option sm_V} {Z : Nat → Nat → Int} {Rf : Nat → Nat → Option Nat} {K : Nat → Nat × Nat} {n z : Nat} {Q : Option sm_V → sm_S → Prop} : sm_wp (d + 1) 6 23 [some (.inr (some r0)), l1, l2, l3] [] (Z, Rf, K, n, z) Q = ((K r0).1 = 1 ∧ (Rf r0 5).isSome = true ∧ sm_call d 205 [.inr (some ((Rf r0 5).getD 0)), .inl 1] (Z, Rf, K, n, z) (sm_cont (d + 1) 6 31 [some (.inr (some r0)), l1, l2, l3] [] Q)) := (w_aload_n t6_23 rfl rfl).trans ((w_getR t6_24 rfl (by decide)).trans (congrArg (And _) (congrArg (And _) ((w_iconst t6_27 rfl).trans (w_callS t6_28 rfl rfl rfl rfl (Nat.le_of_ble_eq_true rfl) (Nat.le_of_ble_eq_true rfl) rfl)))))
set_option maxRecDepth 10000 in
theorem b6_31 {d : Nat} {r0 : Nat} {l1 : Option sm_V} {l2 : Option sm_V} {l3 : Option sm_V} {Z : Nat → Nat → Int} {Rf : Nat → Nat → Option Nat} {K : Nat → Nat × Nat} {n z : Nat} {Q : Option sm_V → sm_S → Prop} : sm_wp (d + 1) 6 31 [some (.inr (some r0)), l1, l2, l3] [] (Z, Rf, K, n, z) Q = ((K r0).1 = 1 ∧ (Rf r0 6).isSome = true ∧ sm_call d 205 [.inr (some ((Rf r0 6).getD 0)), .inl 0] (Z, Rf, K, n, z) (sm_cont (d + 1) 6 39 [some (.inr (some r0)), l1, l2, l3] [] Q)) := (w_aload_n t6_31 rfl rfl).trans ((w_getR t6_32 rfl (by decide)).trans (congrArg (And _) (congrArg (And _) ((w_iconst t6_35 rfl).trans (w_callS t6_36 rfl rfl rfl rfl (Nat.le_of_ble_eq_true rfl) (Nat.le_of_ble_eq_true rfl) rfl)))))
set_option maxRecDepth 10000 in
theorem b6_39 {d : Nat} {r0 : Nat} {l1 : Option sm_V} {l2 : Option sm_V} {l3 : Option sm_V} {Z : Nat → Nat → Int} {Rf : Nat → Nat → Option Nat} {K : Nat → Nat × Nat} {n z : Nat} {Q : Option sm_V → sm_S → Prop} : sm_wp (d + 1) 6 39 [some (.inr (some r0)), l1, l2, l3] [] (Z, Rf, K, n, z) Q = ((K r0).1 = 1 ∧ (Rf r0 7).isSome = true ∧ sm_call d 205 [.inr (some ((Rf r0 7).getD 0)), .inl 0] (Z, Rf, K, n, z) (sm_cont (d + 1) 6 47 [some (.inr (some r0)), l1, l2, l3] [] Q)) := (w_aload_n t6_39 rfl rfl).trans ((w_getR t6_40 rfl (by decide)).trans (congrArg (And _) (congrArg (And _) ((w_iconst t6_43 rfl).trans (w_callS t6_44 rfl rfl rfl rfl (Nat.le_of_ble_eq_true rfl) (Nat.le_of_ble_eq_true rfl) rfl)))))
set_option maxRecDepth 10000 in
theorem b6_47 {d : Nat} {r0 : Nat} {l1 : Option sm_V} {l2 : Option sm_V} {l3 : Option sm_V} {Z : Nat → Nat → Int} {Rf : Nat → Nat → Option Nat} {K : Nat → Nat × Nat} {n z : Nat} {Q : Option sm_V → sm_S → Prop} : sm_wp (d + 1) 6 47 [some (.inr (some r0)), l1, l2, l3] [] (Z, Rf, K, n, z) Q = ((K r0).1 = 1 ∧ (Rf r0 8).isSome = true ∧ sm_call d 205 [.inr (some ((Rf r0 8).getD 0)), .inl 0] (Z, Rf, K, n, z) (sm_cont (d + 1) 6 55 [some (.inr (some r0)), l1, l2, l3] [] Q)) := (w_aload_n t6_47 rfl rfl).trans ((w_getR t6_48 rfl (by decide)).trans (congrArg (And _) (congrArg (And _) ((w_iconst t6_51 rfl).trans (w_callS t6_52 rfl rfl rfl rfl (Nat.le_of_ble_eq_true rfl) (Nat.le_of_ble_eq_true rfl) rfl)))))
set_option maxRecDepth 10000 in
theorem b6_55 {d : Nat} {r0 : Nat} {l1 : Option sm_V} {l2 : Option sm_V} {l3 : Option sm_V} {Z : Nat → Nat → Int} {Rf : Nat → Nat → Option Nat} {K : Nat → Nat × Nat} {n z : Nat} {Q : Option sm_V → sm_S → Prop} : sm_wp (d + 1) 6 55 [some (.inr (some r0)), l1, l2, l3] [] (Z, Rf, K, n, z) Q = ((K r0).1 = 1 ∧ (Rf r0 9).isSome = true ∧ sm_call d 205 [.inr (some ((Rf r0 9).getD 0)), .inl 0] (Z, Rf, K, n, z) (sm_cont (d + 1) 6 63 [some (.inr (some r0)), l1, l2, l3] [] Q)) := (w_aload_n t6_55 rfl rfl).trans ((w_getR t6_56 rfl (by decide)).trans (congrArg (And _) (congrArg (And _) ((w_iconst t6_59 rfl).trans (w_callS t6_60 rfl rfl rfl rfl (Nat.le_of_ble_eq_true rfl) (Nat.le_of_ble_eq_true rfl) rfl)))))
set_option maxRecDepth 10000 in
theorem b6_63 {d : Nat} {r0 : Nat} {l1 : Option sm_V} {l2 : Option sm_V} {l3 : Option sm_V} {Z : Nat → Nat → Int} {Rf : Nat → Nat → Option Nat} {K : Nat → Nat × Nat} {n z : Nat} {Q : Option sm_V → sm_S → Prop} : sm_wp (d + 1) 6 63 [some (.inr (some r0)), l1, l2, l3] [] (Z, Rf, K, n, z) Q = ((K r0).1 = 1 ∧ (Rf r0 10).isSome = true ∧ sm_call d 205 [.inr (some ((Rf r0 10).getD 0)), .inl ((-1))] (Z, Rf, K, n, z) (sm_cont (d + 1) 6 71 [some (.inr (some r0)), l1, l2, l3] [] Q)) := (w_aload_n t6_63 rfl rfl).trans ((w_getR t6_64 rfl (by decide)).trans (congrArg (And _) (congrArg (And _) ((w_iconst t6_67 rfl).trans (w_callS t6_68 rfl rfl rfl rfl (Nat.le_of_ble_eq_true rfl) (Nat.le_of_ble_eq_true rfl) rfl)))))
set_option maxRecDepth 10000 in
theorem b6_71 {d : Nat} {r0 : Nat} {l1 : Option sm_V} {l2 : Option sm_V} {l3 : Option sm_V} {Z : Nat → Nat → Int} {Rf : Nat → Nat → Option Nat} {K : Nat → Nat × Nat} {n z : Nat} {Q : Option sm_V → sm_S → Prop} : sm_wp (d + 1) 6 71 [some (.inr (some r0)), l1, l2, l3] [] (Z, Rf, K, n, z) Q = ((K r0).1 = 1 ∧ (Rf r0 11).isSome = true ∧ sm_call d 205 [.inr (some ((Rf r0 11).getD 0)), .inl 0] (Z, Rf, K, n, z) (sm_cont (d + 1) 6 79 [some (.inr (some r0)), l1, l2, l3] [] Q)) := (w_aload_n t6_71 rfl rfl).trans ((w_getR t6_72 rfl (by decide)).trans (congrArg (And _) (congrArg (And _) ((w_iconst t6_75 rfl).trans (w_callS t6_76 rfl rfl rfl rfl (Nat.le_of_ble_eq_true rfl) (Nat.le_of_ble_eq_true rfl) rfl)))))
set_option maxRecDepth 10000 in
theorem b6_79 {d : Nat} {r0 : Nat} {l1 : Option sm_V} {l2 : Option sm_V} {l3 : Option sm_V} {Z : Nat → Nat → Int} {Rf : Nat → Nat → Option Nat} {K : Nat → Nat × Nat} {n z : Nat} {Q : Option sm_V → sm_S → Prop} : sm_wp d 6 79 [some (.inr (some r0)), l1, l2, l3] [] (Z, Rf, K, n, z) Q = ((K r0).1 = 1 ∧ (Rf r0 12).isSome = true ∧ (K (((Rf r0 12).getD 0))).1 = 5 ∧ (K r0).1 = 1 ∧ (Rf r0 13).isSome = true ∧ (K (((Rf r0 13).getD 0))).1 = 5 ∧ (K r0).1 = 1 ∧ (Rf r0 14).isSome = true ∧ (K (((Rf r0 14).getD 0))).1 = 5 ∧ (K r0).1 = 1 ∧ (Rf r0 15).isSome = true ∧ (K (((Rf r0 15).getD 0))).1 = 5 ∧ sm_wp d 6 113 [some (.inr (some r0)), l1, l2, some (.inl 0)] [] (sm_u (sm_u (sm_u (sm_u Z (((Rf r0 12).getD 0)) 2 0) (((Rf r0 13).getD 0)) 2 0) (((Rf r0 14).getD 0)) 2 0) (((Rf r0 15).getD 0)) 2 0, Rf, K, n, z) Q) := (w_aload_n t6_79 rfl rfl).trans ((w_getR t6_80 rfl (by decide)).trans (congrArg (And _) (congrArg (And _) ((w_iconst t6_83 rfl).trans ((w_putI t6_84 rfl (by decide)).trans (congrArg (And _) ((w_aload_n t6_87 rfl rfl).trans ((w_getR t6_88 rfl (by decide)).trans (congrArg (And _) (congrArg (And _) ((w_iconst t6_91 rfl).trans ((w_putI t6_92 rfl (by decide)).trans (congrArg (And _) ((w_aload_n t6_95 rfl rfl).trans ((w_getR t6_96 rfl (by decide)).trans (congrArg (And _) (congrArg (And _) ((w_iconst t6_99 rfl).trans ((w_putI t6_100 rfl (by decide)).trans (congrArg (And _) ((w_aload_n t6_103 rfl rfl).trans ((w_getR t6_104 rfl (by decide)).trans (congrArg (And _) (congrArg (And _) ((w_iconst t6_107 rfl).trans ((w_putI t6_108 rfl (by decide)).trans (congrArg (And _) ((w_iconst t6_111 rfl).trans (w_istore_n t6_112 rfl (Nat.le_of_ble_eq_true rfl) rfl)))))))))))))))))))))))))))))
set_option maxRecDepth 10000 in
theorem b6_113 {d : Nat} {l0 : Option sm_V} {l1 : Option sm_V} {l2 : Option sm_V} {x3 : Int} {Z : Nat → Nat → Int} {Rf : Nat → Nat → Option Nat} {K : Nat → Nat × Nat} {n z : Nat} {Q : Option sm_V → sm_S → Prop} : sm_wp d 6 113 [l0, l1, l2, some (.inl x3)] [] (Z, Rf, K, n, z) Q = (if (4 : Int) ≤ wr x3 then sm_wp d 6 134 [l0, l1, l2, some (.inl x3)] [] (Z, Rf, K, n, z) Q else sm_wp d 6 118 [l0, l1, l2, some (.inl x3)] [] (Z, Rf, K, n, z) Q) := (w_iload_n t6_113 rfl rfl).trans ((w_iconst t6_114 rfl).trans (w_icge t6_115 rfl wl_4 rfl rfl))
set_option maxRecDepth 10000 in
theorem b6_118 {d : Nat} {r0 : Nat} {l1 : Option sm_V} {l2 : Option sm_V} {x3 : Int} {Z : Nat → Nat → Int} {Rf : Nat → Nat → Option Nat} {K : Nat → Nat × Nat} {n z : Nat} {Q : Option sm_V → sm_S → Prop} : sm_wp d 6 118 [some (.inr (some r0)), l1, l2, some (.inl x3)] [] (Z, Rf, K, n, z) Q = ((K r0).1 = 1 ∧ (Rf r0 16).isSome = true ∧ (K r0).1 = 1 ∧ (Rf r0 17).isSome = true ∧ ((K (((Rf r0 16).getD 0))).1 = 101 ∧ (K (((Rf r0 17).getD 0))).1 = 2 ∧ 0 ≤ wr x3 ∧ wr x3 < ((K (((Rf r0 16).getD 0))).2 : Int)) ∧ sm_wp d 6 113 [some (.inr (some r0)), l1, l2, some (.inl (x3 + 1))] [] (Z, sm_u Rf (((Rf r0 16).getD 0)) ((wr x3).toNat) (some (((Rf r0 17).getD 0))), K, n, z) Q) := (w_aload_n t6_118 rfl rfl).trans ((w_getR t6_119 rfl (by decide)).trans (congrArg (And _) (congrArg (And _) ((w_iload_n t6_122 rfl rfl).trans ((w_aload_n t6_123 rfl rfl).trans ((w_getR t6_124 rfl (by decide)).trans (congrArg (And _) (congrArg (And _) ((w_aast t6_127 rfl rfl).trans (congrArg (And _) ((w_iinc t6_128 rfl rfl (Nat.le_of_ble_eq_true rfl) rfl).trans (w_goto t6_131 rfl))))))))))))
set_option maxRecDepth 10000 in
theorem b6_134 {d : Nat} {r0 : Nat} {l1 : Option sm_V} {l2 : Option sm_V} {l3 : Option sm_V} {Z : Nat → Nat → Int} {Rf : Nat → Nat → Option Nat} {K : Nat → Nat × Nat} {n z : Nat} {Q : Option sm_V → sm_S → Prop} : sm_wp (d + 1) 6 134 [some (.inr (some r0)), l1, l2, l3] [] (Z, Rf, K, n, z) Q = ((K r0).1 = 1 ∧ (Rf r0 18).isSome = true ∧ (K (((Rf r0 18).getD 0))).1 = 9 ∧ sm_call d 76 [.inr (some ((Rf r0 18).getD 0))] (Z, Rf, K, n, z) (sm_cont (d + 1) 6 141 [some (.inr (some r0)), l1, l2, l3] [] Q)) := (w_aload_n t6_134 rfl rfl).trans ((w_getR t6_135 rfl (by decide)).trans (congrArg (And _) (congrArg (And _) (w_callV t6_138 rfl rfl rfl rfl (Nat.le_of_ble_eq_true rfl) (Nat.le_of_ble_eq_true rfl) rfl (by decide)))))
set_option maxRecDepth 10000 in
theorem b6_141 {d : Nat} {l0 : Option sm_V} {l1 : Option sm_V} {l2 : Option sm_V} {l3 : Option sm_V} {Z : Nat → Nat → Int} {Rf : Nat → Nat → Option Nat} {K : Nat → Nat × Nat} {n z : Nat} {Q : Option sm_V → sm_S → Prop} : sm_wp d 6 141 [l0, l1, l2, l3] [] (Z, Rf, K, n, z) Q = (Q none (Z, Rf, K, n, z)) := w_vret t6_141
theorem t7_0 : sm_at 7 0 = some (1, .aload_n 0, 0, 0, 0) := rfl
theorem t7_1 : sm_at 7 1 = some (1, .aload_n 1, 0, 0, 0) := rfl
theorem t7_2 : sm_at 7 2 = some (3, .getfield 74, 1, 0, 0) := rfl
theorem t7_5 : sm_at 7 5 = some (3, .putfield 74, 1, 0, 0) := rfl
theorem t7_8 : sm_at 7 8 = some (1, .aload_n 0, 0, 0, 0) := rfl
theorem t7_9 : sm_at 7 9 = some (1, .aload_n 1, 0, 0, 0) := rfl
theorem t7_10 : sm_at 7 10 = some (3, .getfield 78, 1, 1, 0) := rfl
theorem t7_13 : sm_at 7 13 = some (3, .putfield 78, 1, 1, 0) := rfl
theorem t7_16 : sm_at 7 16 = some (1, .aload_n 0, 0, 0, 0) := rfl
theorem t7_17 : sm_at 7 17 = some (1, .aload_n 1, 0, 0, 0) := rfl
theorem t7_18 : sm_at 7 18 = some (3, .getfield 96, 1, 2, 0) := rfl
theorem t7_21 : sm_at 7 21 = some (3, .putfield 96, 1, 2, 0) := rfl
theorem t7_24 : sm_at 7 24 = some (1, .aload_n 0, 0, 0, 0) := rfl
theorem t7_25 : sm_at 7 25 = some (1, .aload_n 1, 0, 0, 0) := rfl
theorem t7_26 : sm_at 7 26 = some (3, .getfield 81, 1, 3, 0) := rfl
theorem t7_29 : sm_at 7 29 = some (3, .putfield 81, 1, 3, 0) := rfl
theorem t7_32 : sm_at 7 32 = some (1, .aload_n 1, 0, 0, 0) := rfl
theorem t7_33 : sm_at 7 33 = some (3, .getfield 9, 1, 4, 0) := rfl
theorem t7_36 : sm_at 7 36 = some (1, .iconst 0, 0, 0, 0) := rfl
theorem t7_37 : sm_at 7 37 = some (1, .aload_n 0, 0, 0, 0) := rfl
theorem t7_38 : sm_at 7 38 = some (3, .getfield 9, 1, 4, 0) := rfl
theorem t7_41 : sm_at 7 41 = some (1, .iconst 0, 0, 0, 0) := rfl
theorem t7_42 : sm_at 7 42 = some (2, .bipush 100, 0, 0, 0) := rfl
theorem t7_44 : sm_at 7 44 = some (3, .invokestatic 99, 1000, 5, 0) := rfl
theorem t7_47 : sm_at 7 47 = some (1, .aload_n 1, 0, 0, 0) := rfl
theorem t7_48 : sm_at 7 48 = some (3, .getfield 15, 1, 5, 0) := rfl
theorem t7_51 : sm_at 7 51 = some (1, .iconst 0, 0, 0, 0) := rfl
theorem t7_52 : sm_at 7 52 = some (1, .aload_n 0, 0, 0, 0) := rfl
theorem t7_53 : sm_at 7 53 = some (3, .getfield 15, 1, 5, 0) := rfl
theorem t7_56 : sm_at 7 56 = some (1, .iconst 0, 0, 0, 0) := rfl
theorem t7_57 : sm_at 7 57 = some (2, .bipush 100, 0, 0, 0) := rfl
theorem t7_59 : sm_at 7 59 = some (3, .invokestatic 99, 1000, 5, 0) := rfl
theorem t7_62 : sm_at 7 62 = some (1, .aload_n 1, 0, 0, 0) := rfl
theorem t7_63 : sm_at 7 63 = some (3, .getfield 18, 1, 6, 0) := rfl
theorem t7_66 : sm_at 7 66 = some (1, .iconst 0, 0, 0, 0) := rfl
theorem t7_67 : sm_at 7 67 = some (1, .aload_n 0, 0, 0, 0) := rfl
theorem t7_68 : sm_at 7 68 = some (3, .getfield 18, 1, 6, 0) := rfl
theorem t7_71 : sm_at 7 71 = some (1, .iconst 0, 0, 0, 0) := rfl
theorem t7_72 : sm_at 7 72 = some (2, .bipush 100, 0, 0, 0) := rfl
theorem t7_74 : sm_at 7 74 = some (3, .invokestatic 99, 1000, 5, 0) := rfl
theorem t7_77 : sm_at 7 77 = some (1, .aload_n 1, 0, 0, 0) := rfl
theorem t7_78 : sm_at 7 78 = some (3, .getfield 21, 1, 7, 0) := rfl
theorem t7_81 : sm_at 7 81 = some (1, .iconst 0, 0, 0, 0) := rfl
theorem t7_82 : sm_at 7 82 = some (1, .aload_n 0, 0, 0, 0) := rfl
theorem t7_83 : sm_at 7 83 = some (3, .getfield 21, 1, 7, 0) := rfl
theorem t7_86 : sm_at 7 86 = some (1, .iconst 0, 0, 0, 0) := rfl
theorem t7_87 : sm_at 7 87 = some (2, .bipush 100, 0, 0, 0) := rfl
theorem t7_89 : sm_at 7 89 = some (3, .invokestatic 99, 1000, 5, 0) := rfl
theorem t7_92 : sm_at 7 92 = some (1, .aload_n 1, 0, 0, 0) := rfl
theorem t7_93 : sm_at 7 93 = some (3, .getfield 24, 1, 8, 0) := rfl
theorem t7_96 : sm_at 7 96 = some (1, .iconst 0, 0, 0, 0) := rfl
theorem t7_97 : sm_at 7 97 = some (1, .aload_n 0, 0, 0, 0) := rfl
theorem t7_98 : sm_at 7 98 = some (3, .getfield 24, 1, 8, 0) := rfl
theorem t7_101 : sm_at 7 101 = some (1, .iconst 0, 0, 0, 0) := rfl
theorem t7_102 : sm_at 7 102 = some (2, .bipush 100, 0, 0, 0) := rfl
theorem t7_104 : sm_at 7 104 = some (3, .invokestatic 99, 1000, 5, 0) := rfl
theorem t7_107 : sm_at 7 107 = some (1, .aload_n 1, 0, 0, 0) := rfl
theorem t7_108 : sm_at 7 108 = some (3, .getfield 27, 1, 9, 0) := rfl
theorem t7_111 : sm_at 7 111 = some (1, .iconst 0, 0, 0, 0) := rfl
theorem t7_112 : sm_at 7 112 = some (1, .aload_n 0, 0, 0, 0) := rfl
set_option maxRecDepth 100000 in
theorem t7_113 : sm_at 7 113 = some (3, .getfield 27, 1, 9, 0) := rfl
set_option maxRecDepth 100000 in
theorem t7_116 : sm_at 7 116 = some (1, .iconst 0, 0, 0, 0) := rfl
set_option maxRecDepth 100000 in
theorem t7_117 : sm_at 7 117 = some (2, .bipush 100, 0, 0, 0) := rfl
set_option maxRecDepth 100000 in
theorem t7_119 : sm_at 7 119 = some (3, .invokestatic 99, 1000, 5, 0) := rfl
set_option maxRecDepth 100000 in
theorem t7_122 : sm_at 7 122 = some (1, .aload_n 1, 0, 0, 0) := rfl
set_option maxRecDepth 100000 in
theorem t7_123 : sm_at 7 123 = some (3, .getfield 30, 1, 10, 0) := rfl
set_option maxRecDepth 100000 in
theorem t7_126 : sm_at 7 126 = some (1, .iconst 0, 0, 0, 0) := rfl
set_option maxRecDepth 100000 in
theorem t7_127 : sm_at 7 127 = some (1, .aload_n 0, 0, 0, 0) := rfl
set_option maxRecDepth 100000 in
theorem t7_128 : sm_at 7 128 = some (3, .getfield 30, 1, 10, 0) := rfl
set_option maxRecDepth 100000 in
theorem t7_131 : sm_at 7 131 = some (1, .iconst 0, 0, 0, 0) := rfl
set_option maxRecDepth 100000 in
theorem t7_132 : sm_at 7 132 = some (2, .bipush 100, 0, 0, 0) := rfl
set_option maxRecDepth 100000 in
theorem t7_134 : sm_at 7 134 = some (3, .invokestatic 99, 1000, 5, 0) := rfl
set_option maxRecDepth 100000 in
theorem t7_137 : sm_at 7 137 = some (1, .aload_n 1, 0, 0, 0) := rfl
set_option maxRecDepth 100000 in
theorem t7_138 : sm_at 7 138 = some (3, .getfield 33, 1, 11, 0) := rfl
set_option maxRecDepth 100000 in
theorem t7_141 : sm_at 7 141 = some (1, .iconst 0, 0, 0, 0) := rfl
set_option maxRecDepth 100000 in
theorem t7_142 : sm_at 7 142 = some (1, .aload_n 0, 0, 0, 0) := rfl
set_option maxRecDepth 100000 in
theorem t7_143 : sm_at 7 143 = some (3, .getfield 33, 1, 11, 0) := rfl
set_option maxRecDepth 100000 in
theorem t7_146 : sm_at 7 146 = some (1, .iconst 0, 0, 0, 0) := rfl
set_option maxRecDepth 100000 in
theorem t7_147 : sm_at 7 147 = some (2, .bipush 121, 0, 0, 0) := rfl
set_option maxRecDepth 100000 in
theorem t7_149 : sm_at 7 149 = some (3, .invokestatic 99, 1000, 5, 0) := rfl
set_option maxRecDepth 100000 in
theorem t7_152 : sm_at 7 152 = some (1, .aload_n 0, 0, 0, 0) := rfl
set_option maxRecDepth 100000 in
theorem t7_153 : sm_at 7 153 = some (3, .getfield 41, 1, 12, 0) := rfl
set_option maxRecDepth 100000 in
theorem t7_156 : sm_at 7 156 = some (1, .aload_n 1, 0, 0, 0) := rfl
set_option maxRecDepth 100000 in
theorem t7_157 : sm_at 7 157 = some (3, .getfield 41, 1, 12, 0) := rfl
set_option maxRecDepth 100000 in
theorem t7_160 : sm_at 7 160 = some (3, .invokevirtual 105, 55, 2, 0) := rfl
set_option maxRecDepth 100000 in
theorem t7_163 : sm_at 7 163 = some (1, .aload_n 0, 0, 0, 0) := rfl
set_option maxRecDepth 100000 in
theorem t7_164 : sm_at 7 164 = some (3, .getfield 45, 1, 13, 0) := rfl
set_option maxRecDepth 100000 in
theorem t7_167 : sm_at 7 167 = some (1, .aload_n 1, 0, 0, 0) := rfl
set_option maxRecDepth 100000 in
theorem t7_168 : sm_at 7 168 = some (3, .getfield 45, 1, 13, 0) := rfl
set_option maxRecDepth 100000 in
theorem t7_171 : sm_at 7 171 = some (3, .invokevirtual 105, 55, 2, 0) := rfl
set_option maxRecDepth 100000 in
theorem t7_174 : sm_at 7 174 = some (1, .aload_n 0, 0, 0, 0) := rfl
set_option maxRecDepth 100000 in
theorem t7_175 : sm_at 7 175 = some (3, .getfield 48, 1, 14, 0) := rfl
set_option maxRecDepth 100000 in
theorem t7_178 : sm_at 7 178 = some (1, .aload_n 1, 0, 0, 0) := rfl
set_option maxRecDepth 100000 in
theorem t7_179 : sm_at 7 179 = some (3, .getfield 48, 1, 14, 0) := rfl
set_option maxRecDepth 100000 in
theorem t7_182 : sm_at 7 182 = some (3, .invokevirtual 105, 55, 2, 0) := rfl
set_option maxRecDepth 100000 in
theorem t7_185 : sm_at 7 185 = some (1, .aload_n 0, 0, 0, 0) := rfl
set_option maxRecDepth 100000 in
theorem t7_186 : sm_at 7 186 = some (3, .getfield 51, 1, 15, 0) := rfl
set_option maxRecDepth 100000 in
theorem t7_189 : sm_at 7 189 = some (1, .aload_n 1, 0, 0, 0) := rfl
set_option maxRecDepth 100000 in
theorem t7_190 : sm_at 7 190 = some (3, .getfield 51, 1, 15, 0) := rfl
set_option maxRecDepth 100000 in
theorem t7_193 : sm_at 7 193 = some (3, .invokevirtual 105, 55, 2, 0) := rfl
set_option maxRecDepth 100000 in
theorem t7_196 : sm_at 7 196 = some (1, .iconst 0, 0, 0, 0) := rfl
set_option maxRecDepth 100000 in
theorem t7_197 : sm_at 7 197 = some (1, .istore_n 2, 0, 0, 0) := rfl
set_option maxRecDepth 100000 in
theorem t7_198 : sm_at 7 198 = some (1, .iload_n 2, 0, 0, 0) := rfl
set_option maxRecDepth 100000 in
theorem t7_199 : sm_at 7 199 = some (1, .iconst 4, 0, 0, 0) := rfl
set_option maxRecDepth 100000 in
theorem t7_200 : sm_at 7 200 = some (3, .if_icmp .ge 21, 0, 0, 0) := rfl
set_option maxRecDepth 100000 in
theorem t7_203 : sm_at 7 203 = some (1, .aload_n 0, 0, 0, 0) := rfl
set_option maxRecDepth 100000 in
theorem t7_204 : sm_at 7 204 = some (3, .getfield 56, 1, 16, 0) := rfl
set_option maxRecDepth 100000 in
theorem t7_207 : sm_at 7 207 = some (1, .iload_n 2, 0, 0, 0) := rfl
set_option maxRecDepth 100000 in
theorem t7_208 : sm_at 7 208 = some (1, .aload_n 1, 0, 0, 0) := rfl
set_option maxRecDepth 100000 in
theorem t7_209 : sm_at 7 209 = some (3, .getfield 56, 1, 16, 0) := rfl
set_option maxRecDepth 100000 in
theorem t7_212 : sm_at 7 212 = some (1, .iload_n 2, 0, 0, 0) := rfl
set_option maxRecDepth 100000 in
theorem t7_213 : sm_at 7 213 = some (1, .aaload, 0, 0, 0) := rfl
set_option maxRecDepth 100000 in
theorem t7_214 : sm_at 7 214 = some (1, .aastore, 0, 0, 0) := rfl
set_option maxRecDepth 100000 in
theorem t7_215 : sm_at 7 215 = some (3, .iinc 2 1, 0, 0, 0) := rfl
set_option maxRecDepth 100000 in
theorem t7_218 : sm_at 7 218 = some (3, .goto (-20), 0, 0, 0) := rfl
set_option maxRecDepth 100000 in
theorem t7_221 : sm_at 7 221 = some (1, .aload_n 0, 0, 0, 0) := rfl
set_option maxRecDepth 100000 in
theorem t7_222 : sm_at 7 222 = some (3, .getfield 70, 1, 18, 0) := rfl
set_option maxRecDepth 100000 in
theorem t7_225 : sm_at 7 225 = some (1, .aload_n 1, 0, 0, 0) := rfl
set_option maxRecDepth 100000 in
theorem t7_226 : sm_at 7 226 = some (3, .getfield 70, 1, 18, 0) := rfl
set_option maxRecDepth 100000 in
theorem t7_229 : sm_at 7 229 = some (3, .invokevirtual 109, 77, 2, 0) := rfl
set_option maxRecDepth 100000 in
theorem t7_232 : sm_at 7 232 = some (1, .return_, 0, 0, 0) := rfl
set_option maxRecDepth 10000 in
theorem b7_0 {d : Nat} {r0 : Nat} {r1 : Nat} {l2 : Option sm_V} {Z : Nat → Nat → Int} {Rf : Nat → Nat → Option Nat} {K : Nat → Nat × Nat} {n z : Nat} {Q : Option sm_V → sm_S → Prop} : sm_wp (d + 1) 7 0 [some (.inr (some r0)), some (.inr (some r1)), l2] [] (Z, Rf, K, n, z) Q = ((K r1).1 = 1 ∧ (K r0).1 = 1 ∧ (K r1).1 = 1 ∧ (K r0).1 = 1 ∧ (K r1).1 = 1 ∧ (K r0).1 = 1 ∧ (K r1).1 = 1 ∧ (K r0).1 = 1 ∧ (K r1).1 = 1 ∧ (Rf r1 4).isSome = true ∧ (K r0).1 = 1 ∧ (Rf r0 4).isSome = true ∧ sm_cp (K (((Rf r1 4).getD 0))) (K (((Rf r0 4).getD 0))) ((0 : Int)) ((0 : Int)) ((100 : Int)) ∧ (K r1).1 = 1 ∧ (Rf r1 5).isSome = true ∧ (K r0).1 = 1 ∧ (Rf r0 5).isSome = true ∧ sm_cp (K (((Rf r1 5).getD 0))) (K (((Rf r0 5).getD 0))) ((0 : Int)) ((0 : Int)) ((100 : Int)) ∧ (K r1).1 = 1 ∧ (Rf r1 6).isSome = true ∧ (K r0).1 = 1 ∧ (Rf r0 6).isSome = true ∧ sm_cp (K (((Rf r1 6).getD 0))) (K (((Rf r0 6).getD 0))) ((0 : Int)) ((0 : Int)) ((100 : Int)) ∧ (K r1).1 = 1 ∧ (Rf r1 7).isSome = true ∧ (K r0).1 = 1 ∧ (Rf r0 7).isSome = true ∧ sm_cp (K (((Rf r1 7).getD 0))) (K (((Rf r0 7).getD 0))) ((0 : Int)) ((0 : Int)) ((100 : Int)) ∧ (K r1).1 = 1 ∧ (Rf r1 8).isSome = true ∧ (K r0).1 = 1 ∧ (Rf r0 8).isSome = true ∧ sm_cp (K (((Rf r1 8).getD 0))) (K (((Rf r0 8).getD 0))) ((0 : Int)) ((0 : Int)) ((100 : Int)) ∧ (K r1).1 = 1 ∧ (Rf r1 9).isSome = true ∧ (K r0).1 = 1 ∧ (Rf r0 9).isSome = true ∧ sm_cp (K (((Rf r1 9).getD 0))) (K (((Rf r0 9).getD 0))) ((0 : Int)) ((0 : Int)) ((100 : Int)) ∧ (K r1).1 = 1 ∧ (Rf r1 10).isSome = true ∧ (K r0).1 = 1 ∧ (Rf r0 10).isSome = true ∧ sm_cp (K (((Rf r1 10).getD 0))) (K (((Rf r0 10).getD 0))) ((0 : Int)) ((0 : Int)) ((100 : Int)) ∧ (K r1).1 = 1 ∧ (Rf r1 11).isSome = true ∧ (K r0).1 = 1 ∧ (Rf r0 11).isSome = true ∧ sm_cp (K (((Rf r1 11).getD 0))) (K (((Rf r0 11).getD 0))) ((0 : Int)) ((0 : Int)) ((121 : Int)) ∧ (K r0).1 = 1 ∧ (Rf r0 12).isSome = true ∧ (K r1).1 = 1 ∧ (Rf r1 12).isSome = true ∧ (K (((Rf r0 12).getD 0))).1 = 5 ∧ sm_call d 55 [.inr (some ((Rf r0 12).getD 0)), .inr (some ((Rf r1 12).getD 0))] (sm_mv (sm_mv (sm_mv (sm_mv (sm_mv (sm_mv (sm_mv (sm_mv (sm_u (sm_u (sm_u (sm_u Z r0 0 (Z r1 0)) r0 1 ((sm_u Z r0 0 (Z r1 0)) r1 1)) r0 2 ((sm_u (sm_u Z r0 0 (Z r1 0)) r0 1 ((sm_u Z r0 0 (Z r1 0)) r1 1)) r1 2)) r0 3 ((sm_u (sm_u (sm_u Z r0 0 (Z r1 0)) r0 1 ((sm_u Z r0 0 (Z r1 0)) r1 1)) r0 2 ((sm_u (sm_u Z r0 0 (Z r1 0)) r0 1 ((sm_u Z r0 0 (Z r1 0)) r1 1)) r1 2)) r1 3)) (((Rf r1 4).getD 0)) (((Rf r0 4).getD 0)) ((0 : Int)) ((0 : Int)) ((100 : Int))) (((Rf r1 5).getD 0)) (((Rf r0 5).getD 0)) ((0 : Int)) ((0 : Int)) ((100 : Int))) (((Rf r1 6).getD 0)) (((Rf r0 6).getD 0)) ((0 : Int)) ((0 : Int)) ((100 : Int))) (((Rf r1 7).getD 0)) (((Rf r0 7).getD 0)) ((0 : Int)) ((0 : Int)) ((100 : Int))) (((Rf r1 8).getD 0)) (((Rf r0 8).getD 0)) ((0 : Int)) ((0 : Int)) ((100 : Int))) (((Rf r1 9).getD 0)) (((Rf r0 9).getD 0)) ((0 : Int)) ((0 : Int)) ((100 : Int))) (((Rf r1 10).getD 0)) (((Rf r0 10).getD 0)) ((0 : Int)) ((0 : Int)) ((100 : Int))) (((Rf r1 11).getD 0)) (((Rf r0 11).getD 0)) ((0 : Int)) ((0 : Int)) ((121 : Int)), Rf, K, n, z) (sm_cont (d + 1) 7 163 [some (.inr (some r0)), some (.inr (some r1)), l2] [] Q)) := (w_aload_n t7_0 rfl rfl).trans ((w_aload_n t7_1 rfl rfl).trans ((w_getI t7_2 rfl (by decide)).trans (congrArg (And _) ((w_putI t7_5 rfl (by decide)).trans (congrArg (And _) ((w_aload_n t7_8 rfl rfl).trans ((w_aload_n t7_9 rfl rfl).trans ((w_getI t7_10 rfl (by decide)).trans (congrArg (And _) ((w_putI t7_13 rfl (by decide)).trans (congrArg (And _) ((w_aload_n t7_16 rfl rfl).trans ((w_aload_n t7_17 rfl rfl).trans ((w_getI t7_18 rfl (by decide)).trans (congrArg (And _) ((w_putI t7_21 rfl (by decide)).trans (congrArg (And _) ((w_aload_n t7_24 rfl rfl).trans ((w_aload_n t7_25 rfl rfl).trans ((w_getI t7_26 rfl (by decide)).trans (congrArg (And _) ((w_putI t7_29 rfl (by decide)).trans (congrArg (And _) ((w_aload_n t7_32 rfl rfl).trans ((w_getR t7_33 rfl (by decide)).trans (congrArg (And _) (congrArg (And _) ((w_iconst t7_36 rfl).trans ((w_aload_n t7_37 rfl rfl).trans ((w_getR t7_38 rfl (by decide)).trans (congrArg (And _) (congrArg (And _) ((w_iconst t7_41 rfl).trans ((w_bipush t7_42 rfl).trans ((w_copy t7_44 rfl (Nat.le_of_ble_eq_true rfl) wl_0 wl_0 wl_100).trans (congrArg (And _) ((w_aload_n t7_47 rfl rfl).trans ((w_getR t7_48 rfl (by decide)).trans (congrArg (And _) (congrArg (And _) ((w_iconst t7_51 rfl).trans ((w_aload_n t7_52 rfl rfl).trans ((w_getR t7_53 rfl (by decide)).trans (congrArg (And _) (congrArg (And _) ((w_iconst t7_56 rfl).trans ((w_bipush t7_57 rfl).trans ((w_copy t7_59 rfl (Nat.le_of_ble_eq_true rfl) wl_0 wl_0 wl_100).trans (congrArg (And _) ((w_aload_n t7_62 rfl rfl).trans ((w_getR t7_63 rfl (by decide)).trans (congrArg (And _) (congrArg (And _) ((w_iconst t7_66 rfl).trans ((w_aload_n t7_67 rfl rfl).trans ((w_getR t7_68 rfl (by decide)).trans (congrArg (And _) (congrArg (And _) ((w_iconst t7_71 rfl).trans ((w_bipush t7_72 rfl).trans ((w_copy t7_74 rfl (Nat.le_of_ble_eq_true rfl) wl_0 wl_0 wl_100).trans (congrArg (And _) ((w_aload_n t7_77 rfl rfl).trans ((w_getR t7_78 rfl (by decide)).trans (congrArg (And _) (congrArg (And _) ((w_iconst t7_81 rfl).trans ((w_aload_n t7_82 rfl rfl).trans ((w_getR t7_83 rfl (by decide)).trans (congrArg (And _) (congrArg (And _) ((w_iconst t7_86 rfl).trans ((w_bipush t7_87 rfl).trans ((w_copy t7_89 rfl (Nat.le_of_ble_eq_true rfl) wl_0 wl_0 wl_100).trans (congrArg (And _) ((w_aload_n t7_92 rfl rfl).trans ((w_getR t7_93 rfl (by decide)).trans (congrArg (And _) (congrArg (And _) ((w_iconst t7_96 rfl).trans ((w_aload_n t7_97 rfl rfl).trans ((w_getR t7_98 rfl (by decide)).trans (congrArg (And _) (congrArg (And _) ((w_iconst t7_101 rfl).trans ((w_bipush t7_102 rfl).trans ((w_copy t7_104 rfl (Nat.le_of_ble_eq_true rfl) wl_0 wl_0 wl_100).trans (congrArg (And _) ((w_aload_n t7_107 rfl rfl).trans ((w_getR t7_108 rfl (by decide)).trans (congrArg (And _) (congrArg (And _) ((w_iconst t7_111 rfl).trans ((w_aload_n t7_112 rfl rfl).trans ((w_getR t7_113 rfl (by decide)).trans (congrArg (And _) (congrArg (And _) ((w_iconst t7_116 rfl).trans ((w_bipush t7_117 rfl).trans ((w_copy t7_119 rfl (Nat.le_of_ble_eq_true rfl) wl_0 wl_0 wl_100).trans (congrArg (And _) ((w_aload_n t7_122 rfl rfl).trans ((w_getR t7_123 rfl (by decide)).trans (congrArg (And _) (congrArg (And _) ((w_iconst t7_126 rfl).trans ((w_aload_n t7_127 rfl rfl).trans ((w_getR t7_128 rfl (by decide)).trans (congrArg (And _) (congrArg (And _) ((w_iconst t7_131 rfl).trans ((w_bipush t7_132 rfl).trans ((w_copy t7_134 rfl (Nat.le_of_ble_eq_true rfl) wl_0 wl_0 wl_100).trans (congrArg (And _) ((w_aload_n t7_137 rfl rfl).trans ((w_getR t7_138 rfl (by decide)).trans (congrArg (And _) (congrArg (And _) ((w_iconst t7_141 rfl).trans ((w_aload_n t7_142 rfl rfl).trans ((w_getR t7_143 rfl (by decide)).trans (congrArg (And _) (congrArg (And _) ((w_iconst t7_146 rfl).trans ((w_bipush t7_147 rfl).trans ((w_copy t7_149 rfl (Nat.le_of_ble_eq_true rfl) wl_0 wl_0 wl_121).trans (congrArg (And _) ((w_aload_n t7_152 rfl rfl).trans ((w_getR t7_153 rfl (by decide)).trans (congrArg (And _) (congrArg (And _) ((w_aload_n t7_156 rfl rfl).trans ((w_getR t7_157 rfl (by decide)).trans (congrArg (And _) (congrArg (And _) (w_callV t7_160 rfl rfl rfl rfl (Nat.le_of_ble_eq_true rfl) (Nat.le_of_ble_eq_true rfl) rfl (by decide)))))))))))))))))))))))))))))))))))))))))))))))))))))))))))))))))))))))))))))))))))))))))))))))))))))))))))))))))))))))))))))))))))))))))
set_option maxRecDepth 10000 in
theorem b7_163 {d : Nat} {r0 : Nat} {r1 : Nat} {l2 : Option sm_V} {Z : Nat → Nat → Int} {Rf : Nat → Nat → Option Nat} {K : Nat → Nat × Nat} {n z : Nat} {Q : Option sm_V → sm_S → Prop} : sm_wp (d + 1) 7 163 [some (.inr (some r0)), some (.inr (some r1)), l2] [] (Z, Rf, K, n, z) Q = ((K r0).1 = 1 ∧ (Rf r0 13).isSome = true ∧ (K r1).1 = 1 ∧ (Rf r1 13).isSome = true ∧ (K (((Rf r0 13).getD 0))).1 = 5 ∧ sm_call d 55 [.inr (some ((Rf r0 13).getD 0)), .inr (some ((Rf r1 13).getD 0))] (Z, Rf, K, n, z) (sm_cont (d + 1) 7 174 [some (.inr (some r0)), some (.inr (some r1)), l2] [] Q)) := (w_aload_n t7_163 rfl rfl).trans ((w_getR t7_164 rfl (by decide)).trans (congrArg (And _) (congrArg (And _) ((w_aload_n t7_167 rfl rfl).trans ((w_getR t7_168 rfl (by decide)).trans (congrArg (And _) (congrArg (And _) (w_callV t7_171 rfl rfl rfl rfl (Nat.le_of_ble_eq_true rfl) (Nat.le_of_ble_eq_true rfl) rfl (by decide)))))))))
set_option maxRecDepth 10000 in
theorem b7_174 {d : Nat} {r0 : Nat} {r1 : Nat} {l2 : Option sm_V} {Z : Nat → Nat → Int} {Rf : Nat → Nat → Option Nat} {K : Nat → Nat × Nat} {n z : Nat} {Q : Option sm_V → sm_S → Prop} : sm_wp (d + 1) 7 174 [some (.inr (some r0)), some (.inr (some r1)), l2] [] (Z, Rf, K, n, z) Q = ((K r0).1 = 1 ∧ (Rf r0 14).isSome = true ∧ (K r1).1 = 1 ∧ (Rf r1 14).isSome = true ∧ (K (((Rf r0 14).getD 0))).1 = 5 ∧ sm_call d 55 [.inr (some ((Rf r0 14).getD 0)), .inr (some ((Rf r1 14).getD 0))] (Z, Rf, K, n, z) (sm_cont (d + 1) 7 185 [some (.inr (some r0)), some (.inr (some r1)), l2] [] Q)) := (w_aload_n t7_174 rfl rfl).trans ((w_getR t7_175 rfl (by decide)).trans (congrArg (And _) (congrArg (And _) ((w_aload_n t7_178 rfl rfl).trans ((w_getR t7_179 rfl (by decide)).trans (congrArg (And _) (congrArg (And _) (w_callV t7_182 rfl rfl rfl rfl (Nat.le_of_ble_eq_true rfl) (Nat.le_of_ble_eq_true rfl) rfl (by decide)))))))))
set_option maxRecDepth 10000 in
theorem b7_185 {d : Nat} {r0 : Nat} {r1 : Nat} {l2 : Option sm_V} {Z : Nat → Nat → Int} {Rf : Nat → Nat → Option Nat} {K : Nat → Nat × Nat} {n z : Nat} {Q : Option sm_V → sm_S → Prop} : sm_wp (d + 1) 7 185 [some (.inr (some r0)), some (.inr (some r1)), l2] [] (Z, Rf, K, n, z) Q = ((K r0).1 = 1 ∧ (Rf r0 15).isSome = true ∧ (K r1).1 = 1 ∧ (Rf r1 15).isSome = true ∧ (K (((Rf r0 15).getD 0))).1 = 5 ∧ sm_call d 55 [.inr (some ((Rf r0 15).getD 0)), .inr (some ((Rf r1 15).getD 0))] (Z, Rf, K, n, z) (sm_cont (d + 1) 7 196 [some (.inr (some r0)), some (.inr (some r1)), l2] [] Q)) := (w_aload_n t7_185 rfl rfl).trans ((w_getR t7_186 rfl (by decide)).trans (congrArg (And _) (congrArg (And _) ((w_aload_n t7_189 rfl rfl).trans ((w_getR t7_190 rfl (by decide)).trans (congrArg (And _) (congrArg (And _) (w_callV t7_193 rfl rfl rfl rfl (Nat.le_of_ble_eq_true rfl) (Nat.le_of_ble_eq_true rfl) rfl (by decide)))))))))
set_option maxRecDepth 10000 in
theorem b7_196 {d : Nat} {l0 : Option sm_V} {l1 : Option sm_V} {l2 : Option sm_V} {Z : Nat → Nat → Int} {Rf : Nat → Nat → Option Nat} {K : Nat → Nat × Nat} {n z : Nat} {Q : Option sm_V → sm_S → Prop} : sm_wp d 7 196 [l0, l1, l2] [] (Z, Rf, K, n, z) Q = (sm_wp d 7 198 [l0, l1, some (.inl 0)] [] (Z, Rf, K, n, z) Q) := (w_iconst t7_196 rfl).trans (w_istore_n t7_197 rfl (Nat.le_of_ble_eq_true rfl) rfl)
set_option maxRecDepth 10000 in
theorem b7_198 {d : Nat} {l0 : Option sm_V} {l1 : Option sm_V} {x2 : Int} {Z : Nat → Nat → Int} {Rf : Nat → Nat → Option Nat} {K : Nat → Nat × Nat} {n z : Nat} {Q : Option sm_V → sm_S → Prop} : sm_wp d 7 198 [l0, l1, some (.inl x2)] [] (Z, Rf, K, n, z) Q = (if (4 : Int) ≤ wr x2 then sm_wp d 7 221 [l0, l1, some (.inl x2)] [] (Z, Rf, K, n, z) Q else sm_wp d 7 203 [l0, l1, some (.inl x2)] [] (Z, Rf, K, n, z) Q) := (w_iload_n t7_198 rfl rfl).trans ((w_iconst t7_199 rfl).trans (w_icge t7_200 rfl wl_4 rfl rfl))
set_option maxRecDepth 10000 in
theorem b7_203 {d : Nat} {r0 : Nat} {r1 : Nat} {x2 : Int} {Z : Nat → Nat → Int} {Rf : Nat → Nat → Option Nat} {K : Nat → Nat × Nat} {n z : Nat} {Q : Option sm_V → sm_S → Prop} : sm_wp d 7 203 [some (.inr (some r0)), some (.inr (some r1)), some (.inl x2)] [] (Z, Rf, K, n, z) Q = ((K r0).1 = 1 ∧ (Rf r0 16).isSome = true ∧ (K r1).1 = 1 ∧ (Rf r1 16).isSome = true ∧ ((K (((Rf r1 16).getD 0))).1 = 101 ∧ 0 ≤ wr x2 ∧ wr x2 < ((K (((Rf r1 16).getD 0))).2 : Int) ∧ (Rf (((Rf r1 16).getD 0)) ((wr x2).toNat)).isSome = true) ∧ ((K (((Rf r0 16).getD 0))).1 = 101 ∧ (K (((Rf (((Rf r1 16).getD 0)) ((wr x2).toNat)).getD 0))).1 = 2 ∧ 0 ≤ wr x2 ∧ wr x2 < ((K (((Rf r0 16).getD 0))).2 : Int)) ∧ sm_wp d 7 198 [some (.inr (some r0)), some (.inr (some r1)), some (.inl (x2 + 1))] [] (Z, sm_u Rf (((Rf r0 16).getD 0)) ((wr x2).toNat) (some (((Rf (((Rf r1 16).getD 0)) ((wr x2).toNat)).getD 0))), K, n, z) Q) := (w_aload_n t7_203 rfl rfl).trans ((w_getR t7_204 rfl (by decide)).trans (congrArg (And _) (congrArg (And _) ((w_iload_n t7_207 rfl rfl).trans ((w_aload_n t7_208 rfl rfl).trans ((w_getR t7_209 rfl (by decide)).trans (congrArg (And _) (congrArg (And _) ((w_iload_n t7_212 rfl rfl).trans ((w_aald t7_213 rfl rfl).trans (congrArg (And _) ((w_aast t7_214 rfl rfl).trans (congrArg (And _) ((w_iinc t7_215 rfl rfl (Nat.le_of_ble_eq_true rfl) rfl).trans (w_goto t7_218 rfl)))))))))))))))
set_option maxRecDepth 10000 in
theorem b7_221 {d : Nat} {r0 : Nat} {r1 : Nat} {l2 : Option sm_V} {Z : Nat → Nat → Int} {Rf : Nat → Nat → Option Nat} {K : Nat → Nat × Nat} {n z : Nat} {Q : Option sm_V → sm_S → Prop} : sm_wp (d + 1) 7 221 [some (.inr (some r0)), some (.inr (some r1)), l2] [] (Z, Rf, K, n, z) Q = ((K r0).1 = 1 ∧ (Rf r0 18).isSome = true ∧ (K r1).1 = 1 ∧ (Rf r1 18).isSome = true ∧ (K (((Rf r0 18).getD 0))).1 = 9 ∧ sm_call d 77 [.inr (some ((Rf r0 18).getD 0)), .inr (some ((Rf r1 18).getD 0))] (Z, Rf, K, n, z) (sm_cont (d + 1) 7 232 [some (.inr (some r0)), some (.inr (some r1)), l2] [] Q)) := (w_aload_n t7_221 rfl rfl).trans ((w_getR t7_222 rfl (by decide)).trans (congrArg (And _) (congrArg (And _) ((w_aload_n t7_225 rfl rfl).trans ((w_getR t7_226 rfl (by decide)).trans (congrArg (And _) (congrArg (And _) (w_callV t7_229 rfl rfl rfl rfl (Nat.le_of_ble_eq_true rfl) (Nat.le_of_ble_eq_true rfl) rfl (by decide)))))))))
set_option maxRecDepth 10000 in
theorem b7_232 {d : Nat} {l0 : Option sm_V} {l1 : Option sm_V} {l2 : Option sm_V} {Z : Nat → Nat → Int} {Rf : Nat → Nat → Option Nat} {K : Nat → Nat × Nat} {n z : Nat} {Q : Option sm_V → sm_S → Prop} : sm_wp d 7 232 [l0, l1, l2] [] (Z, Rf, K, n, z) Q = (Q none (Z, Rf, K, n, z)) := w_vret t7_232
theorem t8_0 : sm_at 8 0 = some (1, .iload_n 1, 0, 0, 0) := rfl
theorem t8_1 : sm_at 8 1 = some (3, .ifCond .lt 35, 0, 0, 0) := rfl
theorem t8_4 : sm_at 8 4 = some (1, .iload_n 1, 0, 0, 0) := rfl
theorem t8_5 : sm_at 8 5 = some (2, .bipush 100, 0, 0, 0) := rfl
theorem t8_7 : sm_at 8 7 = some (3, .if_icmp .ge 29, 0, 0, 0) := rfl
theorem t8_10 : sm_at 8 10 = some (1, .iload_n 1, 0, 0, 0) := rfl
theorem t8_11 : sm_at 8 11 = some (2, .bipush 10, 0, 0, 0) := rfl
theorem t8_13 : sm_at 8 13 = some (1, .irem, 0, 0, 0) := rfl
theorem t8_14 : sm_at 8 14 = some (1, .aload_n 0, 0, 0, 0) := rfl
theorem t8_15 : sm_at 8 15 = some (3, .getfield 74, 1, 0, 0) := rfl
theorem t8_18 : sm_at 8 18 = some (3, .if_icmp .ge 18, 0, 0, 0) := rfl
theorem t8_21 : sm_at 8 21 = some (1, .iload_n 1, 0, 0, 0) := rfl
theorem t8_22 : sm_at 8 22 = some (2, .bipush 10, 0, 0, 0) := rfl
theorem t8_24 : sm_at 8 24 = some (1, .idiv, 0, 0, 0) := rfl
theorem t8_25 : sm_at 8 25 = some (1, .aload_n 0, 0, 0, 0) := rfl
theorem t8_26 : sm_at 8 26 = some (3, .getfield 78, 1, 1, 0) := rfl
theorem t8_29 : sm_at 8 29 = some (3, .if_icmp .ge 7, 0, 0, 0) := rfl
theorem t8_32 : sm_at 8 32 = some (1, .iconst 1, 0, 0, 0) := rfl
theorem t8_33 : sm_at 8 33 = some (3, .goto 4, 0, 0, 0) := rfl
theorem t8_36 : sm_at 8 36 = some (1, .iconst 0, 0, 0, 0) := rfl
theorem t8_37 : sm_at 8 37 = some (1, .ireturn, 1, 0, 0) := rfl
set_option maxRecDepth 10000 in
theorem b8_0 {d : Nat} {l0 : Option sm_V} {x1 : Int} {Z : Nat → Nat → Int} {Rf : Nat → Nat → Option Nat} {K : Nat → Nat × Nat} {n z : Nat} {Q : Option sm_V → sm_S → Prop} : sm_wp d 8 0 [l0, some (.inl x1)] [] (Z, Rf, K, n, z) Q = (if wr x1 < 0 then sm_wp d 8 36 [l0, some (.inl x1)] [] (Z, Rf, K, n, z) Q else sm_wp d 8 4 [l0, some (.inl x1)] [] (Z, Rf, K, n, z) Q) := (w_iload_n t8_0 rfl rfl).trans (w_iflt t8_1 rfl rfl rfl)
set_option maxRecDepth 10000 in
theorem b8_4 {d : Nat} {l0 : Option sm_V} {x1 : Int} {Z : Nat → Nat → Int} {Rf : Nat → Nat → Option Nat} {K : Nat → Nat × Nat} {n z : Nat} {Q : Option sm_V → sm_S → Prop} : sm_wp d 8 4 [l0, some (.inl x1)] [] (Z, Rf, K, n, z) Q = (if (100 : Int) ≤ wr x1 then sm_wp d 8 36 [l0, some (.inl x1)] [] (Z, Rf, K, n, z) Q else sm_wp d 8 10 [l0, some (.inl x1)] [] (Z, Rf, K, n, z) Q) := (w_iload_n t8_4 rfl rfl).trans ((w_bipush t8_5 rfl).trans (w_icge t8_7 rfl wl_100 rfl rfl))
set_option maxRecDepth 10000 in
theorem b8_10 {d : Nat} {r0 : Nat} {x1 : Int} {Z : Nat → Nat → Int} {Rf : Nat → Nat → Option Nat} {K : Nat → Nat × Nat} {n z : Nat} {Q : Option sm_V → sm_S → Prop} : sm_wp d 8 10 [some (.inr (some r0)), some (.inl x1)] [] (Z, Rf, K, n, z) Q = (¬ (10 : Int) = 0 ∧ (K r0).1 = 1 ∧ (if wr (Z r0 0) ≤ wr (sm_rem x1 10) then sm_wp d 8 36 [some (.inr (some r0)), some (.inl x1)] [] (Z, Rf, K, n, z) Q else sm_wp d 8 21 [some (.inr (some r0)), some (.inl x1)] [] (Z, Rf, K, n, z) Q)) := (w_iload_n t8_10 rfl rfl).trans ((w_bipush t8_11 rfl).trans ((w_irem t8_13 rfl wl_10).trans (congrArg (And _) ((w_aload_n t8_14 rfl rfl).trans ((w_getI t8_15 rfl (by decide)).trans (congrArg (And _) (w_icge t8_18 rfl rfl rfl rfl)))))))
set_option maxRecDepth 10000 in
theorem b8_21 {d : Nat} {r0 : Nat} {x1 : Int} {Z : Nat → Nat → Int} {Rf : Nat → Nat → Option Nat} {K : Nat → Nat × Nat} {n z : Nat} {Q : Option sm_V → sm_S → Prop} : sm_wp d 8 21 [some (.inr (some r0)), some (.inl x1)] [] (Z, Rf, K, n, z) Q = (¬ (10 : Int) = 0 ∧ (K r0).1 = 1 ∧ (if wr (Z r0 1) ≤ wr (sm_div x1 10) then sm_wp d 8 36 [some (.inr (some r0)), some (.inl x1)] [] (Z, Rf, K, n, z) Q else sm_wp d 8 32 [some (.inr (some r0)), some (.inl x1)] [] (Z, Rf, K, n, z) Q)) := (w_iload_n t8_21 rfl rfl).trans ((w_bipush t8_22 rfl).trans ((w_idiv t8_24 rfl wl_10).trans (congrArg (And _) ((w_aload_n t8_25 rfl rfl).trans ((w_getI t8_26 rfl (by decide)).trans (congrArg (And _) (w_icge t8_29 rfl rfl rfl rfl)))))))
set_option maxRecDepth 10000 in
theorem b8_32 {d : Nat} {l0 : Option sm_V} {l1 : Option sm_V} {Z : Nat → Nat → Int} {Rf : Nat → Nat → Option Nat} {K : Nat → Nat × Nat} {n z : Nat} {Q : Option sm_V → sm_S → Prop} : sm_wp d 8 32 [l0, l1] [] (Z, Rf, K, n, z) Q = (sm_wp d 8 37 [l0, l1] [.inl 1] (Z, Rf, K, n, z) Q) := (w_iconst t8_32 rfl).trans (w_goto t8_33 rfl)
set_option maxRecDepth 10000 in
theorem b8_36 {d : Nat} {l0 : Option sm_V} {l1 : Option sm_V} {Z : Nat → Nat → Int} {Rf : Nat → Nat → Option Nat} {K : Nat → Nat × Nat} {n z : Nat} {Q : Option sm_V → sm_S → Prop} : sm_wp d 8 36 [l0, l1] [] (Z, Rf, K, n, z) Q = (sm_wp d 8 37 [l0, l1] [.inl 0] (Z, Rf, K, n, z) Q) := w_iconst t8_36 rfl
set_option maxRecDepth 10000 in
theorem b8_37 {d : Nat} {l0 : Option sm_V} {l1 : Option sm_V} {s0 : Int} {Z : Nat → Nat → Int} {Rf : Nat → Nat → Option Nat} {K : Nat → Nat × Nat} {n z : Nat} {Q : Option sm_V → sm_S → Prop} : sm_wp d 8 37 [l0, l1] [.inl s0] (Z, Rf, K, n, z) Q = ((wr s0 = 0 ∨ wr s0 = 1) ∧ Q (some (.inl s0)) (Z, Rf, K, n, z)) := w_zret t8_37 rfl
theorem t9_0 : sm_at 9 0 = some (1, .iload_n 1, 0, 0, 0) := rfl
theorem t9_1 : sm_at 9 1 = some (3, .ifCond .lt 32, 0, 0, 0) := rfl
theorem t9_4 : sm_at 9 4 = some (1, .iload_n 1, 0, 0, 0) := rfl
theorem t9_5 : sm_at 9 5 = some (1, .aload_n 0, 0, 0, 0) := rfl
theorem t9_6 : sm_at 9 6 = some (3, .getfield 74, 1, 0, 0) := rfl
theorem t9_9 : sm_at 9 9 = some (3, .if_icmp .ge 24, 0, 0, 0) := rfl
theorem t9_12 : sm_at 9 12 = some (1, .iload_n 2, 0, 0, 0) := rfl
theorem t9_13 : sm_at 9 13 = some (3, .ifCond .lt 20, 0, 0, 0) := rfl
theorem t9_16 : sm_at 9 16 = some (1, .iload_n 2, 0, 0, 0) := rfl
theorem t9_17 : sm_at 9 17 = some (1, .aload_n 0, 0, 0, 0) := rfl
theorem t9_18 : sm_at 9 18 = some (3, .getfield 78, 1, 1, 0) := rfl
theorem t9_21 : sm_at 9 21 = some (3, .if_icmp .ge 12, 0, 0, 0) := rfl
theorem t9_24 : sm_at 9 24 = some (1, .iload_n 2, 0, 0, 0) := rfl
theorem t9_25 : sm_at 9 25 = some (2, .bipush 10, 0, 0, 0) := rfl
theorem t9_27 : sm_at 9 27 = some (1, .imul, 0, 0, 0) := rfl
theorem t9_28 : sm_at 9 28 = some (1, .iload_n 1, 0, 0, 0) := rfl
theorem t9_29 : sm_at 9 29 = some (1, .iadd, 0, 0, 0) := rfl
theorem t9_30 : sm_at 9 30 = some (3, .goto 4, 0, 0, 0) := rfl
theorem t9_33 : sm_at 9 33 = some (1, .iconst (-1), 0, 0, 0) := rfl
theorem t9_34 : sm_at 9 34 = some (1, .ireturn, 0, 0, 0) := rfl
set_option maxRecDepth 10000 in
theorem b9_0 {d : Nat} {l0 : Option sm_V} {x1 : Int} {l2 : Option sm_V} {Z : Nat → Nat → Int} {Rf : Nat → Nat → Option Nat} {K : Nat → Nat × Nat} {n z : Nat} {Q : Option sm_V → sm_S → Prop} : sm_wp d 9 0 [l0, some (.inl x1), l2] [] (Z, Rf, K, n, z) Q = (if wr x1 < 0 then sm_wp d 9 33 [l0, some (.inl x1), l2] [] (Z, Rf, K, n, z) Q else sm_wp d 9 4 [l0, some (.inl x1), l2] [] (Z, Rf, K, n, z) Q) := (w_iload_n t9_0 rfl rfl).trans (w_iflt t9_1 rfl rfl rfl)
set_option maxRecDepth 10000 in
theorem b9_4 {d : Nat} {r0 : Nat} {x1 : Int} {l2 : Option sm_V} {Z : Nat → Nat → Int} {Rf : Nat → Nat → Option Nat} {K : Nat → Nat × Nat} {n z : Nat} {Q : Option sm_V → sm_S → Prop} : sm_wp d 9 4 [some (.inr (some r0)), some (.inl x1), l2] [] (Z, Rf, K, n, z) Q = ((K r0).1 = 1 ∧ (if wr (Z r0 0) ≤ wr x1 then sm_wp d 9 33 [some (.inr (some r0)), some (.inl x1), l2] [] (Z, Rf, K, n, z) Q else sm_wp d 9 12 [some (.inr (some r0)), some (.inl x1), l2] [] (Z, Rf, K, n, z) Q)) := (w_iload_n t9_4 rfl rfl).trans ((w_aload_n t9_5 rfl rfl).trans ((w_getI t9_6 rfl (by decide)).trans (congrArg (And _) (w_icge t9_9 rfl rfl rfl rfl))))
set_option maxRecDepth 10000 in
theorem b9_12 {d : Nat} {l0 : Option sm_V} {l1 : Option sm_V} {x2 : Int} {Z : Nat → Nat → Int} {Rf : Nat → Nat → Option Nat} {K : Nat → Nat × Nat} {n z : Nat} {Q : Option sm_V → sm_S → Prop} : sm_wp d 9 12 [l0, l1, some (.inl x2)] [] (Z, Rf, K, n, z) Q = (if wr x2 < 0 then sm_wp d 9 33 [l0, l1, some (.inl x2)] [] (Z, Rf, K, n, z) Q else sm_wp d 9 16 [l0, l1, some (.inl x2)] [] (Z, Rf, K, n, z) Q) := (w_iload_n t9_12 rfl rfl).trans (w_iflt t9_13 rfl rfl rfl)
set_option maxRecDepth 10000 in
theorem b9_16 {d : Nat} {r0 : Nat} {l1 : Option sm_V} {x2 : Int} {Z : Nat → Nat → Int} {Rf : Nat → Nat → Option Nat} {K : Nat → Nat × Nat} {n z : Nat} {Q : Option sm_V → sm_S → Prop} : sm_wp d 9 16 [some (.inr (some r0)), l1, some (.inl x2)] [] (Z, Rf, K, n, z) Q = ((K r0).1 = 1 ∧ (if wr (Z r0 1) ≤ wr x2 then sm_wp d 9 33 [some (.inr (some r0)), l1, some (.inl x2)] [] (Z, Rf, K, n, z) Q else sm_wp d 9 24 [some (.inr (some r0)), l1, some (.inl x2)] [] (Z, Rf, K, n, z) Q)) := (w_iload_n t9_16 rfl rfl).trans ((w_aload_n t9_17 rfl rfl).trans ((w_getI t9_18 rfl (by decide)).trans (congrArg (And _) (w_icge t9_21 rfl rfl rfl rfl))))
set_option maxRecDepth 10000 in
theorem b9_24 {d : Nat} {l0 : Option sm_V} {x1 : Int} {x2 : Int} {Z : Nat → Nat → Int} {Rf : Nat → Nat → Option Nat} {K : Nat → Nat × Nat} {n z : Nat} {Q : Option sm_V → sm_S → Prop} : sm_wp d 9 24 [l0, some (.inl x1), some (.inl x2)] [] (Z, Rf, K, n, z) Q = (sm_wp d 9 34 [l0, some (.inl x1), some (.inl x2)] [.inl ((x2 * 10) + x1)] (Z, Rf, K, n, z) Q) := (w_iload_n t9_24 rfl rfl).trans ((w_bipush t9_25 rfl).trans ((w_imul t9_27 rfl).trans ((w_iload_n t9_28 rfl rfl).trans ((w_iadd t9_29 rfl).trans (w_goto t9_30 rfl)))))
set_option maxRecDepth 10000 in
theorem b9_33 {d : Nat} {l0 : Option sm_V} {l1 : Option sm_V} {l2 : Option sm_V} {Z : Nat → Nat → Int} {Rf : Nat → Nat → Option Nat} {K : Nat → Nat × Nat} {n z : Nat} {Q : Option sm_V → sm_S → Prop} : sm_wp d 9 33 [l0, l1, l2] [] (Z, Rf, K, n, z) Q = (sm_wp d 9 34 [l0, l1, l2] [.inl ((-1))] (Z, Rf, K, n, z) Q) := w_iconst t9_33 rfl
set_option maxRecDepth 10000 in
theorem b9_34 {d : Nat} {l0 : Option sm_V} {l1 : Option sm_V} {l2 : Option sm_V} {s0 : Int} {Z : Nat → Nat → Int} {Rf : Nat → Nat → Option Nat} {K : Nat → Nat × Nat} {n z : Nat} {Q : Option sm_V → sm_S → Prop} : sm_wp d 9 34 [l0, l1, l2] [.inl s0] (Z, Rf, K, n, z) Q = (Q (some (.inl s0)) (Z, Rf, K, n, z)) := w_iret t9_34
theorem t10_0 : sm_at 10 0 = some (1, .iload_n 1, 0, 0, 0) := rfl
theorem t10_1 : sm_at 10 1 = some (3, .ifCond .lt 27, 0, 0, 0) := rfl
theorem t10_4 : sm_at 10 4 = some (1, .iload_n 1, 0, 0, 0) := rfl
theorem t10_5 : sm_at 10 5 = some (1, .aload_n 0, 0, 0, 0) := rfl
theorem t10_6 : sm_at 10 6 = some (3, .getfield 74, 1, 0, 0) := rfl
theorem t10_9 : sm_at 10 9 = some (3, .if_icmp .gt 19, 0, 0, 0) := rfl
theorem t10_12 : sm_at 10 12 = some (1, .iload_n 2, 0, 0, 0) := rfl
theorem t10_13 : sm_at 10 13 = some (3, .ifCond .lt 15, 0, 0, 0) := rfl
theorem t10_16 : sm_at 10 16 = some (1, .iload_n 2, 0, 0, 0) := rfl
theorem t10_17 : sm_at 10 17 = some (1, .aload_n 0, 0, 0, 0) := rfl
theorem t10_18 : sm_at 10 18 = some (3, .getfield 78, 1, 1, 0) := rfl
theorem t10_21 : sm_at 10 21 = some (3, .if_icmp .gt 7, 0, 0, 0) := rfl
theorem t10_24 : sm_at 10 24 = some (1, .iconst 1, 0, 0, 0) := rfl
theorem t10_25 : sm_at 10 25 = some (3, .goto 4, 0, 0, 0) := rfl
theorem t10_28 : sm_at 10 28 = some (1, .iconst 0, 0, 0, 0) := rfl
theorem t10_29 : sm_at 10 29 = some (1, .ireturn, 1, 0, 0) := rfl
set_option maxRecDepth 10000 in
theorem b10_0 {d : Nat} {l0 : Option sm_V} {x1 : Int} {l2 : Option sm_V} {Z : Nat → Nat → Int} {Rf : Nat → Nat → Option Nat} {K : Nat → Nat × Nat} {n z : Nat} {Q : Option sm_V → sm_S → Prop} : sm_wp d 10 0 [l0, some (.inl x1), l2] [] (Z, Rf, K, n, z) Q = (if wr x1 < 0 then sm_wp d 10 28 [l0, some (.inl x1), l2] [] (Z, Rf, K, n, z) Q else sm_wp d 10 4 [l0, some (.inl x1), l2] [] (Z, Rf, K, n, z) Q) := (w_iload_n t10_0 rfl rfl).trans (w_iflt t10_1 rfl rfl rfl)
set_option maxRecDepth 10000 in
theorem b10_4 {d : Nat} {r0 : Nat} {x1 : Int} {l2 : Option sm_V} {Z : Nat → Nat → Int} {Rf : Nat → Nat → Option Nat} {K : Nat → Nat × Nat} {n z : Nat} {Q : Option sm_V → sm_S → Prop} : sm_wp d 10 4 [some (.inr (some r0)), some (.inl x1), l2] [] (Z, Rf, K, n, z) Q = ((K r0).1 = 1 ∧ (if wr (Z r0 0) < wr x1 then sm_wp d 10 28 [some (.inr (some r0)), some (.inl x1), l2] [] (Z, Rf, K, n, z) Q else sm_wp d 10 12 [some (.inr (some r0)), some (.inl x1), l2] [] (Z, Rf, K, n, z) Q)) := (w_iload_n t10_4 rfl rfl).trans ((w_aload_n t10_5 rfl rfl).trans ((w_getI t10_6 rfl (by decide)).trans (congrArg (And _) (w_icgt t10_9 rfl rfl rfl rfl))))
set_option maxRecDepth 10000 in
theorem b10_12 {d : Nat} {l0 : Option sm_V} {l1 : Option sm_V} {x2 : Int} {Z : Nat → Nat → Int} {Rf : Nat → Nat → Option Nat} {K : Nat → Nat × Nat} {n z : Nat} {Q : Option sm_V → sm_S → Prop} : sm_wp d 10 12 [l0, l1, some (.inl x2)] [] (Z, Rf, K, n, z) Q = (if wr x2 < 0 then sm_wp d 10 28 [l0, l1, some (.inl x2)] [] (Z, Rf, K, n, z) Q else sm_wp d 10 16 [l0, l1, some (.inl x2)] [] (Z, Rf, K, n, z) Q) := (w_iload_n t10_12 rfl rfl).trans (w_iflt t10_13 rfl rfl rfl)
set_option maxRecDepth 10000 in
theorem b10_16 {d : Nat} {r0 : Nat} {l1 : Option sm_V} {x2 : Int} {Z : Nat → Nat → Int} {Rf : Nat → Nat → Option Nat} {K : Nat → Nat × Nat} {n z : Nat} {Q : Option sm_V → sm_S → Prop} : sm_wp d 10 16 [some (.inr (some r0)), l1, some (.inl x2)] [] (Z, Rf, K, n, z) Q = ((K r0).1 = 1 ∧ (if wr (Z r0 1) < wr x2 then sm_wp d 10 28 [some (.inr (some r0)), l1, some (.inl x2)] [] (Z, Rf, K, n, z) Q else sm_wp d 10 24 [some (.inr (some r0)), l1, some (.inl x2)] [] (Z, Rf, K, n, z) Q)) := (w_iload_n t10_16 rfl rfl).trans ((w_aload_n t10_17 rfl rfl).trans ((w_getI t10_18 rfl (by decide)).trans (congrArg (And _) (w_icgt t10_21 rfl rfl rfl rfl))))
set_option maxRecDepth 10000 in
theorem b10_24 {d : Nat} {l0 : Option sm_V} {l1 : Option sm_V} {l2 : Option sm_V} {Z : Nat → Nat → Int} {Rf : Nat → Nat → Option Nat} {K : Nat → Nat × Nat} {n z : Nat} {Q : Option sm_V → sm_S → Prop} : sm_wp d 10 24 [l0, l1, l2] [] (Z, Rf, K, n, z) Q = (sm_wp d 10 29 [l0, l1, l2] [.inl 1] (Z, Rf, K, n, z) Q) := (w_iconst t10_24 rfl).trans (w_goto t10_25 rfl)
set_option maxRecDepth 10000 in
theorem b10_28 {d : Nat} {l0 : Option sm_V} {l1 : Option sm_V} {l2 : Option sm_V} {Z : Nat → Nat → Int} {Rf : Nat → Nat → Option Nat} {K : Nat → Nat × Nat} {n z : Nat} {Q : Option sm_V → sm_S → Prop} : sm_wp d 10 28 [l0, l1, l2] [] (Z, Rf, K, n, z) Q = (sm_wp d 10 29 [l0, l1, l2] [.inl 0] (Z, Rf, K, n, z) Q) := w_iconst t10_28 rfl
set_option maxRecDepth 10000 in
theorem b10_29 {d : Nat} {l0 : Option sm_V} {l1 : Option sm_V} {l2 : Option sm_V} {s0 : Int} {Z : Nat → Nat → Int} {Rf : Nat → Nat → Option Nat} {K : Nat → Nat × Nat} {n z : Nat} {Q : Option sm_V → sm_S → Prop} : sm_wp d 10 29 [l0, l1, l2] [.inl s0] (Z, Rf, K, n, z) Q = ((wr s0 = 0 ∨ wr s0 = 1) ∧ Q (some (.inl s0)) (Z, Rf, K, n, z)) := w_zret t10_29 rfl
theorem t11_0 : sm_at 11 0 = some (1, .iload_n 3, 0, 0, 0) := rfl
theorem t11_1 : sm_at 11 1 = some (3, .ifCond .lt 32, 0, 0, 0) := rfl
theorem t11_4 : sm_at 11 4 = some (1, .iload_n 3, 0, 0, 0) := rfl
theorem t11_5 : sm_at 11 5 = some (1, .iconst 3, 0, 0, 0) := rfl
theorem t11_6 : sm_at 11 6 = some (3, .if_icmp .gt 27, 0, 0, 0) := rfl
theorem t11_9 : sm_at 11 9 = some (1, .iload_n 1, 0, 0, 0) := rfl
theorem t11_10 : sm_at 11 10 = some (3, .ifCond .lt 23, 0, 0, 0) := rfl
theorem t11_13 : sm_at 11 13 = some (1, .iload_n 1, 0, 0, 0) := rfl
theorem t11_14 : sm_at 11 14 = some (1, .aload_n 0, 0, 0, 0) := rfl
theorem t11_15 : sm_at 11 15 = some (3, .getfield 74, 1, 0, 0) := rfl
theorem t11_18 : sm_at 11 18 = some (3, .if_icmp .gt 15, 0, 0, 0) := rfl
theorem t11_21 : sm_at 11 21 = some (1, .iload_n 2, 0, 0, 0) := rfl
theorem t11_22 : sm_at 11 22 = some (3, .ifCond .lt 11, 0, 0, 0) := rfl
theorem t11_25 : sm_at 11 25 = some (1, .iload_n 2, 0, 0, 0) := rfl
theorem t11_26 : sm_at 11 26 = some (1, .aload_n 0, 0, 0, 0) := rfl
theorem t11_27 : sm_at 11 27 = some (3, .getfield 78, 1, 1, 0) := rfl
theorem t11_30 : sm_at 11 30 = some (3, .if_icmp .le 5, 0, 0, 0) := rfl
theorem t11_33 : sm_at 11 33 = some (1, .iconst (-1), 0, 0, 0) := rfl
theorem t11_34 : sm_at 11 34 = some (1, .ireturn, 0, 0, 0) := rfl
theorem t11_35 : sm_at 11 35 = some (1, .iload_n 1, 0, 0, 0) := rfl
theorem t11_36 : sm_at 11 36 = some (3, .getstatic 112, 1, 1000000, 0) := rfl
theorem t11_39 : sm_at 11 39 = some (1, .iload_n 3, 0, 0, 0) := rfl
theorem t11_40 : sm_at 11 40 = some (1, .iaload, 0, 0, 0) := rfl
theorem t11_41 : sm_at 11 41 = some (1, .iadd, 0, 0, 0) := rfl
theorem t11_42 : sm_at 11 42 = some (2, .istore 4, 0, 0, 0) := rfl
theorem t11_44 : sm_at 11 44 = some (1, .iload_n 2, 0, 0, 0) := rfl
theorem t11_45 : sm_at 11 45 = some (3, .getstatic 115, 1, 1000001, 0) := rfl
theorem t11_48 : sm_at 11 48 = some (1, .iload_n 3, 0, 0, 0) := rfl
theorem t11_49 : sm_at 11 49 = some (1, .iaload, 0, 0, 0) := rfl
theorem t11_50 : sm_at 11 50 = some (1, .iadd, 0, 0, 0) := rfl
theorem t11_51 : sm_at 11 51 = some (2, .istore 5, 0, 0, 0) := rfl
theorem t11_53 : sm_at 11 53 = some (2, .iload 4, 0, 0, 0) := rfl
theorem t11_55 : sm_at 11 55 = some (3, .ifCond .lt 26, 0, 0, 0) := rfl
theorem t11_58 : sm_at 11 58 = some (2, .iload 4, 0, 0, 0) := rfl
theorem t11_60 : sm_at 11 60 = some (1, .aload_n 0, 0, 0, 0) := rfl
theorem t11_61 : sm_at 11 61 = some (3, .getfield 74, 1, 0, 0) := rfl
theorem t11_64 : sm_at 11 64 = some (3, .if_icmp .gt 17, 0, 0, 0) := rfl
theorem t11_67 : sm_at 11 67 = some (2, .iload 5, 0, 0, 0) := rfl
theorem t11_69 : sm_at 11 69 = some (3, .ifCond .lt 12, 0, 0, 0) := rfl
theorem t11_72 : sm_at 11 72 = some (2, .iload 5, 0, 0, 0) := rfl
theorem t11_74 : sm_at 11 74 = some (1, .aload_n 0, 0, 0, 0) := rfl
theorem t11_75 : sm_at 11 75 = some (3, .getfield 78, 1, 1, 0) := rfl
theorem t11_78 : sm_at 11 78 = some (3, .if_icmp .le 5, 0, 0, 0) := rfl
theorem t11_81 : sm_at 11 81 = some (1, .iconst (-1), 0, 0, 0) := rfl
theorem t11_82 : sm_at 11 82 = some (1, .ireturn, 0, 0, 0) := rfl
theorem t11_83 : sm_at 11 83 = some (2, .iload 4, 0, 0, 0) := rfl
theorem t11_85 : sm_at 11 85 = some (1, .iload_n 1, 0, 0, 0) := rfl
theorem t11_86 : sm_at 11 86 = some (3, .if_icmp .ge 8, 0, 0, 0) := rfl
theorem t11_89 : sm_at 11 89 = some (2, .iload 4, 0, 0, 0) := rfl
theorem t11_91 : sm_at 11 91 = some (3, .goto 4, 0, 0, 0) := rfl
theorem t11_94 : sm_at 11 94 = some (1, .iload_n 1, 0, 0, 0) := rfl
theorem t11_95 : sm_at 11 95 = some (2, .istore 6, 0, 0, 0) := rfl
theorem t11_97 : sm_at 11 97 = some (2, .iload 5, 0, 0, 0) := rfl
theorem t11_99 : sm_at 11 99 = some (1, .iload_n 2, 0, 0, 0) := rfl
theorem t11_100 : sm_at 11 100 = some (3, .if_icmp .ge 8, 0, 0, 0) := rfl
theorem t11_103 : sm_at 11 103 = some (2, .iload 5, 0, 0, 0) := rfl
theorem t11_105 : sm_at 11 105 = some (3, .goto 4, 0, 0, 0) := rfl
theorem t11_108 : sm_at 11 108 = some (1, .iload_n 2, 0, 0, 0) := rfl
theorem t11_109 : sm_at 11 109 = some (2, .istore 7, 0, 0, 0) := rfl
theorem t11_111 : sm_at 11 111 = some (2, .iload 7, 0, 0, 0) := rfl
set_option maxRecDepth 100000 in
theorem t11_113 : sm_at 11 113 = some (2, .bipush 11, 0, 0, 0) := rfl
set_option maxRecDepth 100000 in
theorem t11_115 : sm_at 11 115 = some (1, .imul, 0, 0, 0) := rfl
set_option maxRecDepth 100000 in
theorem t11_116 : sm_at 11 116 = some (2, .iload 6, 0, 0, 0) := rfl
set_option maxRecDepth 100000 in
theorem t11_118 : sm_at 11 118 = some (1, .iadd, 0, 0, 0) := rfl
set_option maxRecDepth 100000 in
theorem t11_119 : sm_at 11 119 = some (1, .iconst 2, 0, 0, 0) := rfl
set_option maxRecDepth 100000 in
theorem t11_120 : sm_at 11 120 = some (1, .imul, 0, 0, 0) := rfl
set_option maxRecDepth 100000 in
theorem t11_121 : sm_at 11 121 = some (2, .iload 4, 0, 0, 0) := rfl
set_option maxRecDepth 100000 in
theorem t11_123 : sm_at 11 123 = some (1, .iload_n 1, 0, 0, 0) := rfl
set_option maxRecDepth 100000 in
theorem t11_124 : sm_at 11 124 = some (3, .if_icmp .ne 7, 0, 0, 0) := rfl
set_option maxRecDepth 100000 in
theorem t11_127 : sm_at 11 127 = some (1, .iconst 1, 0, 0, 0) := rfl
set_option maxRecDepth 100000 in
theorem t11_128 : sm_at 11 128 = some (3, .goto 4, 0, 0, 0) := rfl
set_option maxRecDepth 100000 in
theorem t11_131 : sm_at 11 131 = some (1, .iconst 0, 0, 0, 0) := rfl
set_option maxRecDepth 100000 in
theorem t11_132 : sm_at 11 132 = some (1, .iadd, 0, 0, 0) := rfl
set_option maxRecDepth 100000 in
theorem t11_133 : sm_at 11 133 = some (1, .ireturn, 0, 0, 0) := rfl
set_option maxRecDepth 10000 in
theorem b11_0 {d : Nat} {l0 : Option sm_V} {l1 : Option sm_V} {l2 : Option sm_V} {x3 : Int} {l4 : Option sm_V} {l5 : Option sm_V} {l6 : Option sm_V} {l7 : Option sm_V} {Z : Nat → Nat → Int} {Rf : Nat → Nat → Option Nat} {K : Nat → Nat × Nat} {n z : Nat} {Q : Option sm_V → sm_S → Prop} : sm_wp d 11 0 [l0, l1, l2, some (.inl x3), l4, l5, l6, l7] [] (Z, Rf, K, n, z) Q = (if wr x3 < 0 then sm_wp d 11 33 [l0, l1, l2, some (.inl x3), l4, l5, l6, l7] [] (Z, Rf, K, n, z) Q else sm_wp d 11 4 [l0, l1, l2, some (.inl x3), l4, l5, l6, l7] [] (Z, Rf, K, n, z) Q) := (w_iload_n t11_0 rfl rfl).trans (w_iflt t11_1 rfl rfl rfl)
set_option maxRecDepth 10000 in
theorem b11_4 {d : Nat} {l0 : Option sm_V} {l1 : Option sm_V} {l2 : Option sm_V} {x3 : Int} {l4 : Option sm_V} {l5 : Option sm_V} {l6 : Option sm_V} {l7 : Option sm_V} {Z : Nat → Nat → Int} {Rf : Nat → Nat → Option Nat} {K : Nat → Nat × Nat} {n z : Nat} {Q : Option sm_V → sm_S → Prop} : sm_wp d 11 4 [l0, l1, l2, some (.inl x3), l4, l5, l6, l7] [] (Z, Rf, K, n, z) Q = (if (3 : Int) < wr x3 then sm_wp d 11 33 [l0, l1, l2, some (.inl x3), l4, l5, l6, l7] [] (Z, Rf, K, n, z) Q else sm_wp d 11 9 [l0, l1, l2, some (.inl x3), l4, l5, l6, l7] [] (Z, Rf, K, n, z) Q) := (w_iload_n t11_4 rfl rfl).trans ((w_iconst t11_5 rfl).trans (w_icgt t11_6 rfl wl_3 rfl rfl))
set_option maxRecDepth 10000 in
theorem b11_9 {d : Nat} {l0 : Option sm_V} {x1 : Int} {l2 : Option sm_V} {l3 : Option sm_V} {l4 : Option sm_V} {l5 : Option sm_V} {l6 : Option sm_V} {l7 : Option sm_V} {Z : Nat → Nat → Int} {Rf : Nat → Nat → Option Nat} {K : Nat → Nat × Nat} {n z : Nat} {Q : Option sm_V → sm_S → Prop} : sm_wp d 11 9 [l0, some (.inl x1), l2, l3, l4, l5, l6, l7] [] (Z, Rf, K, n, z) Q = (if wr x1 < 0 then sm_wp d 11 33 [l0, some (.inl x1), l2, l3, l4, l5, l6, l7] [] (Z, Rf, K, n, z) Q else sm_wp d 11 13 [l0, some (.inl x1), l2, l3, l4, l5, l6, l7] [] (Z, Rf, K, n, z) Q) := (w_iload_n t11_9 rfl rfl).trans (w_iflt t11_10 rfl rfl rfl)
set_option maxRecDepth 10000 in
theorem b11_13 {d : Nat} {r0 : Nat} {x1 : Int} {l2 : Option sm_V} {l3 : Option sm_V} {l4 : Option sm_V} {l5 : Option sm_V} {l6 : Option sm_V} {l7 : Option sm_V} {Z : Nat → Nat → Int} {Rf : Nat → Nat → Option Nat} {K : Nat → Nat × Nat} {n z : Nat} {Q : Option sm_V → sm_S → Prop} : sm_wp d 11 13 [some (.inr (some r0)), some (.inl x1), l2, l3, l4, l5, l6, l7] [] (Z, Rf, K, n, z) Q = ((K r0).1 = 1 ∧ (if wr (Z r0 0) < wr x1 then sm_wp d 11 33 [some (.inr (some r0)), some (.inl x1), l2, l3, l4, l5, l6, l7] [] (Z, Rf, K, n, z) Q else sm_wp d 11 21 [some (.inr (some r0)), some (.inl x1), l2, l3, l4, l5, l6, l7] [] (Z, Rf, K, n, z) Q)) := (w_iload_n t11_13 rfl rfl).trans ((w_aload_n t11_14 rfl rfl).trans ((w_getI t11_15 rfl (by decide)).trans (congrArg (And _) (w_icgt t11_18 rfl rfl rfl rfl))))
set_option maxRecDepth 10000 in
theorem b11_21 {d : Nat} {l0 : Option sm_V} {l1 : Option sm_V} {x2 : Int} {l3 : Option sm_V} {l4 : Option sm_V} {l5 : Option sm_V} {l6 : Option sm_V} {l7 : Option sm_V} {Z : Nat → Nat → Int} {Rf : Nat → Nat → Option Nat} {K : Nat → Nat × Nat} {n z : Nat} {Q : Option sm_V → sm_S → Prop} : sm_wp d 11 21 [l0, l1, some (.inl x2), l3, l4, l5, l6, l7] [] (Z, Rf, K, n, z) Q = (if wr x2 < 0 then sm_wp d 11 33 [l0, l1, some (.inl x2), l3, l4, l5, l6, l7] [] (Z, Rf, K, n, z) Q else sm_wp d 11 25 [l0, l1, some (.inl x2), l3, l4, l5, l6, l7] [] (Z, Rf, K, n, z) Q) := (w_iload_n t11_21 rfl rfl).trans (w_iflt t11_22 rfl rfl rfl)
set_option maxRecDepth 10000 in
theorem b11_25 {d : Nat} {r0 : Nat} {l1 : Option sm_V} {x2 : Int} {l3 : Option sm_V} {l4 : Option sm_V} {l5 : Option sm_V} {l6 : Option sm_V} {l7 : Option sm_V} {Z : Nat → Nat → Int} {Rf : Nat → Nat → Option Nat} {K : Nat → Nat × Nat} {n z : Nat} {Q : Option sm_V → sm_S → Prop} : sm_wp d 11 25 [some (.inr (some r0)), l1, some (.inl x2), l3, l4, l5, l6, l7] [] (Z, Rf, K, n, z) Q = ((K r0).1 = 1 ∧ (if wr x2 ≤ wr (Z r0 1) then sm_wp d 11 35 [some (.inr (some r0)), l1, some (.inl x2), l3, l4, l5, l6, l7] [] (Z, Rf, K, n, z) Q else sm_wp d 11 33 [some (.inr (some r0)), l1, some (.inl x2), l3, l4, l5, l6, l7] [] (Z, Rf, K, n, z) Q)) := (w_iload_n t11_25 rfl rfl).trans ((w_aload_n t11_26 rfl rfl).trans ((w_getI t11_27 rfl (by decide)).trans (congrArg (And _) (w_icle t11_30 rfl rfl rfl rfl))))
set_option maxRecDepth 10000 in
theorem b11_33 {d : Nat} {l0 : Option sm_V} {l1 : Option sm_V} {l2 : Option sm_V} {l3 : Option sm_V} {l4 : Option sm_V} {l5 : Option sm_V} {l6 : Option sm_V} {l7 : Option sm_V} {Z : Nat → Nat → Int} {Rf : Nat → Nat → Option Nat} {K : Nat → Nat × Nat} {n z : Nat} {Q : Option sm_V → sm_S → Prop} : sm_wp d 11 33 [l0, l1, l2, l3, l4, l5, l6, l7] [] (Z, Rf, K, n, z) Q = (Q (some (.inl ((-1)))) (Z, Rf, K, n, z)) := (w_iconst t11_33 rfl).trans (w_iret t11_34)
set_option maxRecDepth 10000 in
theorem b11_35 {d : Nat} {l0 : Option sm_V} {x1 : Int} {x2 : Int} {x3 : Int} {l4 : Option sm_V} {l5 : Option sm_V} {l6 : Option sm_V} {l7 : Option sm_V} {Z : Nat → Nat → Int} {Rf : Nat → Nat → Option Nat} {K : Nat → Nat × Nat} {n z : Nat} {Q : Option sm_V → sm_S → Prop} : sm_wp d 11 35 [l0, some (.inl x1), some (.inl x2), some (.inl x3), l4, l5, l6, l7] [] (Z, Rf, K, n, z) Q = (sm_rd (K 1000000) (wr x3) ∧ sm_rd (K 1000001) (wr x3) ∧ (if wr (x1 + (Z 1000000 ((wr x3).toNat))) < 0 then sm_wp d 11 81 [l0, some (.inl x1), some (.inl x2), some (.inl x3), some (.inl (x1 + (Z 1000000 ((wr x3).toNat)))), some (.inl (x2 + (Z 1000001 ((wr x3).toNat)))), l6, l7] [] (Z, Rf, K, n, z) Q else sm_wp d 11 58 [l0, some (.inl x1), some (.inl x2), some (.inl x3), some (.inl (x1 + (Z 1000000 ((wr x3).toNat)))), some (.inl (x2 + (Z 1000001 ((wr x3).toNat)))), l6, l7] [] (Z, Rf, K, n, z) Q)) := (w_iload_n t11_35 rfl rfl).trans ((w_gs1 t11_36 rfl).trans ((w_iload_n t11_39 rfl rfl).trans ((w_iald t11_40 rfl rfl).trans (congrArg (And _) ((w_iadd t11_41 rfl).trans ((w_istore t11_42 rfl (Nat.le_of_ble_eq_true rfl) rfl).trans ((w_iload_n t11_44 rfl rfl).trans ((w_gs1 t11_45 rfl).trans ((w_iload_n t11_48 rfl rfl).trans ((w_iald t11_49 rfl rfl).trans (congrArg (And _) ((w_iadd t11_50 rfl).trans ((w_istore t11_51 rfl (Nat.le_of_ble_eq_true rfl) rfl).trans ((w_iload t11_53 rfl rfl).trans (w_iflt t11_55 rfl rfl rfl)))))))))))))))
set_option maxRecDepth 10000 in
theorem b11_58 {d : Nat} {r0 : Nat} {l1 : Option sm_V} {l2 : Option sm_V} {l3 : Option sm_V} {x4 : Int} {l5 : Option sm_V} {l6 : Option sm_V} {l7 : Option sm_V} {Z : Nat → Nat → Int} {Rf : Nat → Nat → Option Nat} {K : Nat → Nat × Nat} {n z : Nat} {Q : Option sm_V → sm_S → Prop} : sm_wp d 11 58 [some (.inr (some r0)), l1, l2, l3, some (.inl x4), l5, l6, l7] [] (Z, Rf, K, n, z) Q = ((K r0).1 = 1 ∧ (if wr (Z r0 0) < wr x4 then sm_wp d 11 81 [some (.inr (some r0)), l1, l2, l3, some (.inl x4), l5, l6, l7] [] (Z, Rf, K, n, z) Q else sm_wp d 11 67 [some (.inr (some r0)), l1, l2, l3, some (.inl x4), l5, l6, l7] [] (Z, Rf, K, n, z) Q)) := (w_iload t11_58 rfl rfl).trans ((w_aload_n t11_60 rfl rfl).trans ((w_getI t11_61 rfl (by decide)).trans (congrArg (And _) (w_icgt t11_64 rfl rfl rfl rfl))))
set_option maxRecDepth 10000 in
theorem b11_67 {d : Nat} {l0 : Option sm_V} {l1 : Option sm_V} {l2 : Option sm_V} {l3 : Option sm_V} {l4 : Option sm_V} {x5 : Int} {l6 : Option sm_V} {l7 : Option sm_V} {Z : Nat → Nat → Int} {Rf : Nat → Nat → Option Nat} {K : Nat → Nat × Nat} {n z : Nat} {Q : Option sm_V → sm_S → Prop} : sm_wp d 11 67 [l0, l1, l2, l3, l4, some (.inl x5), l6, l7] [] (Z, Rf, K, n, z) Q = (if wr x5 < 0 then sm_wp d 11 81 [l0, l1, l2, l3, l4, some (.inl x5), l6, l7] [] (Z, Rf, K, n, z) Q else sm_wp d 11 72 [l0, l1, l2, l3, l4, some (.inl x5), l6, l7] [] (Z, Rf, K, n, z) Q) := (w_iload t11_67 rfl rfl).trans (w_iflt t11_69 rfl rfl rfl)
set_option maxRecDepth 10000 in
theorem b11_72 {d : Nat} {r0 : Nat} {l1 : Option sm_V} {l2 : Option sm_V} {l3 : Option sm_V} {l4 : Option sm_V} {x5 : Int} {l6 : Option sm_V} {l7 : Option sm_V} {Z : Nat → Nat → Int} {Rf : Nat → Nat → Option Nat} {K : Nat → Nat × Nat} {n z : Nat} {Q : Option sm_V → sm_S → Prop} : sm_wp d 11 72 [some (.inr (some r0)), l1, l2, l3, l4, some (.inl x5), l6, l7] [] (Z, Rf, K, n, z) Q = ((K r0).1 = 1 ∧ (if wr x5 ≤ wr (Z r0 1) then sm_wp d 11 83 [some (.inr (some r0)), l1, l2, l3, l4, some (.inl x5), l6, l7] [] (Z, Rf, K, n, z) Q else sm_wp d 11 81 [some (.inr (some r0)), l1, l2, l3, l4, some (.inl x5), l6, l7] [] (Z, Rf, K, n, z) Q)) := (w_iload t11_72 rfl rfl).trans ((w_aload_n t11_74 rfl rfl).trans ((w_getI t11_75 rfl (by decide)).trans (congrArg (And _) (w_icle t11_78 rfl rfl rfl rfl))))
set_option maxRecDepth 10000 in
theorem b11_81 {d : Nat} {l0 : Option sm_V} {l1 : Option sm_V} {l2 : Option sm_V} {l3 : Option sm_V} {l4 : Option sm_V} {l5 : Option sm_V} {l6 : Option sm_V} {l7 : Option sm_V} {Z : Nat → Nat → Int} {Rf : Nat → Nat → Option Nat} {K : Nat → Nat × Nat} {n z : Nat} {Q : Option sm_V → sm_S → Prop} : sm_wp d 11 81 [l0, l1, l2, l3, l4, l5, l6, l7] [] (Z, Rf, K, n, z) Q = (Q (some (.inl ((-1)))) (Z, Rf, K, n, z)) := (w_iconst t11_81 rfl).trans (w_iret t11_82)
set_option maxRecDepth 10000 in
theorem b11_83 {d : Nat} {l0 : Option sm_V} {x1 : Int} {l2 : Option sm_V} {l3 : Option sm_V} {x4 : Int} {l5 : Option sm_V} {l6 : Option sm_V} {l7 : Option sm_V} {Z : Nat → Nat → Int} {Rf : Nat → Nat → Option Nat} {K : Nat → Nat × Nat} {n z : Nat} {Q : Option sm_V → sm_S → Prop} : sm_wp d 11 83 [l0, some (.inl x1), l2, l3, some (.inl x4), l5, l6, l7] [] (Z, Rf, K, n, z) Q = (if wr x1 ≤ wr x4 then sm_wp d 11 94 [l0, some (.inl x1), l2, l3, some (.inl x4), l5, l6, l7] [] (Z, Rf, K, n, z) Q else sm_wp d 11 89 [l0, some (.inl x1), l2, l3, some (.inl x4), l5, l6, l7] [] (Z, Rf, K, n, z) Q) := (w_iload t11_83 rfl rfl).trans ((w_iload_n t11_85 rfl rfl).trans (w_icge t11_86 rfl rfl rfl rfl))
set_option maxRecDepth 10000 in
theorem b11_89 {d : Nat} {l0 : Option sm_V} {l1 : Option sm_V} {l2 : Option sm_V} {l3 : Option sm_V} {x4 : Int} {l5 : Option sm_V} {l6 : Option sm_V} {l7 : Option sm_V} {Z : Nat → Nat → Int} {Rf : Nat → Nat → Option Nat} {K : Nat → Nat × Nat} {n z : Nat} {Q : Option sm_V → sm_S → Prop} : sm_wp d 11 89 [l0, l1, l2, l3, some (.inl x4), l5, l6, l7] [] (Z, Rf, K, n, z) Q = (sm_wp d 11 95 [l0, l1, l2, l3, some (.inl x4), l5, l6, l7] [.inl x4] (Z, Rf, K, n, z) Q) := (w_iload t11_89 rfl rfl).trans (w_goto t11_91 rfl)
set_option maxRecDepth 10000 in
theorem b11_94 {d : Nat} {l0 : Option sm_V} {x1 : Int} {l2 : Option sm_V} {l3 : Option sm_V} {l4 : Option sm_V} {l5 : Option sm_V} {l6 : Option sm_V} {l7 : Option sm_V} {Z : Nat → Nat → Int} {Rf : Nat → Nat → Option Nat} {K : Nat → Nat × Nat} {n z : Nat} {Q : Option sm_V → sm_S → Prop} : sm_wp d 11 94 [l0, some (.inl x1), l2, l3, l4, l5, l6, l7] [] (Z, Rf, K, n, z) Q = (sm_wp d 11 95 [l0, some (.inl x1), l2, l3, l4, l5, l6, l7] [.inl x1] (Z, Rf, K, n, z) Q) := w_iload_n t11_94 rfl rfl
set_option maxRecDepth 10000 in
theorem b11_95 {d : Nat} {l0 : Option sm_V} {l1 : Option sm_V} {x2 : Int} {l3 : Option sm_V} {l4 : Option sm_V} {x5 : Int} {l6 : Option sm_V} {l7 : Option sm_V} {s0 : Int} {Z : Nat → Nat → Int} {Rf : Nat → Nat → Option Nat} {K : Nat → Nat × Nat} {n z : Nat} {Q : Option sm_V → sm_S → Prop} : sm_wp d 11 95 [l0, l1, some (.inl x2), l3, l4, some (.inl x5), l6, l7] [.inl s0] (Z, Rf, K, n, z) Q = (if wr x2 ≤ wr x5 then sm_wp d 11 108 [l0, l1, some (.inl x2), l3, l4, some (.inl x5), some (.inl s0), l7] [] (Z, Rf, K, n, z) Q else sm_wp d 11 103 [l0, l1, some (.inl x2), l3, l4, some (.inl x5), some (.inl s0), l7] [] (Z, Rf, K, n, z) Q) := (w_istore t11_95 rfl (Nat.le_of_ble_eq_true rfl) rfl).trans ((w_iload t11_97 rfl rfl).trans ((w_iload_n t11_99 rfl rfl).trans (w_icge t11_100 rfl rfl rfl rfl)))
set_option maxRecDepth 10000 in
theorem b11_103 {d : Nat} {l0 : Option sm_V} {l1 : Option sm_V} {l2 : Option sm_V} {l3 : Option sm_V} {l4 : Option sm_V} {x5 : Int} {l6 : Option sm_V} {l7 : Option sm_V} {Z : Nat → Nat → Int} {Rf : Nat → Nat → Option Nat} {K : Nat → Nat × Nat} {n z : Nat} {Q : Option sm_V → sm_S → Prop} : sm_wp d 11 103 [l0, l1, l2, l3, l4, some (.inl x5), l6, l7] [] (Z, Rf, K, n, z) Q = (sm_wp d 11 109 [l0, l1, l2, l3, l4, some (.inl x5), l6, l7] [.inl x5] (Z, Rf, K, n, z) Q) := (w_iload t11_103 rfl rfl).trans (w_goto t11_105 rfl)
set_option maxRecDepth 10000 in
theorem b11_108 {d : Nat} {l0 : Option sm_V} {l1 : Option sm_V} {x2 : Int} {l3 : Option sm_V} {l4 : Option sm_V} {l5 : Option sm_V} {l6 : Option sm_V} {l7 : Option sm_V} {Z : Nat → Nat → Int} {Rf : Nat → Nat → Option Nat} {K : Nat → Nat × Nat} {n z : Nat} {Q : Option sm_V → sm_S → Prop} : sm_wp d 11 108 [l0, l1, some (.inl x2), l3, l4, l5, l6, l7] [] (Z, Rf, K, n, z) Q = (sm_wp d 11 109 [l0, l1, some (.inl x2), l3, l4, l5, l6, l7] [.inl x2] (Z, Rf, K, n, z) Q) := w_iload_n t11_108 rfl rfl
set_option maxRecDepth 10000 in
theorem b11_109 {d : Nat} {l0 : Option sm_V} {x1 : Int} {l2 : Option sm_V} {l3 : Option sm_V} {x4 : Int} {l5 : Option sm_V} {x6 : Int} {l7 : Option sm_V} {s0 : Int} {Z : Nat → Nat → Int} {Rf : Nat → Nat → Option Nat} {K : Nat → Nat × Nat} {n z : Nat} {Q : Option sm_V → sm_S → Prop} : sm_wp d 11 109 [l0, some (.inl x1), l2, l3, some (.inl x4), l5, some (.inl x6), l7] [.inl s0] (Z, Rf, K, n, z) Q = (if wr x4 = wr x1 then sm_wp d 11 127 [l0, some (.inl x1), l2, l3, some (.inl x4), l5, some (.inl x6), some (.inl s0)] [.inl (((s0 * 11) + x6) * 2)] (Z, Rf, K, n, z) Q else sm_wp d 11 131 [l0, some (.inl x1), l2, l3, some (.inl x4), l5, some (.inl x6), some (.inl s0)] [.inl (((s0 * 11) + x6) * 2)] (Z, Rf, K, n, z) Q) := (w_istore t11_109 rfl (Nat.le_of_ble_eq_true rfl) rfl).trans ((w_iload t11_111 rfl rfl).trans ((w_bipush t11_113 rfl).trans ((w_imul t11_115 rfl).trans ((w_iload t11_116 rfl rfl).trans ((w_iadd t11_118 rfl).trans ((w_iconst t11_119 rfl).trans ((w_imul t11_120 rfl).trans ((w_iload t11_121 rfl rfl).trans ((w_iload_n t11_123 rfl rfl).trans (w_icne t11_124 rfl rfl rfl rfl))))))))))
set_option maxRecDepth 10000 in
theorem b11_127 {d : Nat} {l0 : Option sm_V} {l1 : Option sm_V} {l2 : Option sm_V} {l3 : Option sm_V} {l4 : Option sm_V} {l5 : Option sm_V} {l6 : Option sm_V} {l7 : Option sm_V} {s0 : Int} {Z : Nat → Nat → Int} {Rf : Nat → Nat → Option Nat} {K : Nat → Nat × Nat} {n z : Nat} {Q : Option sm_V → sm_S → Prop} : sm_wp d 11 127 [l0, l1, l2, l3, l4, l5, l6, l7] [.inl s0] (Z, Rf, K, n, z) Q = (sm_wp d 11 132 [l0, l1, l2, l3, l4, l5, l6, l7] [.inl 1, .inl s0] (Z, Rf, K, n, z) Q) := (w_iconst t11_127 rfl).trans (w_goto t11_128 rfl)
set_option maxRecDepth 10000 in
theorem b11_131 {d : Nat} {l0 : Option sm_V} {l1 : Option sm_V} {l2 : Option sm_V} {l3 : Option sm_V} {l4 : Option sm_V} {l5 : Option sm_V} {l6 : Option sm_V} {l7 : Option sm_V} {s0 : Int} {Z : Nat → Nat → Int} {Rf : Nat → Nat → Option Nat} {K : Nat → Nat × Nat} {n z : Nat} {Q : Option sm_V → sm_S → Prop} : sm_wp d 11 131 [l0, l1, l2, l3, l4, l5, l6, l7] [.inl s0] (Z, Rf, K, n, z) Q = (sm_wp d 11 132 [l0, l1, l2, l3, l4, l5, l6, l7] [.inl 0, .inl s0] (Z, Rf, K, n, z) Q) := w_iconst t11_131 rfl
set_option maxRecDepth 10000 in
theorem b11_132 {d : Nat} {l0 : Option sm_V} {l1 : Option sm_V} {l2 : Option sm_V} {l3 : Option sm_V} {l4 : Option sm_V} {l5 : Option sm_V} {l6 : Option sm_V} {l7 : Option sm_V} {s0 : Int} {s1 : Int} {Z : Nat → Nat → Int} {Rf : Nat → Nat → Option Nat} {K : Nat → Nat × Nat} {n z : Nat} {Q : Option sm_V → sm_S → Prop} : sm_wp d 11 132 [l0, l1, l2, l3, l4, l5, l6, l7] [.inl s1, .inl s0] (Z, Rf, K, n, z) Q = (Q (some (.inl (s0 + s1))) (Z, Rf, K, n, z)) := (w_iadd t11_132 rfl).trans (w_iret t11_133)
theorem t12_0 : sm_at 12 0 = some (1, .iload_n 3, 0, 0, 0) := rfl
theorem t12_1 : sm_at 12 1 = some (27, .tableswitch 55 0 2 #[27, 35, 45], 0, 0, 0) := rfl
theorem t12_28 : sm_at 12 28 = some (1, .aload_n 0, 0, 0, 0) := rfl
theorem t12_29 : sm_at 12 29 = some (1, .iload_n 1, 0, 0, 0) := rfl
theorem t12_30 : sm_at 12 30 = some (1, .iload_n 2, 0, 0, 0) := rfl
theorem t12_31 : sm_at 12 31 = some (1, .iconst 1, 0, 0, 0) := rfl
theorem t12_32 : sm_at 12 32 = some (3, .invokevirtual 118, 11, 4, 0) := rfl
theorem t12_35 : sm_at 12 35 = some (1, .ireturn, 0, 0, 0) := rfl
theorem t12_36 : sm_at 12 36 = some (1, .aload_n 0, 0, 0, 0) := rfl
theorem t12_37 : sm_at 12 37 = some (1, .iload_n 1, 0, 0, 0) := rfl
theorem t12_38 : sm_at 12 38 = some (1, .iconst 1, 0, 0, 0) := rfl
theorem t12_39 : sm_at 12 39 = some (1, .iadd, 0, 0, 0) := rfl
theorem t12_40 : sm_at 12 40 = some (1, .iload_n 2, 0, 0, 0) := rfl
theorem t12_41 : sm_at 12 41 = some (1, .iconst 2, 0, 0, 0) := rfl
theorem t12_42 : sm_at 12 42 = some (3, .invokevirtual 118, 11, 4, 0) := rfl
theorem t12_45 : sm_at 12 45 = some (1, .ireturn, 0, 0, 0) := rfl
theorem t12_46 : sm_at 12 46 = some (1, .aload_n 0, 0, 0, 0) := rfl
theorem t12_47 : sm_at 12 47 = some (1, .iload_n 1, 0, 0, 0) := rfl
theorem t12_48 : sm_at 12 48 = some (1, .iload_n 2, 0, 0, 0) := rfl
theorem t12_49 : sm_at 12 49 = some (1, .iconst 1, 0, 0, 0) := rfl
theorem t12_50 : sm_at 12 50 = some (1, .iadd, 0, 0, 0) := rfl
theorem t12_51 : sm_at 12 51 = some (1, .iconst 1, 0, 0, 0) := rfl
theorem t12_52 : sm_at 12 52 = some (3, .invokevirtual 118, 11, 4, 0) := rfl
theorem t12_55 : sm_at 12 55 = some (1, .ireturn, 0, 0, 0) := rfl
theorem t12_56 : sm_at 12 56 = some (1, .aload_n 0, 0, 0, 0) := rfl
theorem t12_57 : sm_at 12 57 = some (1, .iload_n 1, 0, 0, 0) := rfl
theorem t12_58 : sm_at 12 58 = some (1, .iload_n 2, 0, 0, 0) := rfl
theorem t12_59 : sm_at 12 59 = some (1, .iconst 2, 0, 0, 0) := rfl
theorem t12_60 : sm_at 12 60 = some (3, .invokevirtual 118, 11, 4, 0) := rfl
theorem t12_63 : sm_at 12 63 = some (1, .ireturn, 0, 0, 0) := rfl
set_option maxRecDepth 10000 in
theorem b12_0 {d : Nat} {l0 : Option sm_V} {l1 : Option sm_V} {l2 : Option sm_V} {x3 : Int} {Z : Nat → Nat → Int} {Rf : Nat → Nat → Option Nat} {K : Nat → Nat × Nat} {n z : Nat} {Q : Option sm_V → sm_S → Prop} : sm_wp d 12 0 [l0, l1, l2, some (.inl x3)] [] (Z, Rf, K, n, z) Q = (sm_wp d 12 (sm_sel (wr x3) 56 [(0, 28), (1, 36), (2, 46)]) [l0, l1, l2, some (.inl x3)] [] (Z, Rf, K, n, z) Q) := (w_iload_n t12_0 rfl rfl).trans (w_tsw t12_1 rfl rfl rfl (by decide))
set_option maxRecDepth 10000 in
theorem b12_28 {d : Nat} {r0 : Nat} {x1 : Int} {x2 : Int} {l3 : Option sm_V} {Z : Nat → Nat → Int} {Rf : Nat → Nat → Option Nat} {K : Nat → Nat × Nat} {n z : Nat} {Q : Option sm_V → sm_S → Prop} : sm_wp (d + 1) 12 28 [some (.inr (some r0)), some (.inl x1), some (.inl x2), l3] [] (Z, Rf, K, n, z) Q = ((K r0).1 = 1 ∧ sm_call d 11 [.inr (some r0), .inl x1, .inl x2, .inl 1] (Z, Rf, K, n, z) (sm_cont (d + 1) 12 35 [some (.inr (some r0)), some (.inl x1), some (.inl x2), l3] [] Q)) := (w_aload_n t12_28 rfl rfl).trans ((w_iload_n t12_29 rfl rfl).trans ((w_iload_n t12_30 rfl rfl).trans ((w_iconst t12_31 rfl).trans (w_callV t12_32 rfl rfl rfl rfl (Nat.le_of_ble_eq_true rfl) (Nat.le_of_ble_eq_true rfl) rfl (by decide)))))
set_option maxRecDepth 10000 in
theorem b12_35 {d : Nat} {l0 : Option sm_V} {l1 : Option sm_V} {l2 : Option sm_V} {l3 : Option sm_V} {s0 : Int} {Z : Nat → Nat → Int} {Rf : Nat → Nat → Option Nat} {K : Nat → Nat × Nat} {n z : Nat} {Q : Option sm_V → sm_S → Prop} : sm_wp d 12 35 [l0, l1, l2, l3] [.inl s0] (Z, Rf, K, n, z) Q = (Q (some (.inl s0)) (Z, Rf, K, n, z)) := w_iret t12_35
set_option maxRecDepth 10000 in
theorem b12_36 {d : Nat} {r0 : Nat} {x1 : Int} {x2 : Int} {l3 : Option sm_V} {Z : Nat → Nat → Int} {Rf : Nat → Nat → Option Nat} {K : Nat → Nat × Nat} {n z : Nat} {Q : Option sm_V → sm_S → Prop} : sm_wp (d + 1) 12 36 [some (.inr (some r0)), some (.inl x1), some (.inl x2), l3] [] (Z, Rf, K, n, z) Q = ((K r0).1 = 1 ∧ sm_call d 11 [.inr (some r0), .inl (x1 + 1), .inl x2, .inl 2] (Z, Rf, K, n, z) (sm_cont (d + 1) 12 45 [some (.inr (some r0)), some (.inl x1), some (.inl x2), l3] [] Q)) := (w_aload_n t12_36 rfl rfl).trans ((w_iload_n t12_37 rfl rfl).trans ((w_iconst t12_38 rfl).trans ((w_iadd t12_39 rfl).trans ((w_iload_n t12_40 rfl rfl).trans ((w_iconst t12_41 rfl).trans (w_callV t12_42 rfl rfl rfl rfl (Nat.le_of_ble_eq_true rfl) (Nat.le_of_ble_eq_true rfl) rfl (by decide)))))))
set_option maxRecDepth 10000 in
theorem b12_45 {d : Nat} {l0 : Option sm_V} {l1 : Option sm_V} {l2 : Option sm_V} {l3 : Option sm_V} {s0 : Int} {Z : Nat → Nat → Int} {Rf : Nat → Nat → Option Nat} {K : Nat → Nat × Nat} {n z : Nat} {Q : Option sm_V → sm_S → Prop} : sm_wp d 12 45 [l0, l1, l2, l3] [.inl s0] (Z, Rf, K, n, z) Q = (Q (some (.inl s0)) (Z, Rf, K, n, z)) := w_iret t12_45
set_option maxRecDepth 10000 in
theorem b12_46 {d : Nat} {r0 : Nat} {x1 : Int} {x2 : Int} {l3 : Option sm_V} {Z : Nat → Nat → Int} {Rf : Nat → Nat → Option Nat} {K : Nat → Nat × Nat} {n z : Nat} {Q : Option sm_V → sm_S → Prop} : sm_wp (d + 1) 12 46 [some (.inr (some r0)), some (.inl x1), some (.inl x2), l3] [] (Z, Rf, K, n, z) Q = ((K r0).1 = 1 ∧ sm_call d 11 [.inr (some r0), .inl x1, .inl (x2 + 1), .inl 1] (Z, Rf, K, n, z) (sm_cont (d + 1) 12 55 [some (.inr (some r0)), some (.inl x1), some (.inl x2), l3] [] Q)) := (w_aload_n t12_46 rfl rfl).trans ((w_iload_n t12_47 rfl rfl).trans ((w_iload_n t12_48 rfl rfl).trans ((w_iconst t12_49 rfl).trans ((w_iadd t12_50 rfl).trans ((w_iconst t12_51 rfl).trans (w_callV t12_52 rfl rfl rfl rfl (Nat.le_of_ble_eq_true rfl) (Nat.le_of_ble_eq_true rfl) rfl (by decide)))))))
set_option maxRecDepth 10000 in
theorem b12_55 {d : Nat} {l0 : Option sm_V} {l1 : Option sm_V} {l2 : Option sm_V} {l3 : Option sm_V} {s0 : Int} {Z : Nat → Nat → Int} {Rf : Nat → Nat → Option Nat} {K : Nat → Nat × Nat} {n z : Nat} {Q : Option sm_V → sm_S → Prop} : sm_wp d 12 55 [l0, l1, l2, l3] [.inl s0] (Z, Rf, K, n, z) Q = (Q (some (.inl s0)) (Z, Rf, K, n, z)) := w_iret t12_55
set_option maxRecDepth 10000 in
theorem b12_56 {d : Nat} {r0 : Nat} {x1 : Int} {x2 : Int} {l3 : Option sm_V} {Z : Nat → Nat → Int} {Rf : Nat → Nat → Option Nat} {K : Nat → Nat × Nat} {n z : Nat} {Q : Option sm_V → sm_S → Prop} : sm_wp (d + 1) 12 56 [some (.inr (some r0)), some (.inl x1), some (.inl x2), l3] [] (Z, Rf, K, n, z) Q = ((K r0).1 = 1 ∧ sm_call d 11 [.inr (some r0), .inl x1, .inl x2, .inl 2] (Z, Rf, K, n, z) (sm_cont (d + 1) 12 63 [some (.inr (some r0)), some (.inl x1), some (.inl x2), l3] [] Q)) := (w_aload_n t12_56 rfl rfl).trans ((w_iload_n t12_57 rfl rfl).trans ((w_iload_n t12_58 rfl rfl).trans ((w_iconst t12_59 rfl).trans (w_callV t12_60 rfl rfl rfl rfl (Nat.le_of_ble_eq_true rfl) (Nat.le_of_ble_eq_true rfl) rfl (by decide)))))
set_option maxRecDepth 10000 in
theorem b12_63 {d : Nat} {l0 : Option sm_V} {l1 : Option sm_V} {l2 : Option sm_V} {l3 : Option sm_V} {s0 : Int} {Z : Nat → Nat → Int} {Rf : Nat → Nat → Option Nat} {K : Nat → Nat × Nat} {n z : Nat} {Q : Option sm_V → sm_S → Prop} : sm_wp d 12 63 [l0, l1, l2, l3] [.inl s0] (Z, Rf, K, n, z) Q = (Q (some (.inl s0)) (Z, Rf, K, n, z)) := w_iret t12_63
theorem t13_0 : sm_at 13 0 = some (1, .aload_n 0, 0, 0, 0) := rfl
theorem t13_1 : sm_at 13 1 = some (1, .iload_n 1, 0, 0, 0) := rfl
theorem t13_2 : sm_at 13 2 = some (1, .iload_n 2, 0, 0, 0) := rfl
theorem t13_3 : sm_at 13 3 = some (3, .invokevirtual 122, 10, 3, 0) := rfl
theorem t13_6 : sm_at 13 6 = some (3, .ifCond .eq 21, 0, 0, 0) := rfl
theorem t13_9 : sm_at 13 9 = some (1, .aload_n 0, 0, 0, 0) := rfl
theorem t13_10 : sm_at 13 10 = some (3, .getfield 33, 1, 11, 0) := rfl
theorem t13_13 : sm_at 13 13 = some (1, .iload_n 2, 0, 0, 0) := rfl
theorem t13_14 : sm_at 13 14 = some (2, .bipush 11, 0, 0, 0) := rfl
theorem t13_16 : sm_at 13 16 = some (1, .imul, 0, 0, 0) := rfl
theorem t13_17 : sm_at 13 17 = some (1, .iload_n 1, 0, 0, 0) := rfl
theorem t13_18 : sm_at 13 18 = some (1, .iadd, 0, 0, 0) := rfl
theorem t13_19 : sm_at 13 19 = some (1, .iaload, 0, 0, 0) := rfl
theorem t13_20 : sm_at 13 20 = some (3, .ifCond .eq 7, 0, 0, 0) := rfl
theorem t13_23 : sm_at 13 23 = some (1, .iconst 1, 0, 0, 0) := rfl
theorem t13_24 : sm_at 13 24 = some (3, .goto 4, 0, 0, 0) := rfl
theorem t13_27 : sm_at 13 27 = some (1, .iconst 0, 0, 0, 0) := rfl
theorem t13_28 : sm_at 13 28 = some (1, .ireturn, 1, 0, 0) := rfl
set_option maxRecDepth 10000 in
theorem b13_0 {d : Nat} {r0 : Nat} {x1 : Int} {x2 : Int} {Z : Nat → Nat → Int} {Rf : Nat → Nat → Option Nat} {K : Nat → Nat × Nat} {n z : Nat} {Q : Option sm_V → sm_S → Prop} : sm_wp (d + 1) 13 0 [some (.inr (some r0)), some (.inl x1), some (.inl x2)] [] (Z, Rf, K, n, z) Q = ((K r0).1 = 1 ∧ sm_call d 10 [.inr (some r0), .inl x1, .inl x2] (Z, Rf, K, n, z) (sm_cont (d + 1) 13 6 [some (.inr (some r0)), some (.inl x1), some (.inl x2)] [] Q)) := (w_aload_n t13_0 rfl rfl).trans ((w_iload_n t13_1 rfl rfl).trans ((w_iload_n t13_2 rfl rfl).trans (w_callV t13_3 rfl rfl rfl rfl (Nat.le_of_ble_eq_true rfl) (Nat.le_of_ble_eq_true rfl) rfl (by decide))))
set_option maxRecDepth 10000 in
theorem b13_6 {d : Nat} {l0 : Option sm_V} {l1 : Option sm_V} {l2 : Option sm_V} {s0 : Int} {Z : Nat → Nat → Int} {Rf : Nat → Nat → Option Nat} {K : Nat → Nat × Nat} {n z : Nat} {Q : Option sm_V → sm_S → Prop} : sm_wp d 13 6 [l0, l1, l2] [.inl s0] (Z, Rf, K, n, z) Q = (if wr s0 = 0 then sm_wp d 13 27 [l0, l1, l2] [] (Z, Rf, K, n, z) Q else sm_wp d 13 9 [l0, l1, l2] [] (Z, Rf, K, n, z) Q) := w_ifeq t13_6 rfl rfl rfl
set_option maxRecDepth 10000 in
theorem b13_9 {d : Nat} {r0 : Nat} {x1 : Int} {x2 : Int} {Z : Nat → Nat → Int} {Rf : Nat → Nat → Option Nat} {K : Nat → Nat × Nat} {n z : Nat} {Q : Option sm_V → sm_S → Prop} : sm_wp d 13 9 [some (.inr (some r0)), some (.inl x1), some (.inl x2)] [] (Z, Rf, K, n, z) Q = ((K r0).1 = 1 ∧ (Rf r0 11).isSome = true ∧ sm_rd (K (((Rf r0 11).getD 0))) (wr ((x2 * 11) + x1)) ∧ (if wr (Z (((Rf r0 11).getD 0)) ((wr ((x2 * 11) + x1)).toNat)) = 0 then sm_wp d 13 27 [some (.inr (some r0)), some (.inl x1), some (.inl x2)] [] (Z, Rf, K, n, z) Q else sm_wp d 13 23 [some (.inr (some r0)), some (.inl x1), some (.inl x2)] [] (Z, Rf, K, n, z) Q)) := (w_aload_n t13_9 rfl rfl).trans ((w_getR t13_10 rfl (by decide)).trans (congrArg (And _) (congrArg (And _) ((w_iload_n t13_13 rfl rfl).trans ((w_bipush t13_14 rfl).trans ((w_imul t13_16 rfl).trans ((w_iload_n t13_17 rfl rfl).trans ((w_iadd t13_18 rfl).trans ((w_iald t13_19 rfl rfl).trans (congrArg (And _) (w_ifeq t13_20 rfl rfl rfl)))))))))))
set_option maxRecDepth 10000 in
theorem b13_23 {d : Nat} {l0 : Option sm_V} {l1 : Option sm_V} {l2 : Option sm_V} {Z : Nat → Nat → Int} {Rf : Nat → Nat → Option Nat} {K : Nat → Nat × Nat} {n z : Nat} {Q : Option sm_V → sm_S → Prop} : sm_wp d 13 23 [l0, l1, l2] [] (Z, Rf, K, n, z) Q = (sm_wp d 13 28 [l0, l1, l2] [.inl 1] (Z, Rf, K, n, z) Q) := (w_iconst t13_23 rfl).trans (w_goto t13_24 rfl)
set_option maxRecDepth 10000 in
theorem b13_27 {d : Nat} {l0 : Option sm_V} {l1 : Option sm_V} {l2 : Option sm_V} {Z : Nat → Nat → Int} {Rf : Nat → Nat → Option Nat} {K : Nat → Nat × Nat} {n z : Nat} {Q : Option sm_V → sm_S → Prop} : sm_wp d 13 27 [l0, l1, l2] [] (Z, Rf, K, n, z) Q = (sm_wp d 13 28 [l0, l1, l2] [.inl 0] (Z, Rf, K, n, z) Q) := w_iconst t13_27 rfl
set_option maxRecDepth 10000 in
theorem b13_28 {d : Nat} {l0 : Option sm_V} {l1 : Option sm_V} {l2 : Option sm_V} {s0 : Int} {Z : Nat → Nat → Int} {Rf : Nat → Nat → Option Nat} {K : Nat → Nat × Nat} {n z : Nat} {Q : Option sm_V → sm_S → Prop} : sm_wp d 13 28 [l0, l1, l2] [.inl s0] (Z, Rf, K, n, z) Q = ((wr s0 = 0 ∨ wr s0 = 1) ∧ Q (some (.inl s0)) (Z, Rf, K, n, z)) := w_zret t13_28 rfl
theorem t14_0 : sm_at 14 0 = some (1, .iconst 0, 0, 0, 0) := rfl
theorem t14_1 : sm_at 14 1 = some (1, .istore_n 3, 0, 0, 0) := rfl
theorem t14_2 : sm_at 14 2 = some (1, .iload_n 3, 0, 0, 0) := rfl
theorem t14_3 : sm_at 14 3 = some (1, .iconst 4, 0, 0, 0) := rfl
theorem t14_4 : sm_at 14 4 = some (3, .if_icmp .ge 47, 0, 0, 0) := rfl
theorem t14_7 : sm_at 14 7 = some (1, .aload_n 0, 0, 0, 0) := rfl
theorem t14_8 : sm_at 14 8 = some (1, .iload_n 1, 0, 0, 0) := rfl
theorem t14_9 : sm_at 14 9 = some (3, .getstatic 126, 1, 1000002, 0) := rfl
theorem t14_12 : sm_at 14 12 = some (1, .iload_n 3, 0, 0, 0) := rfl
theorem t14_13 : sm_at 14 13 = some (1, .iaload, 0, 0, 0) := rfl
theorem t14_14 : sm_at 14 14 = some (1, .iadd, 0, 0, 0) := rfl
theorem t14_15 : sm_at 14 15 = some (1, .iload_n 2, 0, 0, 0) := rfl
theorem t14_16 : sm_at 14 16 = some (3, .getstatic 129, 1, 1000003, 0) := rfl
theorem t14_19 : sm_at 14 19 = some (1, .iload_n 3, 0, 0, 0) := rfl
theorem t14_20 : sm_at 14 20 = some (1, .iaload, 0, 0, 0) := rfl
theorem t14_21 : sm_at 14 21 = some (1, .iadd, 0, 0, 0) := rfl
theorem t14_22 : sm_at 14 22 = some (3, .invokevirtual 132, 9, 3, 0) := rfl
theorem t14_25 : sm_at 14 25 = some (2, .istore 4, 0, 0, 0) := rfl
theorem t14_27 : sm_at 14 27 = some (2, .iload 4, 0, 0, 0) := rfl
theorem t14_29 : sm_at 14 29 = some (1, .iconst (-1), 0, 0, 0) := rfl
theorem t14_30 : sm_at 14 30 = some (3, .if_icmp .eq 15, 0, 0, 0) := rfl
theorem t14_33 : sm_at 14 33 = some (1, .aload_n 0, 0, 0, 0) := rfl
theorem t14_34 : sm_at 14 34 = some (3, .getfield 18, 1, 6, 0) := rfl
theorem t14_37 : sm_at 14 37 = some (2, .iload 4, 0, 0, 0) := rfl
theorem t14_39 : sm_at 14 39 = some (1, .iaload, 0, 0, 0) := rfl
theorem t14_40 : sm_at 14 40 = some (3, .ifCond .eq 5, 0, 0, 0) := rfl
theorem t14_43 : sm_at 14 43 = some (1, .iconst 1, 0, 0, 0) := rfl
theorem t14_44 : sm_at 14 44 = some (1, .ireturn, 1, 0, 0) := rfl
theorem t14_45 : sm_at 14 45 = some (3, .iinc 3 1, 0, 0, 0) := rfl
theorem t14_48 : sm_at 14 48 = some (3, .goto (-46), 0, 0, 0) := rfl
theorem t14_51 : sm_at 14 51 = some (1, .iconst 0, 0, 0, 0) := rfl
theorem t14_52 : sm_at 14 52 = some (1, .ireturn, 1, 0, 0) := rfl
set_option maxRecDepth 10000 in
theorem b14_0 {d : Nat} {l0 : Option sm_V} {l1 : Option sm_V} {l2 : Option sm_V} {l3 : Option sm_V} {l4 : Option sm_V} {Z : Nat → Nat → Int} {Rf : Nat → Nat → Option Nat} {K : Nat → Nat × Nat} {n z : Nat} {Q : Option sm_V → sm_S → Prop} : sm_wp d 14 0 [l0, l1, l2, l3, l4] [] (Z, Rf, K, n, z) Q = (sm_wp d 14 2 [l0, l1, l2, some (.inl 0), l4] [] (Z, Rf, K, n, z) Q) := (w_iconst t14_0 rfl).trans (w_istore_n t14_1 rfl (Nat.le_of_ble_eq_true rfl) rfl)
set_option maxRecDepth 10000 in
theorem b14_2 {d : Nat} {l0 : Option sm_V} {l1 : Option sm_V} {l2 : Option sm_V} {x3 : Int} {l4 : Option sm_V} {Z : Nat → Nat → Int} {Rf : Nat → Nat → Option Nat} {K : Nat → Nat × Nat} {n z : Nat} {Q : Option sm_V → sm_S → Prop} : sm_wp d 14 2 [l0, l1, l2, some (.inl x3), l4] [] (Z, Rf, K, n, z) Q = (if (4 : Int) ≤ wr x3 then sm_wp d 14 51 [l0, l1, l2, some (.inl x3), l4] [] (Z, Rf, K, n, z) Q else sm_wp d 14 7 [l0, l1, l2, some (.inl x3), l4] [] (Z, Rf, K, n, z) Q) := (w_iload_n t14_2 rfl rfl).trans ((w_iconst t14_3 rfl).trans (w_icge t14_4 rfl wl_4 rfl rfl))
set_option maxRecDepth 10000 in
theorem b14_7 {d : Nat} {r0 : Nat} {x1 : Int} {x2 : Int} {x3 : Int} {l4 : Option sm_V} {Z : Nat → Nat → Int} {Rf : Nat → Nat → Option Nat} {K : Nat → Nat × Nat} {n z : Nat} {Q : Option sm_V → sm_S → Prop} : sm_wp (d + 1) 14 7 [some (.inr (some r0)), some (.inl x1), some (.inl x2), some (.inl x3), l4] [] (Z, Rf, K, n, z) Q = (sm_rd (K 1000002) (wr x3) ∧ sm_rd (K 1000003) (wr x3) ∧ (K r0).1 = 1 ∧ sm_call d 9 [.inr (some r0), .inl (x1 + (Z 1000002 ((wr x3).toNat))), .inl (x2 + (Z 1000003 ((wr x3).toNat)))] (Z, Rf, K, n, z) (sm_cont (d + 1) 14 25 [some (.inr (some r0)), some (.inl x1), some (.inl x2), some (.inl x3), l4] [] Q)) := (w_aload_n t14_7 rfl rfl).trans ((w_iload_n t14_8 rfl rfl).trans ((w_gs1 t14_9 rfl).trans ((w_iload_n t14_12 rfl rfl).trans ((w_iald t14_13 rfl rfl).trans (congrArg (And _) ((w_iadd t14_14 rfl).trans ((w_iload_n t14_15 rfl rfl).trans ((w_gs1 t14_16 rfl).trans ((w_iload_n t14_19 rfl rfl).trans ((w_iald t14_20 rfl rfl).trans (congrArg (And _) ((w_iadd t14_21 rfl).trans (w_callV t14_22 rfl rfl rfl rfl (Nat.le_of_ble_eq_true rfl) (Nat.le_of_ble_eq_true rfl) rfl (by decide))))))))))))))
set_option maxRecDepth 10000 in
theorem b14_25 {d : Nat} {l0 : Option sm_V} {l1 : Option sm_V} {l2 : Option sm_V} {l3 : Option sm_V} {l4 : Option sm_V} {s0 : Int} {Z : Nat → Nat → Int} {Rf : Nat → Nat → Option Nat} {K : Nat → Nat × Nat} {n z : Nat} {Q : Option sm_V → sm_S → Prop} : sm_wp d 14 25 [l0, l1, l2, l3, l4] [.inl s0] (Z, Rf, K, n, z) Q = (if wr s0 = (-1 : Int) then sm_wp d 14 45 [l0, l1, l2, l3, some (.inl s0)] [] (Z, Rf, K, n, z) Q else sm_wp d 14 33 [l0, l1, l2, l3, some (.inl s0)] [] (Z, Rf, K, n, z) Q) := (w_istore t14_25 rfl (Nat.le_of_ble_eq_true rfl) rfl).trans ((w_iload t14_27 rfl rfl).trans ((w_iconst t14_29 rfl).trans (w_iceq t14_30 rfl wl_m1 rfl rfl)))
set_option maxRecDepth 10000 in
theorem b14_33 {d : Nat} {r0 : Nat} {l1 : Option sm_V} {l2 : Option sm_V} {l3 : Option sm_V} {x4 : Int} {Z : Nat → Nat → Int} {Rf : Nat → Nat → Option Nat} {K : Nat → Nat × Nat} {n z : Nat} {Q : Option sm_V → sm_S → Prop} : sm_wp d 14 33 [some (.inr (some r0)), l1, l2, l3, some (.inl x4)] [] (Z, Rf, K, n, z) Q = ((K r0).1 = 1 ∧ (Rf r0 6).isSome = true ∧ sm_rd (K (((Rf r0 6).getD 0))) (wr x4) ∧ (if wr (Z (((Rf r0 6).getD 0)) ((wr x4).toNat)) = 0 then sm_wp d 14 45 [some (.inr (some r0)), l1, l2, l3, some (.inl x4)] [] (Z, Rf, K, n, z) Q else sm_wp d 14 43 [some (.inr (some r0)), l1, l2, l3, some (.inl x4)] [] (Z, Rf, K, n, z) Q)) := (w_aload_n t14_33 rfl rfl).trans ((w_getR t14_34 rfl (by decide)).trans (congrArg (And _) (congrArg (And _) ((w_iload t14_37 rfl rfl).trans ((w_iald t14_39 rfl rfl).trans (congrArg (And _) (w_ifeq t14_40 rfl rfl rfl)))))))
set_option maxRecDepth 10000 in
theorem b14_43 {d : Nat} {l0 : Option sm_V} {l1 : Option sm_V} {l2 : Option sm_V} {l3 : Option sm_V} {l4 : Option sm_V} {Z : Nat → Nat → Int} {Rf : Nat → Nat → Option Nat} {K : Nat → Nat × Nat} {n z : Nat} {Q : Option sm_V → sm_S → Prop} : sm_wp d 14 43 [l0, l1, l2, l3, l4] [] (Z, Rf, K, n, z) Q = (((1 : Int) = 0 ∨ (1 : Int) = 1) ∧ Q (some (.inl 1)) (Z, Rf, K, n, z)) := (w_iconst t14_43 rfl).trans (w_zret t14_44 wl_1)
set_option maxRecDepth 10000 in
theorem b14_45 {d : Nat} {l0 : Option sm_V} {l1 : Option sm_V} {l2 : Option sm_V} {x3 : Int} {l4 : Option sm_V} {Z : Nat → Nat → Int} {Rf : Nat → Nat → Option Nat} {K : Nat → Nat × Nat} {n z : Nat} {Q : Option sm_V → sm_S → Prop} : sm_wp d 14 45 [l0, l1, l2, some (.inl x3), l4] [] (Z, Rf, K, n, z) Q = (sm_wp d 14 2 [l0, l1, l2, some (.inl (x3 + 1)), l4] [] (Z, Rf, K, n, z) Q) := (w_iinc t14_45 rfl rfl (Nat.le_of_ble_eq_true rfl) rfl).trans (w_goto t14_48 rfl)
set_option maxRecDepth 10000 in
theorem b14_51 {d : Nat} {l0 : Option sm_V} {l1 : Option sm_V} {l2 : Option sm_V} {l3 : Option sm_V} {l4 : Option sm_V} {Z : Nat → Nat → Int} {Rf : Nat → Nat → Option Nat} {K : Nat → Nat × Nat} {n z : Nat} {Q : Option sm_V → sm_S → Prop} : sm_wp d 14 51 [l0, l1, l2, l3, l4] [] (Z, Rf, K, n, z) Q = (((0 : Int) = 0 ∨ (0 : Int) = 1) ∧ Q (some (.inl 0)) (Z, Rf, K, n, z)) := (w_iconst t14_51 rfl).trans (w_zret t14_52 wl_0)
theorem t15_0 : sm_at 15 0 = some (1, .iconst 0, 0, 0, 0) := rfl
theorem t15_1 : sm_at 15 1 = some (1, .istore_n 2, 0, 0, 0) := rfl
theorem t15_2 : sm_at 15 2 = some (1, .iload_n 2, 0, 0, 0) := rfl
theorem t15_3 : sm_at 15 3 = some (1, .aload_n 0, 0, 0, 0) := rfl
theorem t15_4 : sm_at 15 4 = some (3, .getfield 48, 1, 14, 0) := rfl
theorem t15_7 : sm_at 15 7 = some (3, .getfield 90, 5, 2, 0) := rfl
theorem t15_10 : sm_at 15 10 = some (3, .if_icmp .ge 24, 0, 0, 0) := rfl
theorem t15_13 : sm_at 15 13 = some (1, .aload_n 0, 0, 0, 0) := rfl
theorem t15_14 : sm_at 15 14 = some (3, .getfield 48, 1, 14, 0) := rfl
theorem t15_17 : sm_at 15 17 = some (1, .iload_n 2, 0, 0, 0) := rfl
theorem t15_18 : sm_at 15 18 = some (1, .iconst 0, 0, 0, 0) := rfl
theorem t15_19 : sm_at 15 19 = some (3, .invokevirtual 136, 54, 3, 0) := rfl
theorem t15_22 : sm_at 15 22 = some (1, .iload_n 1, 0, 0, 0) := rfl
theorem t15_23 : sm_at 15 23 = some (3, .if_icmp .ne 5, 0, 0, 0) := rfl
theorem t15_26 : sm_at 15 26 = some (1, .iconst 1, 0, 0, 0) := rfl
theorem t15_27 : sm_at 15 27 = some (1, .ireturn, 1, 0, 0) := rfl
theorem t15_28 : sm_at 15 28 = some (3, .iinc 2 1, 0, 0, 0) := rfl
theorem t15_31 : sm_at 15 31 = some (3, .goto (-29), 0, 0, 0) := rfl
theorem t15_34 : sm_at 15 34 = some (1, .iconst 0, 0, 0, 0) := rfl
theorem t15_35 : sm_at 15 35 = some (1, .ireturn, 1, 0, 0) := rfl
set_option maxRecDepth 10000 in
theorem b15_0 {d : Nat} {l0 : Option sm_V} {l1 : Option sm_V} {l2 : Option sm_V} {Z : Nat → Nat → Int} {Rf : Nat → Nat → Option Nat} {K : Nat → Nat × Nat} {n z : Nat} {Q : Option sm_V → sm_S → Prop} : sm_wp d 15 0 [l0, l1, l2] [] (Z, Rf, K, n, z) Q = (sm_wp d 15 2 [l0, l1, some (.inl 0)] [] (Z, Rf, K, n, z) Q) := (w_iconst t15_0 rfl).trans (w_istore_n t15_1 rfl (Nat.le_of_ble_eq_true rfl) rfl)
set_option maxRecDepth 10000 in
theorem b15_2 {d : Nat} {r0 : Nat} {l1 : Option sm_V} {x2 : Int} {Z : Nat → Nat → Int} {Rf : Nat → Nat → Option Nat} {K : Nat → Nat × Nat} {n z : Nat} {Q : Option sm_V → sm_S → Prop} : sm_wp d 15 2 [some (.inr (some r0)), l1, some (.inl x2)] [] (Z, Rf, K, n, z) Q = ((K r0).1 = 1 ∧ (Rf r0 14).isSome = true ∧ (K (((Rf r0 14).getD 0))).1 = 5 ∧ (if wr (Z (((Rf r0 14).getD 0)) 2) ≤ wr x2 then sm_wp d 15 34 [some (.inr (some r0)), l1, some (.inl x2)] [] (Z, Rf, K, n, z) Q else sm_wp d 15 13 [some (.inr (some r0)), l1, some (.inl x2)] [] (Z, Rf, K, n, z) Q)) := (w_iload_n t15_2 rfl rfl).trans ((w_aload_n t15_3 rfl rfl).trans ((w_getR t15_4 rfl (by decide)).trans (congrArg (And _) (congrArg (And _) ((w_getI t15_7 rfl (by decide)).trans (congrArg (And _) (w_icge t15_10 rfl rfl rfl rfl)))))))
set_option maxRecDepth 10000 in
theorem b15_13 {d : Nat} {r0 : Nat} {l1 : Option sm_V} {x2 : Int} {Z : Nat → Nat → Int} {Rf : Nat → Nat → Option Nat} {K : Nat → Nat × Nat} {n z : Nat} {Q : Option sm_V → sm_S → Prop} : sm_wp (d + 1) 15 13 [some (.inr (some r0)), l1, some (.inl x2)] [] (Z, Rf, K, n, z) Q = ((K r0).1 = 1 ∧ (Rf r0 14).isSome = true ∧ (K (((Rf r0 14).getD 0))).1 = 5 ∧ sm_call d 54 [.inr (some ((Rf r0 14).getD 0)), .inl x2, .inl 0] (Z, Rf, K, n, z) (sm_cont (d + 1) 15 22 [some (.inr (some r0)), l1, some (.inl x2)] [] Q)) := (w_aload_n t15_13 rfl rfl).trans ((w_getR t15_14 rfl (by decide)).trans (congrArg (And _) (congrArg (And _) ((w_iload_n t15_17 rfl rfl).trans ((w_iconst t15_18 rfl).trans (w_callV t15_19 rfl rfl rfl rfl (Nat.le_of_ble_eq_true rfl) (Nat.le_of_ble_eq_true rfl) rfl (by decide)))))))
set_option maxRecDepth 10000 in
theorem b15_22 {d : Nat} {l0 : Option sm_V} {x1 : Int} {l2 : Option sm_V} {s0 : Int} {Z : Nat → Nat → Int} {Rf : Nat → Nat → Option Nat} {K : Nat → Nat × Nat} {n z : Nat} {Q : Option sm_V → sm_S → Prop} : sm_wp d 15 22 [l0, some (.inl x1), l2] [.inl s0] (Z, Rf, K, n, z) Q = (if wr s0 = wr x1 then sm_wp d 15 26 [l0, some (.inl x1), l2] [] (Z, Rf, K, n, z) Q else sm_wp d 15 28 [l0, some (.inl x1), l2] [] (Z, Rf, K, n, z) Q) := (w_iload_n t15_22 rfl rfl).trans (w_icne t15_23 rfl rfl rfl rfl)
set_option maxRecDepth 10000 in
theorem b15_26 {d : Nat} {l0 : Option sm_V} {l1 : Option sm_V} {l2 : Option sm_V} {Z : Nat → Nat → Int} {Rf : Nat → Nat → Option Nat} {K : Nat → Nat × Nat} {n z : Nat} {Q : Option sm_V → sm_S → Prop} : sm_wp d 15 26 [l0, l1, l2] [] (Z, Rf, K, n, z) Q = (((1 : Int) = 0 ∨ (1 : Int) = 1) ∧ Q (some (.inl 1)) (Z, Rf, K, n, z)) := (w_iconst t15_26 rfl).trans (w_zret t15_27 wl_1)
set_option maxRecDepth 10000 in
theorem b15_28 {d : Nat} {l0 : Option sm_V} {l1 : Option sm_V} {x2 : Int} {Z : Nat → Nat → Int} {Rf : Nat → Nat → Option Nat} {K : Nat → Nat × Nat} {n z : Nat} {Q : Option sm_V → sm_S → Prop} : sm_wp d 15 28 [l0, l1, some (.inl x2)] [] (Z, Rf, K, n, z) Q = (sm_wp d 15 2 [l0, l1, some (.inl (x2 + 1))] [] (Z, Rf, K, n, z) Q) := (w_iinc t15_28 rfl rfl (Nat.le_of_ble_eq_true rfl) rfl).trans (w_goto t15_31 rfl)
set_option maxRecDepth 10000 in
theorem b15_34 {d : Nat} {l0 : Option sm_V} {l1 : Option sm_V} {l2 : Option sm_V} {Z : Nat → Nat → Int} {Rf : Nat → Nat → Option Nat} {K : Nat → Nat × Nat} {n z : Nat} {Q : Option sm_V → sm_S → Prop} : sm_wp d 15 34 [l0, l1, l2] [] (Z, Rf, K, n, z) Q = (((0 : Int) = 0 ∨ (0 : Int) = 1) ∧ Q (some (.inl 0)) (Z, Rf, K, n, z)) := (w_iconst t15_34 rfl).trans (w_zret t15_35 wl_0)
theorem t16_0 : sm_at 16 0 = some (1, .aload_n 0, 0, 0, 0) := rfl
theorem t16_1 : sm_at 16 1 = some (1, .aload_n 0, 0, 0, 0) := rfl
theorem t16_2 : sm_at 16 2 = some (3, .getfield 45, 1, 13, 0) := rfl
theorem t16_5 : sm_at 16 5 = some (1, .iload_n 1, 0, 0, 0) := rfl
theorem t16_6 : sm_at 16 6 = some (1, .iconst 4, 0, 0, 0) := rfl
theorem t16_7 : sm_at 16 7 = some (3, .invokevirtual 136, 54, 3, 0) := rfl
theorem t16_10 : sm_at 16 10 = some (3, .invokevirtual 139, 208, 2, 0) := rfl
theorem t16_13 : sm_at 16 13 = some (1, .areturn, 0, 0, 0) := rfl
set_option maxRecDepth 10000 in
theorem b16_0 {d : Nat} {r0 : Nat} {x1 : Int} {Z : Nat → Nat → Int} {Rf : Nat → Nat → Option Nat} {K : Nat → Nat × Nat} {n z : Nat} {Q : Option sm_V → sm_S → Prop} : sm_wp (d + 1) 16 0 [some (.inr (some r0)), some (.inl x1)] [] (Z, Rf, K, n, z) Q = ((K r0).1 = 1 ∧ (Rf r0 13).isSome = true ∧ (K (((Rf r0 13).getD 0))).1 = 5 ∧ sm_call d 54 [.inr (some ((Rf r0 13).getD 0)), .inl x1, .inl 4] (Z, Rf, K, n, z) (sm_cont (d + 1) 16 10 [some (.inr (some r0)), some (.inl x1)] [.inr (some r0)] Q)) := (w_aload_n t16_0 rfl rfl).trans ((w_aload_n t16_1 rfl rfl).trans ((w_getR t16_2 rfl (by decide)).trans (congrArg (And _) (congrArg (And _) ((w_iload_n t16_5 rfl rfl).trans ((w_iconst t16_6 rfl).trans (w_callV t16_7 rfl rfl rfl rfl (Nat.le_of_ble_eq_true rfl) (Nat.le_of_ble_eq_true rfl) rfl (by decide))))))))
set_option maxRecDepth 10000 in
theorem b16_10 {d : Nat} {l0 : Option sm_V} {l1 : Option sm_V} {rs0 : Nat} {s1 : Int} {Z : Nat → Nat → Int} {Rf : Nat → Nat → Option Nat} {K : Nat → Nat × Nat} {n z : Nat} {Q : Option sm_V → sm_S → Prop} : sm_wp (d + 1) 16 10 [l0, l1] [.inl s1, .inr (some rs0)] (Z, Rf, K, n, z) Q = ((K rs0).1 = 1 ∧ sm_call d 208 [.inr (some rs0), .inl s1] (Z, Rf, K, n, z) (sm_cont (d + 1) 16 13 [l0, l1] [] Q)) := w_callV t16_10 rfl rfl rfl rfl (Nat.le_of_ble_eq_true rfl) (Nat.le_of_ble_eq_true rfl) rfl (by decide)
set_option maxRecDepth 10000 in
theorem b16_13 {d : Nat} {l0 : Option sm_V} {l1 : Option sm_V} {qs0 : Option Nat} {Z : Nat → Nat → Int} {Rf : Nat → Nat → Option Nat} {K : Nat → Nat × Nat} {n z : Nat} {Q : Option sm_V → sm_S → Prop} : sm_wp d 16 13 [l0, l1] [.inr qs0] (Z, Rf, K, n, z) Q = (Q (some (.inr qs0)) (Z, Rf, K, n, z)) := w_aret t16_13
theorem t17_0 : sm_at 17 0 = some (1, .iconst (-1), 0, 0, 0) := rfl
theorem t17_1 : sm_at 17 1 = some (1, .istore_n 3, 0, 0, 0) := rfl
theorem t17_2 : sm_at 17 2 = some (1, .iconst 0, 0, 0, 0) := rfl
theorem t17_3 : sm_at 17 3 = some (2, .istore 4, 0, 0, 0) := rfl
theorem t17_5 : sm_at 17 5 = some (1, .iconst 0, 0, 0, 0) := rfl
theorem t17_6 : sm_at 17 6 = some (2, .istore 5, 0, 0, 0) := rfl
theorem t17_8 : sm_at 17 8 = some (2, .iload 5, 0, 0, 0) := rfl
theorem t17_10 : sm_at 17 10 = some (1, .aload_n 0, 0, 0, 0) := rfl
theorem t17_11 : sm_at 17 11 = some (3, .getfield 41, 1, 12, 0) := rfl
theorem t17_14 : sm_at 17 14 = some (3, .getfield 90, 5, 2, 0) := rfl
theorem t17_17 : sm_at 17 17 = some (3, .if_icmp .ge 61, 0, 0, 0) := rfl
theorem t17_20 : sm_at 17 20 = some (1, .aload_n 0, 0, 0, 0) := rfl
theorem t17_21 : sm_at 17 21 = some (3, .getfield 41, 1, 12, 0) := rfl
theorem t17_24 : sm_at 17 24 = some (2, .iload 5, 0, 0, 0) := rfl
theorem t17_26 : sm_at 17 26 = some (1, .iconst 0, 0, 0, 0) := rfl
theorem t17_27 : sm_at 17 27 = some (3, .invokevirtual 136, 54, 3, 0) := rfl
theorem t17_30 : sm_at 17 30 = some (1, .iload_n 1, 0, 0, 0) := rfl
theorem t17_31 : sm_at 17 31 = some (1, .isub, 0, 0, 0) := rfl
theorem t17_32 : sm_at 17 32 = some (3, .invokestatic 143, 1003, 1, 0) := rfl
theorem t17_35 : sm_at 17 35 = some (1, .aload_n 0, 0, 0, 0) := rfl
theorem t17_36 : sm_at 17 36 = some (3, .getfield 41, 1, 12, 0) := rfl
theorem t17_39 : sm_at 17 39 = some (2, .iload 5, 0, 0, 0) := rfl
theorem t17_41 : sm_at 17 41 = some (1, .iconst 1, 0, 0, 0) := rfl
theorem t17_42 : sm_at 17 42 = some (3, .invokevirtual 136, 54, 3, 0) := rfl
theorem t17_45 : sm_at 17 45 = some (1, .iload_n 2, 0, 0, 0) := rfl
theorem t17_46 : sm_at 17 46 = some (1, .isub, 0, 0, 0) := rfl
theorem t17_47 : sm_at 17 47 = some (3, .invokestatic 143, 1003, 1, 0) := rfl
theorem t17_50 : sm_at 17 50 = some (1, .iadd, 0, 0, 0) := rfl
theorem t17_51 : sm_at 17 51 = some (2, .istore 6, 0, 0, 0) := rfl
theorem t17_53 : sm_at 17 53 = some (1, .iload_n 3, 0, 0, 0) := rfl
theorem t17_54 : sm_at 17 54 = some (1, .iconst (-1), 0, 0, 0) := rfl
theorem t17_55 : sm_at 17 55 = some (3, .if_icmp .eq 10, 0, 0, 0) := rfl
theorem t17_58 : sm_at 17 58 = some (2, .iload 6, 0, 0, 0) := rfl
theorem t17_60 : sm_at 17 60 = some (2, .iload 4, 0, 0, 0) := rfl
theorem t17_62 : sm_at 17 62 = some (3, .if_icmp .ge 10, 0, 0, 0) := rfl
theorem t17_65 : sm_at 17 65 = some (2, .iload 5, 0, 0, 0) := rfl
theorem t17_67 : sm_at 17 67 = some (1, .istore_n 3, 0, 0, 0) := rfl
theorem t17_68 : sm_at 17 68 = some (2, .iload 6, 0, 0, 0) := rfl
theorem t17_70 : sm_at 17 70 = some (2, .istore 4, 0, 0, 0) := rfl
theorem t17_72 : sm_at 17 72 = some (3, .iinc 5 1, 0, 0, 0) := rfl
theorem t17_75 : sm_at 17 75 = some (3, .goto (-67), 0, 0, 0) := rfl
theorem t17_78 : sm_at 17 78 = some (1, .iload_n 3, 0, 0, 0) := rfl
theorem t17_79 : sm_at 17 79 = some (1, .ireturn, 0, 0, 0) := rfl
set_option maxRecDepth 10000 in
theorem b17_0 {d : Nat} {l0 : Option sm_V} {l1 : Option sm_V} {l2 : Option sm_V} {l3 : Option sm_V} {l4 : Option sm_V} {l5 : Option sm_V} {l6 : Option sm_V} {Z : Nat → Nat → Int} {Rf : Nat → Nat → Option Nat} {K : Nat → Nat × Nat} {n z : Nat} {Q : Option sm_V → sm_S → Prop} : sm_wp d 17 0 [l0, l1, l2, l3, l4, l5, l6] [] (Z, Rf, K, n, z) Q = (sm_wp d 17 8 [l0, l1, l2, some (.inl ((-1))), some (.inl 0), some (.inl 0), l6] [] (Z, Rf, K, n, z) Q) := (w_iconst t17_0 rfl).trans ((w_istore_n t17_1 rfl (Nat.le_of_ble_eq_true rfl) rfl).trans ((w_iconst t17_2 rfl).trans ((w_istore t17_3 rfl (Nat.le_of_ble_eq_true rfl) rfl).trans ((w_iconst t17_5 rfl).trans (w_istore t17_6 rfl (Nat.le_of_ble_eq_true rfl) rfl)))))
set_option maxRecDepth 10000 in
theorem b17_8 {d : Nat} {r0 : Nat} {l1 : Option sm_V} {l2 : Option sm_V} {l3 : Option sm_V} {l4 : Option sm_V} {x5 : Int} {l6 : Option sm_V} {Z : Nat → Nat → Int} {Rf : Nat → Nat → Option Nat} {K : Nat → Nat × Nat} {n z : Nat} {Q : Option sm_V → sm_S → Prop} : sm_wp d 17 8 [some (.inr (some r0)), l1, l2, l3, l4, some (.inl x5), l6] [] (Z, Rf, K, n, z) Q = ((K r0).1 = 1 ∧ (Rf r0 12).isSome = true ∧ (K (((Rf r0 12).getD 0))).1 = 5 ∧ (if wr (Z (((Rf r0 12).getD 0)) 2) ≤ wr x5 then sm_wp d 17 78 [some (.inr (some r0)), l1, l2, l3, l4, some (.inl x5), l6] [] (Z, Rf, K, n, z) Q else sm_wp d 17 20 [some (.inr (some r0)), l1, l2, l3, l4, some (.inl x5), l6] [] (Z, Rf, K, n, z) Q)) := (w_iload t17_8 rfl rfl).trans ((w_aload_n t17_10 rfl rfl).trans ((w_getR t17_11 rfl (by decide)).trans (congrArg (And _) (congrArg (And _) ((w_getI t17_14 rfl (by decide)).trans (congrArg (And _) (w_icge t17_17 rfl rfl rfl rfl)))))))
set_option maxRecDepth 10000 in
theorem b17_20 {d : Nat} {r0 : Nat} {l1 : Option sm_V} {l2 : Option sm_V} {l3 : Option sm_V} {l4 : Option sm_V} {x5 : Int} {l6 : Option sm_V} {Z : Nat → Nat → Int} {Rf : Nat → Nat → Option Nat} {K : Nat → Nat × Nat} {n z : Nat} {Q : Option sm_V → sm_S → Prop} : sm_wp (d + 1) 17 20 [some (.inr (some r0)), l1, l2, l3, l4, some (.inl x5), l6] [] (Z, Rf, K, n, z) Q = ((K r0).1 = 1 ∧ (Rf r0 12).isSome = true ∧ (K (((Rf r0 12).getD 0))).1 = 5 ∧ sm_call d 54 [.inr (some ((Rf r0 12).getD 0)), .inl x5, .inl 0] (Z, Rf, K, n, z) (sm_cont (d + 1) 17 30 [some (.inr (some r0)), l1, l2, l3, l4, some (.inl x5), l6] [] Q)) := (w_aload_n t17_20 rfl rfl).trans ((w_getR t17_21 rfl (by decide)).trans (congrArg (And _) (congrArg (And _) ((w_iload t17_24 rfl rfl).trans ((w_iconst t17_26 rfl).trans (w_callV t17_27 rfl rfl rfl rfl (Nat.le_of_ble_eq_true rfl) (Nat.le_of_ble_eq_true rfl) rfl (by decide)))))))
set_option maxRecDepth 10000 in
theorem b17_30 {d : Nat} {r0 : Nat} {x1 : Int} {l2 : Option sm_V} {l3 : Option sm_V} {l4 : Option sm_V} {x5 : Int} {l6 : Option sm_V} {s0 : Int} {Z : Nat → Nat → Int} {Rf : Nat → Nat → Option Nat} {K : Nat → Nat × Nat} {n z : Nat} {Q : Option sm_V → sm_S → Prop} : sm_wp (d + 1) 17 30 [some (.inr (some r0)), some (.inl x1), l2, l3, l4, some (.inl x5), l6] [.inl s0] (Z, Rf, K, n, z) Q = ((K r0).1 = 1 ∧ (Rf r0 12).isSome = true ∧ (K (((Rf r0 12).getD 0))).1 = 5 ∧ sm_call d 54 [.inr (some ((Rf r0 12).getD 0)), .inl x5, .inl 1] (Z, Rf, K, n, z) (sm_cont (d + 1) 17 45 [some (.inr (some r0)), some (.inl x1), l2, l3, l4, some (.inl x5), l6] [.inl (if 0 ≤ wr (s0 - x1) then s0 - x1 else 0 - (s0 - x1))] Q)) := (w_iload_n t17_30 rfl rfl).trans ((w_isub t17_31 rfl).trans ((w_abs t17_32 rfl (Nat.le_of_ble_eq_true rfl) rfl).trans ((w_aload_n t17_35 rfl rfl).trans ((w_getR t17_36 rfl (by decide)).trans (congrArg (And _) (congrArg (And _) ((w_iload t17_39 rfl rfl).trans ((w_iconst t17_41 rfl).trans (w_callV t17_42 rfl rfl rfl rfl (Nat.le_of_ble_eq_true rfl) (Nat.le_of_ble_eq_true rfl) rfl (by decide))))))))))
set_option maxRecDepth 10000 in
theorem b17_45 {d : Nat} {l0 : Option sm_V} {l1 : Option sm_V} {x2 : Int} {x3 : Int} {l4 : Option sm_V} {l5 : Option sm_V} {l6 : Option sm_V} {s0 : Int} {s1 : Int} {Z : Nat → Nat → Int} {Rf : Nat → Nat → Option Nat} {K : Nat → Nat × Nat} {n z : Nat} {Q : Option sm_V → sm_S → Prop} : sm_wp d 17 45 [l0, l1, some (.inl x2), some (.inl x3), l4, l5, l6] [.inl s1, .inl s0] (Z, Rf, K, n, z) Q = (if wr x3 = (-1 : Int) then sm_wp d 17 65 [l0, l1, some (.inl x2), some (.inl x3), l4, l5, some (.inl (s0 + (if 0 ≤ wr (s1 - x2) then s1 - x2 else 0 - (s1 - x2))))] [] (Z, Rf, K, n, z) Q else sm_wp d 17 58 [l0, l1, some (.inl x2), some (.inl x3), l4, l5, some (.inl (s0 + (if 0 ≤ wr (s1 - x2) then s1 - x2 else 0 - (s1 - x2))))] [] (Z, Rf, K, n, z) Q) := (w_iload_n t17_45 rfl rfl).trans ((w_isub t17_46 rfl).trans ((w_abs t17_47 rfl (Nat.le_of_ble_eq_true rfl) rfl).trans ((w_iadd t17_50 rfl).trans ((w_istore t17_51 rfl (Nat.le_of_ble_eq_true rfl) rfl).trans ((w_iload_n t17_53 rfl rfl).trans ((w_iconst t17_54 rfl).trans (w_iceq t17_55 rfl wl_m1 rfl rfl)))))))
set_option maxRecDepth 10000 in
theorem b17_58 {d : Nat} {l0 : Option sm_V} {l1 : Option sm_V} {l2 : Option sm_V} {l3 : Option sm_V} {x4 : Int} {l5 : Option sm_V} {x6 : Int} {Z : Nat → Nat → Int} {Rf : Nat → Nat → Option Nat} {K : Nat → Nat × Nat} {n z : Nat} {Q : Option sm_V → sm_S → Prop} : sm_wp d 17 58 [l0, l1, l2, l3, some (.inl x4), l5, some (.inl x6)] [] (Z, Rf, K, n, z) Q = (if wr x4 ≤ wr x6 then sm_wp d 17 72 [l0, l1, l2, l3, some (.inl x4), l5, some (.inl x6)] [] (Z, Rf, K, n, z) Q else sm_wp d 17 65 [l0, l1, l2, l3, some (.inl x4), l5, some (.inl x6)] [] (Z, Rf, K, n, z) Q) := (w_iload t17_58 rfl rfl).trans ((w_iload t17_60 rfl rfl).trans (w_icge t17_62 rfl rfl rfl rfl))
set_option maxRecDepth 10000 in
theorem b17_65 {d : Nat} {l0 : Option sm_V} {l1 : Option sm_V} {l2 : Option sm_V} {l3 : Option sm_V} {l4 : Option sm_V} {x5 : Int} {x6 : Int} {Z : Nat → Nat → Int} {Rf : Nat → Nat → Option Nat} {K : Nat → Nat × Nat} {n z : Nat} {Q : Option sm_V → sm_S → Prop} : sm_wp d 17 65 [l0, l1, l2, l3, l4, some (.inl x5), some (.inl x6)] [] (Z, Rf, K, n, z) Q = (sm_wp d 17 72 [l0, l1, l2, some (.inl x5), some (.inl x6), some (.inl x5), some (.inl x6)] [] (Z, Rf, K, n, z) Q) := (w_iload t17_65 rfl rfl).trans ((w_istore_n t17_67 rfl (Nat.le_of_ble_eq_true rfl) rfl).trans ((w_iload t17_68 rfl rfl).trans (w_istore t17_70 rfl (Nat.le_of_ble_eq_true rfl) rfl)))
set_option maxRecDepth 10000 in
theorem b17_72 {d : Nat} {l0 : Option sm_V} {l1 : Option sm_V} {l2 : Option sm_V} {l3 : Option sm_V} {l4 : Option sm_V} {x5 : Int} {l6 : Option sm_V} {Z : Nat → Nat → Int} {Rf : Nat → Nat → Option Nat} {K : Nat → Nat × Nat} {n z : Nat} {Q : Option sm_V → sm_S → Prop} : sm_wp d 17 72 [l0, l1, l2, l3, l4, some (.inl x5), l6] [] (Z, Rf, K, n, z) Q = (sm_wp d 17 8 [l0, l1, l2, l3, l4, some (.inl (x5 + 1)), l6] [] (Z, Rf, K, n, z) Q) := (w_iinc t17_72 rfl rfl (Nat.le_of_ble_eq_true rfl) rfl).trans (w_goto t17_75 rfl)
set_option maxRecDepth 10000 in
theorem b17_78 {d : Nat} {l0 : Option sm_V} {l1 : Option sm_V} {l2 : Option sm_V} {x3 : Int} {l4 : Option sm_V} {l5 : Option sm_V} {l6 : Option sm_V} {Z : Nat → Nat → Int} {Rf : Nat → Nat → Option Nat} {K : Nat → Nat × Nat} {n z : Nat} {Q : Option sm_V → sm_S → Prop} : sm_wp d 17 78 [l0, l1, l2, some (.inl x3), l4, l5, l6] [] (Z, Rf, K, n, z) Q = (Q (some (.inl x3)) (Z, Rf, K, n, z)) := (w_iload_n t17_78 rfl rfl).trans (w_iret t17_79)
theorem t18_0 : sm_at 18 0 = some (1, .iconst 0, 0, 0, 0) := rfl
theorem t18_1 : sm_at 18 1 = some (1, .istore_n 1, 0, 0, 0) := rfl
theorem t18_2 : sm_at 18 2 = some (1, .iload_n 1, 0, 0, 0) := rfl
theorem t18_3 : sm_at 18 3 = some (1, .aload_n 0, 0, 0, 0) := rfl
theorem t18_4 : sm_at 18 4 = some (3, .getfield 78, 1, 1, 0) := rfl
theorem t18_7 : sm_at 18 7 = some (3, .if_icmp .ge 58, 0, 0, 0) := rfl
theorem t18_10 : sm_at 18 10 = some (1, .iconst 0, 0, 0, 0) := rfl
theorem t18_11 : sm_at 18 11 = some (1, .istore_n 2, 0, 0, 0) := rfl
theorem t18_12 : sm_at 18 12 = some (1, .iload_n 2, 0, 0, 0) := rfl
theorem t18_13 : sm_at 18 13 = some (1, .aload_n 0, 0, 0, 0) := rfl
theorem t18_14 : sm_at 18 14 = some (3, .getfield 74, 1, 0, 0) := rfl
theorem t18_17 : sm_at 18 17 = some (3, .if_icmp .ge 42, 0, 0, 0) := rfl
theorem t18_20 : sm_at 18 20 = some (1, .iload_n 1, 0, 0, 0) := rfl
theorem t18_21 : sm_at 18 21 = some (2, .bipush 10, 0, 0, 0) := rfl
theorem t18_23 : sm_at 18 23 = some (1, .imul, 0, 0, 0) := rfl
theorem t18_24 : sm_at 18 24 = some (1, .iload_n 2, 0, 0, 0) := rfl
theorem t18_25 : sm_at 18 25 = some (1, .iadd, 0, 0, 0) := rfl
theorem t18_26 : sm_at 18 26 = some (1, .istore_n 3, 0, 0, 0) := rfl
theorem t18_27 : sm_at 18 27 = some (1, .aload_n 0, 0, 0, 0) := rfl
theorem t18_28 : sm_at 18 28 = some (3, .getfield 9, 1, 4, 0) := rfl
theorem t18_31 : sm_at 18 31 = some (1, .iload_n 3, 0, 0, 0) := rfl
theorem t18_32 : sm_at 18 32 = some (1, .aload_n 0, 0, 0, 0) := rfl
theorem t18_33 : sm_at 18 33 = some (1, .aload_n 0, 0, 0, 0) := rfl
theorem t18_34 : sm_at 18 34 = some (3, .getfield 21, 1, 7, 0) := rfl
theorem t18_37 : sm_at 18 37 = some (1, .iload_n 3, 0, 0, 0) := rfl
theorem t18_38 : sm_at 18 38 = some (1, .iaload, 0, 0, 0) := rfl
theorem t18_39 : sm_at 18 39 = some (3, .ifCond .eq 8, 0, 0, 0) := rfl
theorem t18_42 : sm_at 18 42 = some (2, .bipush 40, 0, 0, 0) := rfl
theorem t18_44 : sm_at 18 44 = some (3, .goto 5, 0, 0, 0) := rfl
theorem t18_47 : sm_at 18 47 = some (2, .bipush 10, 0, 0, 0) := rfl
theorem t18_49 : sm_at 18 49 = some (3, .invokevirtual 149, 19, 2, 0) := rfl
theorem t18_52 : sm_at 18 52 = some (1, .iastore, 0, 0, 0) := rfl
theorem t18_53 : sm_at 18 53 = some (3, .iinc 2 1, 0, 0, 0) := rfl
theorem t18_56 : sm_at 18 56 = some (3, .goto (-44), 0, 0, 0) := rfl
theorem t18_59 : sm_at 18 59 = some (3, .iinc 1 1, 0, 0, 0) := rfl
theorem t18_62 : sm_at 18 62 = some (3, .goto (-60), 0, 0, 0) := rfl
theorem t18_65 : sm_at 18 65 = some (1, .return_, 0, 0, 0) := rfl
set_option maxRecDepth 10000 in
theorem b18_0 {d : Nat} {l0 : Option sm_V} {l1 : Option sm_V} {l2 : Option sm_V} {l3 : Option sm_V} {Z : Nat → Nat → Int} {Rf : Nat → Nat → Option Nat} {K : Nat → Nat × Nat} {n z : Nat} {Q : Option sm_V → sm_S → Prop} : sm_wp d 18 0 [l0, l1, l2, l3] [] (Z, Rf, K, n, z) Q = (sm_wp d 18 2 [l0, some (.inl 0), l2, l3] [] (Z, Rf, K, n, z) Q) := (w_iconst t18_0 rfl).trans (w_istore_n t18_1 rfl (Nat.le_of_ble_eq_true rfl) rfl)
set_option maxRecDepth 10000 in
theorem b18_2 {d : Nat} {r0 : Nat} {x1 : Int} {l2 : Option sm_V} {l3 : Option sm_V} {Z : Nat → Nat → Int} {Rf : Nat → Nat → Option Nat} {K : Nat → Nat × Nat} {n z : Nat} {Q : Option sm_V → sm_S → Prop} : sm_wp d 18 2 [some (.inr (some r0)), some (.inl x1), l2, l3] [] (Z, Rf, K, n, z) Q = ((K r0).1 = 1 ∧ (if wr (Z r0 1) ≤ wr x1 then sm_wp d 18 65 [some (.inr (some r0)), some (.inl x1), l2, l3] [] (Z, Rf, K, n, z) Q else sm_wp d 18 10 [some (.inr (some r0)), some (.inl x1), l2, l3] [] (Z, Rf, K, n, z) Q)) := (w_iload_n t18_2 rfl rfl).trans ((w_aload_n t18_3 rfl rfl).trans ((w_getI t18_4 rfl (by decide)).trans (congrArg (And _) (w_icge t18_7 rfl rfl rfl rfl))))
set_option maxRecDepth 10000 in
theorem b18_10 {d : Nat} {l0 : Option sm_V} {l1 : Option sm_V} {l2 : Option sm_V} {l3 : Option sm_V} {Z : Nat → Nat → Int} {Rf : Nat → Nat → Option Nat} {K : Nat → Nat × Nat} {n z : Nat} {Q : Option sm_V → sm_S → Prop} : sm_wp d 18 10 [l0, l1, l2, l3] [] (Z, Rf, K, n, z) Q = (sm_wp d 18 12 [l0, l1, some (.inl 0), l3] [] (Z, Rf, K, n, z) Q) := (w_iconst t18_10 rfl).trans (w_istore_n t18_11 rfl (Nat.le_of_ble_eq_true rfl) rfl)
set_option maxRecDepth 10000 in
theorem b18_12 {d : Nat} {r0 : Nat} {l1 : Option sm_V} {x2 : Int} {l3 : Option sm_V} {Z : Nat → Nat → Int} {Rf : Nat → Nat → Option Nat} {K : Nat → Nat × Nat} {n z : Nat} {Q : Option sm_V → sm_S → Prop} : sm_wp d 18 12 [some (.inr (some r0)), l1, some (.inl x2), l3] [] (Z, Rf, K, n, z) Q = ((K r0).1 = 1 ∧ (if wr (Z r0 0) ≤ wr x2 then sm_wp d 18 59 [some (.inr (some r0)), l1, some (.inl x2), l3] [] (Z, Rf, K, n, z) Q else sm_wp d 18 20 [some (.inr (some r0)), l1, some (.inl x2), l3] [] (Z, Rf, K, n, z) Q)) := (w_iload_n t18_12 rfl rfl).trans ((w_aload_n t18_13 rfl rfl).trans ((w_getI t18_14 rfl (by decide)).trans (congrArg (And _) (w_icge t18_17 rfl rfl rfl rfl))))
set_option maxRecDepth 10000 in
theorem b18_20 {d : Nat} {r0 : Nat} {x1 : Int} {x2 : Int} {l3 : Option sm_V} {Z : Nat → Nat → Int} {Rf : Nat → Nat → Option Nat} {K : Nat → Nat × Nat} {n z : Nat} {Q : Option sm_V → sm_S → Prop} : sm_wp d 18 20 [some (.inr (some r0)), some (.inl x1), some (.inl x2), l3] [] (Z, Rf, K, n, z) Q = ((K r0).1 = 1 ∧ (Rf r0 4).isSome = true ∧ (K r0).1 = 1 ∧ (Rf r0 7).isSome = true ∧ sm_rd (K (((Rf r0 7).getD 0))) (wr ((x1 * 10) + x2)) ∧ (if wr (Z (((Rf r0 7).getD 0)) ((wr ((x1 * 10) + x2)).toNat)) = 0 then sm_wp d 18 47 [some (.inr (some r0)), some (.inl x1), some (.inl x2), some (.inl ((x1 * 10) + x2))] [.inr (some r0), .inl ((x1 * 10) + x2), .inr (some ((Rf r0 4).getD 0))] (Z, Rf, K, n, z) Q else sm_wp d 18 42 [some (.inr (some r0)), some (.inl x1), some (.inl x2), some (.inl ((x1 * 10) + x2))] [.inr (some r0), .inl ((x1 * 10) + x2), .inr (some ((Rf r0 4).getD 0))] (Z, Rf, K, n, z) Q)) := (w_iload_n t18_20 rfl rfl).trans ((w_bipush t18_21 rfl).trans ((w_imul t18_23 rfl).trans ((w_iload_n t18_24 rfl rfl).trans ((w_iadd t18_25 rfl).trans ((w_istore_n t18_26 rfl (Nat.le_of_ble_eq_true rfl) rfl).trans ((w_aload_n t18_27 rfl rfl).trans ((w_getR t18_28 rfl (by decide)).trans (congrArg (And _) (congrArg (And _) ((w_iload_n t18_31 rfl rfl).trans ((w_aload_n t18_32 rfl rfl).trans ((w_aload_n t18_33 rfl rfl).trans ((w_getR t18_34 rfl (by decide)).trans (congrArg (And _) (congrArg (And _) ((w_iload_n t18_37 rfl rfl).trans ((w_iald t18_38 rfl rfl).trans (congrArg (And _) (w_ifeq t18_39 rfl rfl rfl)))))))))))))))))))
set_option maxRecDepth 10000 in
theorem b18_42 {d : Nat} {l0 : Option sm_V} {l1 : Option sm_V} {l2 : Option sm_V} {l3 : Option sm_V} {qs0 : Option Nat} {s1 : Int} {qs2 : Option Nat} {Z : Nat → Nat → Int} {Rf : Nat → Nat → Option Nat} {K : Nat → Nat × Nat} {n z : Nat} {Q : Option sm_V → sm_S → Prop} : sm_wp d 18 42 [l0, l1, l2, l3] [.inr qs2, .inl s1, .inr qs0] (Z, Rf, K, n, z) Q = (sm_wp d 18 49 [l0, l1, l2, l3] [.inl 40, .inr qs2, .inl s1, .inr qs0] (Z, Rf, K, n, z) Q) := (w_bipush t18_42 rfl).trans (w_goto t18_44 rfl)
set_option maxRecDepth 10000 in
theorem b18_47 {d : Nat} {l0 : Option sm_V} {l1 : Option sm_V} {l2 : Option sm_V} {l3 : Option sm_V} {qs0 : Option Nat} {s1 : Int} {qs2 : Option Nat} {Z : Nat → Nat → Int} {Rf : Nat → Nat → Option Nat} {K : Nat → Nat × Nat} {n z : Nat} {Q : Option sm_V → sm_S → Prop} : sm_wp d 18 47 [l0, l1, l2, l3] [.inr qs2, .inl s1, .inr qs0] (Z, Rf, K, n, z) Q = (sm_wp d 18 49 [l0, l1, l2, l3] [.inl 10, .inr qs2, .inl s1, .inr qs0] (Z, Rf, K, n, z) Q) := w_bipush t18_47 rfl
set_option maxRecDepth 10000 in
theorem b18_49 {d : Nat} {l0 : Option sm_V} {l1 : Option sm_V} {l2 : Option sm_V} {l3 : Option sm_V} {qs0 : Option Nat} {s1 : Int} {rs2 : Nat} {s3 : Int} {Z : Nat → Nat → Int} {Rf : Nat → Nat → Option Nat} {K : Nat → Nat × Nat} {n z : Nat} {Q : Option sm_V → sm_S → Prop} : sm_wp (d + 1) 18 49 [l0, l1, l2, l3] [.inl s3, .inr (some rs2), .inl s1, .inr qs0] (Z, Rf, K, n, z) Q = ((K rs2).1 = 1 ∧ sm_call d 19 [.inr (some rs2), .inl s3] (Z, Rf, K, n, z) (sm_cont (d + 1) 18 52 [l0, l1, l2, l3] [.inl s1, .inr qs0] Q)) := w_callV t18_49 rfl rfl rfl rfl (Nat.le_of_ble_eq_true rfl) (Nat.le_of_ble_eq_true rfl) rfl (by decide)
set_option maxRecDepth 10000 in
theorem b18_52 {d : Nat} {l0 : Option sm_V} {l1 : Option sm_V} {x2 : Int} {l3 : Option sm_V} {rs0 : Nat} {s1 : Int} {s2 : Int} {Z : Nat → Nat → Int} {Rf : Nat → Nat → Option Nat} {K : Nat → Nat × Nat} {n z : Nat} {Q : Option sm_V → sm_S → Prop} : sm_wp d 18 52 [l0, l1, some (.inl x2), l3] [.inl s2, .inl s1, .inr (some rs0)] (Z, Rf, K, n, z) Q = (sm_wt (K rs0) (wr s1) ∧ sm_wp d 18 12 [l0, l1, some (.inl (x2 + 1)), l3] [] (sm_u Z rs0 ((wr s1).toNat) s2, Rf, K, n, z) Q) := (w_iast t18_52 rfl rfl).trans (congrArg (And _) ((w_iinc t18_53 rfl rfl (Nat.le_of_ble_eq_true rfl) rfl).trans (w_goto t18_56 rfl)))
set_option maxRecDepth 10000 in
theorem b18_59 {d : Nat} {l0 : Option sm_V} {x1 : Int} {l2 : Option sm_V} {l3 : Option sm_V} {Z : Nat → Nat → Int} {Rf : Nat → Nat → Option Nat} {K : Nat → Nat × Nat} {n z : Nat} {Q : Option sm_V → sm_S → Prop} : sm_wp d 18 59 [l0, some (.inl x1), l2, l3] [] (Z, Rf, K, n, z) Q = (sm_wp d 18 2 [l0, some (.inl (x1 + 1)), l2, l3] [] (Z, Rf, K, n, z) Q) := (w_iinc t18_59 rfl rfl (Nat.le_of_ble_eq_true rfl) rfl).trans (w_goto t18_62 rfl)
set_option maxRecDepth 10000 in
theorem b18_65 {d : Nat} {l0 : Option sm_V} {l1 : Option sm_V} {l2 : Option sm_V} {l3 : Option sm_V} {Z : Nat → Nat → Int} {Rf : Nat → Nat → Option Nat} {K : Nat → Nat × Nat} {n z : Nat} {Q : Option sm_V → sm_S → Prop} : sm_wp d 18 65 [l0, l1, l2, l3] [] (Z, Rf, K, n, z) Q = (Q none (Z, Rf, K, n, z)) := w_vret t18_65
theorem t19_0 : sm_at 19 0 = some (1, .aload_n 0, 0, 0, 0) := rfl
theorem t19_1 : sm_at 19 1 = some (1, .aload_n 0, 0, 0, 0) := rfl
theorem t19_2 : sm_at 19 2 = some (3, .getfield 96, 1, 2, 0) := rfl
theorem t19_5 : sm_at 19 5 = some (2, .ldc 152, 0, 0, 1664525) := rfl
theorem t19_7 : sm_at 19 7 = some (1, .imul, 0, 0, 0) := rfl
theorem t19_8 : sm_at 19 8 = some (2, .ldc 153, 0, 0, 1013904223) := rfl
theorem t19_10 : sm_at 19 10 = some (1, .iadd, 0, 0, 0) := rfl
theorem t19_11 : sm_at 19 11 = some (3, .putfield 96, 1, 2, 0) := rfl
theorem t19_14 : sm_at 19 14 = some (1, .iload_n 1, 0, 0, 0) := rfl
theorem t19_15 : sm_at 19 15 = some (3, .ifCond .le 15, 0, 0, 0) := rfl
theorem t19_18 : sm_at 19 18 = some (1, .aload_n 0, 0, 0, 0) := rfl
theorem t19_19 : sm_at 19 19 = some (3, .getfield 96, 1, 2, 0) := rfl
theorem t19_22 : sm_at 19 22 = some (2, .bipush 8, 0, 0, 0) := rfl
theorem t19_24 : sm_at 19 24 = some (1, .iushr, 0, 0, 0) := rfl
theorem t19_25 : sm_at 19 25 = some (1, .iload_n 1, 0, 0, 0) := rfl
theorem t19_26 : sm_at 19 26 = some (1, .irem, 0, 0, 0) := rfl
theorem t19_27 : sm_at 19 27 = some (3, .goto 4, 0, 0, 0) := rfl
theorem t19_30 : sm_at 19 30 = some (1, .iconst 0, 0, 0, 0) := rfl
theorem t19_31 : sm_at 19 31 = some (1, .ireturn, 0, 0, 0) := rfl
set_option maxRecDepth 10000 in
theorem b19_0 {d : Nat} {r0 : Nat} {x1 : Int} {Z : Nat → Nat → Int} {Rf : Nat → Nat → Option Nat} {K : Nat → Nat × Nat} {n z : Nat} {Q : Option sm_V → sm_S → Prop} : sm_wp d 19 0 [some (.inr (some r0)), some (.inl x1)] [] (Z, Rf, K, n, z) Q = ((K r0).1 = 1 ∧ (K r0).1 = 1 ∧ (if wr x1 ≤ 0 then sm_wp d 19 30 [some (.inr (some r0)), some (.inl x1)] [] (sm_u Z r0 2 (((Z r0 2) * 1664525) + 1013904223), Rf, K, n, z) Q else sm_wp d 19 18 [some (.inr (some r0)), some (.inl x1)] [] (sm_u Z r0 2 (((Z r0 2) * 1664525) + 1013904223), Rf, K, n, z) Q)) := (w_aload_n t19_0 rfl rfl).trans ((w_aload_n t19_1 rfl rfl).trans ((w_getI t19_2 rfl (by decide)).trans (congrArg (And _) ((w_ldci t19_5 rfl).trans ((w_imul t19_7 rfl).trans ((w_ldci t19_8 rfl).trans ((w_iadd t19_10 rfl).trans ((w_putI t19_11 rfl (by decide)).trans (congrArg (And _) ((w_iload_n t19_14 rfl rfl).trans (w_ifle t19_15 rfl rfl rfl)))))))))))
set_option maxRecDepth 10000 in
theorem b19_18 {d : Nat} {r0 : Nat} {x1 : Int} {Z : Nat → Nat → Int} {Rf : Nat → Nat → Option Nat} {K : Nat → Nat × Nat} {n z : Nat} {Q : Option sm_V → sm_S → Prop} : sm_wp d 19 18 [some (.inr (some r0)), some (.inl x1)] [] (Z, Rf, K, n, z) Q = ((K r0).1 = 1 ∧ ¬ wr x1 = 0 ∧ sm_wp d 19 31 [some (.inr (some r0)), some (.inl x1)] [.inl (sm_rem (sm_ushr (Z r0 2) 8) x1)] (Z, Rf, K, n, z) Q) := (w_aload_n t19_18 rfl rfl).trans ((w_getI t19_19 rfl (by decide)).trans (congrArg (And _) ((w_bipush t19_22 rfl).trans ((w_iushr t19_24 rfl).trans ((w_iload_n t19_25 rfl rfl).trans ((w_irem t19_26 rfl rfl).trans (congrArg (And _) (w_goto t19_27 rfl))))))))
set_option maxRecDepth 10000 in
theorem b19_30 {d : Nat} {l0 : Option sm_V} {l1 : Option sm_V} {Z : Nat → Nat → Int} {Rf : Nat → Nat → Option Nat} {K : Nat → Nat × Nat} {n z : Nat} {Q : Option sm_V → sm_S → Prop} : sm_wp d 19 30 [l0, l1] [] (Z, Rf, K, n, z) Q = (sm_wp d 19 31 [l0, l1] [.inl 0] (Z, Rf, K, n, z) Q) := w_iconst t19_30 rfl
set_option maxRecDepth 10000 in
theorem b19_31 {d : Nat} {l0 : Option sm_V} {l1 : Option sm_V} {s0 : Int} {Z : Nat → Nat → Int} {Rf : Nat → Nat → Option Nat} {K : Nat → Nat × Nat} {n z : Nat} {Q : Option sm_V → sm_S → Prop} : sm_wp d 19 31 [l0, l1] [.inl s0] (Z, Rf, K, n, z) Q = (Q (some (.inl s0)) (Z, Rf, K, n, z)) := w_iret t19_31
theorem t20_0 : sm_at 20 0 = some (1, .iconst 0, 0, 0, 0) := rfl
theorem t20_1 : sm_at 20 1 = some (1, .istore_n 2, 0, 0, 0) := rfl
theorem t20_2 : sm_at 20 2 = some (1, .iload_n 2, 0, 0, 0) := rfl
theorem t20_3 : sm_at 20 3 = some (2, .bipush 100, 0, 0, 0) := rfl
theorem t20_5 : sm_at 20 5 = some (3, .if_icmp .ge 62, 0, 0, 0) := rfl
theorem t20_8 : sm_at 20 8 = some (1, .aload_n 0, 0, 0, 0) := rfl
theorem t20_9 : sm_at 20 9 = some (3, .getfield 24, 1, 8, 0) := rfl
theorem t20_12 : sm_at 20 12 = some (1, .iload_n 2, 0, 0, 0) := rfl
theorem t20_13 : sm_at 20 13 = some (1, .iaload, 0, 0, 0) := rfl
theorem t20_14 : sm_at 20 14 = some (3, .ifCond .eq 47, 0, 0, 0) := rfl
theorem t20_17 : sm_at 20 17 = some (1, .aload_n 1, 0, 0, 0) := rfl
theorem t20_18 : sm_at 20 18 = some (3, .getfield 154, 0, 0, 0) := rfl
theorem t20_21 : sm_at 20 21 = some (1, .iload_n 2, 0, 0, 0) := rfl
theorem t20_22 : sm_at 20 22 = some (1, .iaload, 0, 0, 0) := rfl
theorem t20_23 : sm_at 20 23 = some (1, .istore_n 3, 0, 0, 0) := rfl
theorem t20_24 : sm_at 20 24 = some (1, .aload_n 0, 0, 0, 0) := rfl
theorem t20_25 : sm_at 20 25 = some (3, .getfield 30, 1, 10, 0) := rfl
theorem t20_28 : sm_at 20 28 = some (1, .iload_n 2, 0, 0, 0) := rfl
theorem t20_29 : sm_at 20 29 = some (1, .iaload, 0, 0, 0) := rfl
theorem t20_30 : sm_at 20 30 = some (1, .iconst (-1), 0, 0, 0) := rfl
theorem t20_31 : sm_at 20 31 = some (3, .if_icmp .eq 23, 0, 0, 0) := rfl
theorem t20_34 : sm_at 20 34 = some (1, .aload_n 0, 0, 0, 0) := rfl
theorem t20_35 : sm_at 20 35 = some (3, .getfield 30, 1, 10, 0) := rfl
theorem t20_38 : sm_at 20 38 = some (1, .iload_n 2, 0, 0, 0) := rfl
theorem t20_39 : sm_at 20 39 = some (1, .iaload, 0, 0, 0) := rfl
theorem t20_40 : sm_at 20 40 = some (1, .iload_n 3, 0, 0, 0) := rfl
theorem t20_41 : sm_at 20 41 = some (3, .if_icmp .eq 13, 0, 0, 0) := rfl
theorem t20_44 : sm_at 20 44 = some (1, .aload_n 0, 0, 0, 0) := rfl
theorem t20_45 : sm_at 20 45 = some (3, .getfield 27, 1, 9, 0) := rfl
theorem t20_48 : sm_at 20 48 = some (1, .iload_n 2, 0, 0, 0) := rfl
theorem t20_49 : sm_at 20 49 = some (1, .dup2, 0, 0, 0) := rfl
theorem t20_50 : sm_at 20 50 = some (1, .iaload, 0, 0, 0) := rfl
theorem t20_51 : sm_at 20 51 = some (1, .iconst 1, 0, 0, 0) := rfl
theorem t20_52 : sm_at 20 52 = some (1, .iadd, 0, 0, 0) := rfl
theorem t20_53 : sm_at 20 53 = some (1, .iastore, 0, 0, 0) := rfl
theorem t20_54 : sm_at 20 54 = some (1, .aload_n 0, 0, 0, 0) := rfl
theorem t20_55 : sm_at 20 55 = some (3, .getfield 30, 1, 10, 0) := rfl
theorem t20_58 : sm_at 20 58 = some (1, .iload_n 2, 0, 0, 0) := rfl
theorem t20_59 : sm_at 20 59 = some (1, .iload_n 3, 0, 0, 0) := rfl
theorem t20_60 : sm_at 20 60 = some (1, .iastore, 0, 0, 0) := rfl
theorem t20_61 : sm_at 20 61 = some (3, .iinc 2 1, 0, 0, 0) := rfl
theorem t20_64 : sm_at 20 64 = some (3, .goto (-62), 0, 0, 0) := rfl
theorem t20_67 : sm_at 20 67 = some (1, .return_, 0, 0, 0) := rfl
set_option maxRecDepth 10000 in
theorem b20_0 {d : Nat} {l0 : Option sm_V} {l1 : Option sm_V} {l2 : Option sm_V} {l3 : Option sm_V} {Z : Nat → Nat → Int} {Rf : Nat → Nat → Option Nat} {K : Nat → Nat × Nat} {n z : Nat} {Q : Option sm_V → sm_S → Prop} : sm_wp d 20 0 [l0, l1, l2, l3] [] (Z, Rf, K, n, z) Q = (sm_wp d 20 2 [l0, l1, some (.inl 0), l3] [] (Z, Rf, K, n, z) Q) := (w_iconst t20_0 rfl).trans (w_istore_n t20_1 rfl (Nat.le_of_ble_eq_true rfl) rfl)
set_option maxRecDepth 10000 in
theorem b20_2 {d : Nat} {l0 : Option sm_V} {l1 : Option sm_V} {x2 : Int} {l3 : Option sm_V} {Z : Nat → Nat → Int} {Rf : Nat → Nat → Option Nat} {K : Nat → Nat × Nat} {n z : Nat} {Q : Option sm_V → sm_S → Prop} : sm_wp d 20 2 [l0, l1, some (.inl x2), l3] [] (Z, Rf, K, n, z) Q = (if (100 : Int) ≤ wr x2 then sm_wp d 20 67 [l0, l1, some (.inl x2), l3] [] (Z, Rf, K, n, z) Q else sm_wp d 20 8 [l0, l1, some (.inl x2), l3] [] (Z, Rf, K, n, z) Q) := (w_iload_n t20_2 rfl rfl).trans ((w_bipush t20_3 rfl).trans (w_icge t20_5 rfl wl_100 rfl rfl))
set_option maxRecDepth 10000 in
theorem b20_8 {d : Nat} {r0 : Nat} {l1 : Option sm_V} {x2 : Int} {l3 : Option sm_V} {Z : Nat → Nat → Int} {Rf : Nat → Nat → Option Nat} {K : Nat → Nat × Nat} {n z : Nat} {Q : Option sm_V → sm_S → Prop} : sm_wp d 20 8 [some (.inr (some r0)), l1, some (.inl x2), l3] [] (Z, Rf, K, n, z) Q = ((K r0).1 = 1 ∧ (Rf r0 8).isSome = true ∧ sm_rd (K (((Rf r0 8).getD 0))) (wr x2) ∧ (if wr (Z (((Rf r0 8).getD 0)) ((wr x2).toNat)) = 0 then sm_wp d 20 61 [some (.inr (some r0)), l1, some (.inl x2), l3] [] (Z, Rf, K, n, z) Q else sm_wp d 20 17 [some (.inr (some r0)), l1, some (.inl x2), l3] [] (Z, Rf, K, n, z) Q)) := (w_aload_n t20_8 rfl rfl).trans ((w_getR t20_9 rfl (by decide)).trans (congrArg (And _) (congrArg (And _) ((w_iload_n t20_12 rfl rfl).trans ((w_iald t20_13 rfl rfl).trans (congrArg (And _) (w_ifeq t20_14 rfl rfl rfl)))))))
set_option maxRecDepth 10000 in
theorem b20_17 {d : Nat} {r0 : Nat} {r1 : Nat} {x2 : Int} {l3 : Option sm_V} {Z : Nat → Nat → Int} {Rf : Nat → Nat → Option Nat} {K : Nat → Nat × Nat} {n z : Nat} {Q : Option sm_V → sm_S → Prop} : sm_wp d 20 17 [some (.inr (some r0)), some (.inr (some r1)), some (.inl x2), l3] [] (Z, Rf, K, n, z) Q = ((K r1).1 = 0 ∧ (Rf r1 0).isSome = true ∧ sm_rd (K (((Rf r1 0).getD 0))) (wr x2) ∧ (K r0).1 = 1 ∧ (Rf r0 10).isSome = true ∧ sm_rd (K (((Rf r0 10).getD 0))) (wr x2) ∧ (if wr (Z (((Rf r0 10).getD 0)) ((wr x2).toNat)) = (-1 : Int) then sm_wp d 20 54 [some (.inr (some r0)), some (.inr (some r1)), some (.inl x2), some (.inl (Z (((Rf r1 0).getD 0)) ((wr x2).toNat)))] [] (Z, Rf, K, n, z) Q else sm_wp d 20 34 [some (.inr (some r0)), some (.inr (some r1)), some (.inl x2), some (.inl (Z (((Rf r1 0).getD 0)) ((wr x2).toNat)))] [] (Z, Rf, K, n, z) Q)) := (w_aload_n t20_17 rfl rfl).trans ((w_getR t20_18 rfl (by decide)).trans (congrArg (And _) (congrArg (And _) ((w_iload_n t20_21 rfl rfl).trans ((w_iald t20_22 rfl rfl).trans (congrArg (And _) ((w_istore_n t20_23 rfl (Nat.le_of_ble_eq_true rfl) rfl).trans ((w_aload_n t20_24 rfl rfl).trans ((w_getR t20_25 rfl (by decide)).trans (congrArg (And _) (congrArg (And _) ((w_iload_n t20_28 rfl rfl).trans ((w_iald t20_29 rfl rfl).trans (congrArg (And _) ((w_iconst t20_30 rfl).trans (w_iceq t20_31 rfl wl_m1 rfl rfl))))))))))))))))
set_option maxRecDepth 10000 in
theorem b20_34 {d : Nat} {r0 : Nat} {l1 : Option sm_V} {x2 : Int} {x3 : Int} {Z : Nat → Nat → Int} {Rf : Nat → Nat → Option Nat} {K : Nat → Nat × Nat} {n z : Nat} {Q : Option sm_V → sm_S → Prop} : sm_wp d 20 34 [some (.inr (some r0)), l1, some (.inl x2), some (.inl x3)] [] (Z, Rf, K, n, z) Q = ((K r0).1 = 1 ∧ (Rf r0 10).isSome = true ∧ sm_rd (K (((Rf r0 10).getD 0))) (wr x2) ∧ (if wr (Z (((Rf r0 10).getD 0)) ((wr x2).toNat)) = wr x3 then sm_wp d 20 54 [some (.inr (some r0)), l1, some (.inl x2), some (.inl x3)] [] (Z, Rf, K, n, z) Q else sm_wp d 20 44 [some (.inr (some r0)), l1, some (.inl x2), some (.inl x3)] [] (Z, Rf, K, n, z) Q)) := (w_aload_n t20_34 rfl rfl).trans ((w_getR t20_35 rfl (by decide)).trans (congrArg (And _) (congrArg (And _) ((w_iload_n t20_38 rfl rfl).trans ((w_iald t20_39 rfl rfl).trans (congrArg (And _) ((w_iload_n t20_40 rfl rfl).trans (w_iceq t20_41 rfl rfl rfl rfl))))))))
set_option maxRecDepth 10000 in
theorem b20_44 {d : Nat} {r0 : Nat} {l1 : Option sm_V} {x2 : Int} {l3 : Option sm_V} {Z : Nat → Nat → Int} {Rf : Nat → Nat → Option Nat} {K : Nat → Nat × Nat} {n z : Nat} {Q : Option sm_V → sm_S → Prop} : sm_wp d 20 44 [some (.inr (some r0)), l1, some (.inl x2), l3] [] (Z, Rf, K, n, z) Q = ((K r0).1 = 1 ∧ (Rf r0 9).isSome = true ∧ sm_rd (K (((Rf r0 9).getD 0))) (wr x2) ∧ sm_wt (K (((Rf r0 9).getD 0))) (wr x2) ∧ sm_wp d 20 54 [some (.inr (some r0)), l1, some (.inl x2), l3] [] (sm_u Z (((Rf r0 9).getD 0)) ((wr x2).toNat) ((Z (((Rf r0 9).getD 0)) ((wr x2).toNat)) + 1), Rf, K, n, z) Q) := (w_aload_n t20_44 rfl rfl).trans ((w_getR t20_45 rfl (by decide)).trans (congrArg (And _) (congrArg (And _) ((w_iload_n t20_48 rfl rfl).trans ((w_dup2 t20_49 rfl).trans ((w_iald t20_50 rfl rfl).trans (congrArg (And _) ((w_iconst t20_51 rfl).trans ((w_iadd t20_52 rfl).trans ((w_iast t20_53 rfl rfl).trans (congrArg (And _) rfl)))))))))))
set_option maxRecDepth 10000 in
theorem b20_54 {d : Nat} {r0 : Nat} {l1 : Option sm_V} {x2 : Int} {x3 : Int} {Z : Nat → Nat → Int} {Rf : Nat → Nat → Option Nat} {K : Nat → Nat × Nat} {n z : Nat} {Q : Option sm_V → sm_S → Prop} : sm_wp d 20 54 [some (.inr (some r0)), l1, some (.inl x2), some (.inl x3)] [] (Z, Rf, K, n, z) Q = ((K r0).1 = 1 ∧ (Rf r0 10).isSome = true ∧ sm_wt (K (((Rf r0 10).getD 0))) (wr x2) ∧ sm_wp d 20 61 [some (.inr (some r0)), l1, some (.inl x2), some (.inl x3)] [] (sm_u Z (((Rf r0 10).getD 0)) ((wr x2).toNat) x3, Rf, K, n, z) Q) := (w_aload_n t20_54 rfl rfl).trans ((w_getR t20_55 rfl (by decide)).trans (congrArg (And _) (congrArg (And _) ((w_iload_n t20_58 rfl rfl).trans ((w_iload_n t20_59 rfl rfl).trans ((w_iast t20_60 rfl rfl).trans (congrArg (And _) rfl)))))))
set_option maxRecDepth 10000 in
theorem b20_61 {d : Nat} {l0 : Option sm_V} {l1 : Option sm_V} {x2 : Int} {l3 : Option sm_V} {Z : Nat → Nat → Int} {Rf : Nat → Nat → Option Nat} {K : Nat → Nat × Nat} {n z : Nat} {Q : Option sm_V → sm_S → Prop} : sm_wp d 20 61 [l0, l1, some (.inl x2), l3] [] (Z, Rf, K, n, z) Q = (sm_wp d 20 2 [l0, l1, some (.inl (x2 + 1)), l3] [] (Z, Rf, K, n, z) Q) := (w_iinc t20_61 rfl rfl (Nat.le_of_ble_eq_true rfl) rfl).trans (w_goto t20_64 rfl)
set_option maxRecDepth 10000 in
theorem b20_67 {d : Nat} {l0 : Option sm_V} {l1 : Option sm_V} {l2 : Option sm_V} {l3 : Option sm_V} {Z : Nat → Nat → Int} {Rf : Nat → Nat → Option Nat} {K : Nat → Nat × Nat} {n z : Nat} {Q : Option sm_V → sm_S → Prop} : sm_wp d 20 67 [l0, l1, l2, l3] [] (Z, Rf, K, n, z) Q = (Q none (Z, Rf, K, n, z)) := w_vret t20_67
theorem t21_0 : sm_at 21 0 = some (1, .aload_n 0, 0, 0, 0) := rfl
theorem t21_1 : sm_at 21 1 = some (3, .invokespecial 3, 1001, 1, 0) := rfl
theorem t21_4 : sm_at 21 4 = some (1, .aload_n 0, 0, 0, 0) := rfl
theorem t21_5 : sm_at 21 5 = some (1, .iload_n 1, 0, 0, 0) := rfl
theorem t21_6 : sm_at 21 6 = some (3, .putfield 9, 2, 0, 0) := rfl
theorem t21_9 : sm_at 21 9 = some (1, .aload_n 0, 0, 0, 0) := rfl
theorem t21_10 : sm_at 21 10 = some (1, .aload_n 2, 0, 0, 0) := rfl
theorem t21_11 : sm_at 21 11 = some (3, .putfield 15, 2, 1, 0) := rfl
theorem t21_14 : sm_at 21 14 = some (1, .return_, 0, 0, 0) := rfl
set_option maxRecDepth 10000 in
theorem b21_0 {d : Nat} {r0 : Nat} {x1 : Int} {q2 : Option Nat} {Z : Nat → Nat → Int} {Rf : Nat → Nat → Option Nat} {K : Nat → Nat × Nat} {n z : Nat} {Q : Option sm_V → sm_S → Prop} : sm_wp d 21 0 [some (.inr (some r0)), some (.inl x1), some (.inr q2)] [] (Z, Rf, K, n, z) Q = ((K r0).1 = 2 ∧ (K r0).1 = 2 ∧ Q none (sm_u Z r0 0 x1, sm_u Rf r0 1 q2, K, n, z)) := (w_aload_n t21_0 rfl rfl).trans ((w_oinit t21_1 rfl (Nat.le_of_ble_eq_true rfl)).trans ((w_aload_n t21_4 rfl rfl).trans ((w_iload_n t21_5 rfl rfl).trans ((w_putI t21_6 rfl (by decide)).trans (congrArg (And _) ((w_aload_n t21_9 rfl rfl).trans ((w_aload_n t21_10 rfl rfl).trans ((w_putR t21_11 rfl (by decide)).trans (congrArg (And _) (w_vret t21_14))))))))))
theorem t22_0 : sm_at 22 0 = some (1, .iconst 0, 0, 0, 0) := rfl
theorem t22_1 : sm_at 22 1 = some (1, .istore_n 3, 0, 0, 0) := rfl
theorem t22_2 : sm_at 22 2 = some (1, .iconst 0, 0, 0, 0) := rfl
theorem t22_3 : sm_at 22 3 = some (2, .istore 4, 0, 0, 0) := rfl
theorem t22_5 : sm_at 22 5 = some (2, .iload 4, 0, 0, 0) := rfl
theorem t22_7 : sm_at 22 7 = some (1, .aload_n 0, 0, 0, 0) := rfl
theorem t22_8 : sm_at 22 8 = some (3, .getfield 15, 2, 1, 0) := rfl
theorem t22_11 : sm_at 22 11 = some (1, .arraylength, 0, 0, 0) := rfl
theorem t22_12 : sm_at 22 12 = some (3, .if_icmp .ge 203, 0, 0, 0) := rfl
theorem t22_15 : sm_at 22 15 = some (1, .aload_n 0, 0, 0, 0) := rfl
theorem t22_16 : sm_at 22 16 = some (3, .getfield 15, 2, 1, 0) := rfl
theorem t22_19 : sm_at 22 19 = some (2, .iload 4, 0, 0, 0) := rfl
theorem t22_21 : sm_at 22 21 = some (1, .iaload, 0, 0, 0) := rfl
theorem t22_22 : sm_at 22 22 = some (2, .bipush 15, 0, 0, 0) := rfl
theorem t22_24 : sm_at 22 24 = some (1, .iand, 0, 0, 0) := rfl
theorem t22_25 : sm_at 22 25 = some (2, .istore 5, 0, 0, 0) := rfl
theorem t22_27 : sm_at 22 27 = some (1, .aload_n 0, 0, 0, 0) := rfl
theorem t22_28 : sm_at 22 28 = some (3, .getfield 15, 2, 1, 0) := rfl
theorem t22_31 : sm_at 22 31 = some (2, .iload 4, 0, 0, 0) := rfl
theorem t22_33 : sm_at 22 33 = some (1, .iaload, 0, 0, 0) := rfl
theorem t22_34 : sm_at 22 34 = some (1, .iconst 4, 0, 0, 0) := rfl
theorem t22_35 : sm_at 22 35 = some (1, .ishr, 0, 0, 0) := rfl
theorem t22_36 : sm_at 22 36 = some (2, .istore 6, 0, 0, 0) := rfl
theorem t22_38 : sm_at 22 38 = some (2, .iload 5, 0, 0, 0) := rfl
theorem t22_40 : sm_at 22 40 = some (2, .bipush 12, 0, 0, 0) := rfl
theorem t22_42 : sm_at 22 42 = some (3, .if_icmp .ne 6, 0, 0, 0) := rfl
theorem t22_45 : sm_at 22 45 = some (2, .iload 6, 0, 0, 0) := rfl
theorem t22_47 : sm_at 22 47 = some (1, .ireturn, 0, 0, 0) := rfl
theorem t22_48 : sm_at 22 48 = some (2, .iload 5, 0, 0, 0) := rfl
theorem t22_50 : sm_at 22 50 = some (3, .ifCond .eq 9, 0, 0, 0) := rfl
theorem t22_53 : sm_at 22 53 = some (2, .iload 5, 0, 0, 0) := rfl
theorem t22_55 : sm_at 22 55 = some (1, .iconst 1, 0, 0, 0) := rfl
theorem t22_56 : sm_at 22 56 = some (3, .if_icmp .ne 47, 0, 0, 0) := rfl
theorem t22_59 : sm_at 22 59 = some (1, .iload_n 3, 0, 0, 0) := rfl
theorem t22_60 : sm_at 22 60 = some (1, .aload_n 2, 0, 0, 0) := rfl
theorem t22_61 : sm_at 22 61 = some (1, .arraylength, 0, 0, 0) := rfl
theorem t22_62 : sm_at 22 62 = some (3, .if_icmp .ge 16, 0, 0, 0) := rfl
theorem t22_65 : sm_at 22 65 = some (2, .iload 5, 0, 0, 0) := rfl
theorem t22_67 : sm_at 22 67 = some (1, .iconst 1, 0, 0, 0) := rfl
theorem t22_68 : sm_at 22 68 = some (3, .if_icmp .ne 12, 0, 0, 0) := rfl
theorem t22_71 : sm_at 22 71 = some (2, .iload 6, 0, 0, 0) := rfl
theorem t22_73 : sm_at 22 73 = some (1, .aload_n 1, 0, 0, 0) := rfl
theorem t22_74 : sm_at 22 74 = some (1, .arraylength, 0, 0, 0) := rfl
theorem t22_75 : sm_at 22 75 = some (3, .if_icmp .lt 5, 0, 0, 0) := rfl
theorem t22_78 : sm_at 22 78 = some (1, .iconst 0, 0, 0, 0) := rfl
theorem t22_79 : sm_at 22 79 = some (1, .ireturn, 0, 0, 0) := rfl
theorem t22_80 : sm_at 22 80 = some (1, .aload_n 2, 0, 0, 0) := rfl
theorem t22_81 : sm_at 22 81 = some (1, .iload_n 3, 0, 0, 0) := rfl
theorem t22_82 : sm_at 22 82 = some (2, .iload 5, 0, 0, 0) := rfl
theorem t22_84 : sm_at 22 84 = some (3, .ifCond .ne 8, 0, 0, 0) := rfl
theorem t22_87 : sm_at 22 87 = some (2, .iload 6, 0, 0, 0) := rfl
theorem t22_89 : sm_at 22 89 = some (3, .goto 7, 0, 0, 0) := rfl
theorem t22_92 : sm_at 22 92 = some (1, .aload_n 1, 0, 0, 0) := rfl
theorem t22_93 : sm_at 22 93 = some (2, .iload 6, 0, 0, 0) := rfl
theorem t22_95 : sm_at 22 95 = some (1, .iaload, 0, 0, 0) := rfl
theorem t22_96 : sm_at 22 96 = some (1, .iastore, 0, 0, 0) := rfl
theorem t22_97 : sm_at 22 97 = some (3, .iinc 3 1, 0, 0, 0) := rfl
theorem t22_100 : sm_at 22 100 = some (3, .goto 109, 0, 0, 0) := rfl
theorem t22_103 : sm_at 22 103 = some (1, .iload_n 3, 0, 0, 0) := rfl
theorem t22_104 : sm_at 22 104 = some (1, .iconst 1, 0, 0, 0) := rfl
set_option maxRecDepth 100000 in
theorem t22_105 : sm_at 22 105 = some (3, .if_icmp .ge 5, 0, 0, 0) := rfl
set_option maxRecDepth 100000 in
theorem t22_108 : sm_at 22 108 = some (1, .iconst 0, 0, 0, 0) := rfl
set_option maxRecDepth 100000 in
theorem t22_109 : sm_at 22 109 = some (1, .ireturn, 0, 0, 0) := rfl
set_option maxRecDepth 100000 in
theorem t22_110 : sm_at 22 110 = some (2, .iload 5, 0, 0, 0) := rfl
set_option maxRecDepth 100000 in
theorem t22_112 : sm_at 22 112 = some (2, .bipush 13, 0, 0, 0) := rfl
set_option maxRecDepth 100000 in
theorem t22_114 : sm_at 22 114 = some (3, .if_icmp .ne 15, 0, 0, 0) := rfl
set_option maxRecDepth 100000 in
theorem t22_117 : sm_at 22 117 = some (3, .iinc 3 (-1), 0, 0, 0) := rfl
set_option maxRecDepth 100000 in
theorem t22_120 : sm_at 22 120 = some (1, .aload_n 2, 0, 0, 0) := rfl
set_option maxRecDepth 100000 in
theorem t22_121 : sm_at 22 121 = some (1, .iload_n 3, 0, 0, 0) := rfl
set_option maxRecDepth 100000 in
theorem t22_122 : sm_at 22 122 = some (1, .iaload, 0, 0, 0) := rfl
set_option maxRecDepth 100000 in
theorem t22_123 : sm_at 22 123 = some (3, .ifCond .eq 86, 0, 0, 0) := rfl
set_option maxRecDepth 100000 in
theorem t22_126 : sm_at 22 126 = some (2, .iload 6, 0, 0, 0) := rfl
set_option maxRecDepth 100000 in
theorem t22_128 : sm_at 22 128 = some (1, .ireturn, 0, 0, 0) := rfl
set_option maxRecDepth 100000 in
theorem t22_129 : sm_at 22 129 = some (2, .iload 5, 0, 0, 0) := rfl
set_option maxRecDepth 100000 in
theorem t22_131 : sm_at 22 131 = some (1, .iconst 3, 0, 0, 0) := rfl
set_option maxRecDepth 100000 in
theorem t22_132 : sm_at 22 132 = some (3, .if_icmp .ne 18, 0, 0, 0) := rfl
set_option maxRecDepth 100000 in
theorem t22_135 : sm_at 22 135 = some (1, .aload_n 2, 0, 0, 0) := rfl
set_option maxRecDepth 100000 in
theorem t22_136 : sm_at 22 136 = some (1, .iload_n 3, 0, 0, 0) := rfl
set_option maxRecDepth 100000 in
theorem t22_137 : sm_at 22 137 = some (1, .iconst 1, 0, 0, 0) := rfl
set_option maxRecDepth 100000 in
theorem t22_138 : sm_at 22 138 = some (1, .isub, 0, 0, 0) := rfl
set_option maxRecDepth 100000 in
theorem t22_139 : sm_at 22 139 = some (1, .iconst 1, 0, 0, 0) := rfl
set_option maxRecDepth 100000 in
theorem t22_140 : sm_at 22 140 = some (1, .aload_n 2, 0, 0, 0) := rfl
set_option maxRecDepth 100000 in
theorem t22_141 : sm_at 22 141 = some (1, .iload_n 3, 0, 0, 0) := rfl
set_option maxRecDepth 100000 in
theorem t22_142 : sm_at 22 142 = some (1, .iconst 1, 0, 0, 0) := rfl
set_option maxRecDepth 100000 in
theorem t22_143 : sm_at 22 143 = some (1, .isub, 0, 0, 0) := rfl
set_option maxRecDepth 100000 in
theorem t22_144 : sm_at 22 144 = some (1, .iaload, 0, 0, 0) := rfl
set_option maxRecDepth 100000 in
theorem t22_145 : sm_at 22 145 = some (1, .isub, 0, 0, 0) := rfl
set_option maxRecDepth 100000 in
theorem t22_146 : sm_at 22 146 = some (1, .iastore, 0, 0, 0) := rfl
set_option maxRecDepth 100000 in
theorem t22_147 : sm_at 22 147 = some (3, .goto 62, 0, 0, 0) := rfl
set_option maxRecDepth 100000 in
theorem t22_150 : sm_at 22 150 = some (2, .iload 5, 0, 0, 0) := rfl
set_option maxRecDepth 100000 in
theorem t22_152 : sm_at 22 152 = some (1, .iconst 2, 0, 0, 0) := rfl
set_option maxRecDepth 100000 in
theorem t22_153 : sm_at 22 153 = some (3, .if_icmp .ne 28, 0, 0, 0) := rfl
set_option maxRecDepth 100000 in
theorem t22_156 : sm_at 22 156 = some (1, .aload_n 2, 0, 0, 0) := rfl
set_option maxRecDepth 100000 in
theorem t22_157 : sm_at 22 157 = some (1, .iload_n 3, 0, 0, 0) := rfl
set_option maxRecDepth 100000 in
theorem t22_158 : sm_at 22 158 = some (1, .iconst 1, 0, 0, 0) := rfl
set_option maxRecDepth 100000 in
theorem t22_159 : sm_at 22 159 = some (1, .isub, 0, 0, 0) := rfl
set_option maxRecDepth 100000 in
theorem t22_160 : sm_at 22 160 = some (2, .iload 6, 0, 0, 0) := rfl
set_option maxRecDepth 100000 in
theorem t22_162 : sm_at 22 162 = some (3, .ifCond .ne 7, 0, 0, 0) := rfl
set_option maxRecDepth 100000 in
theorem t22_165 : sm_at 22 165 = some (1, .iconst 0, 0, 0, 0) := rfl
set_option maxRecDepth 100000 in
theorem t22_166 : sm_at 22 166 = some (3, .goto 11, 0, 0, 0) := rfl
set_option maxRecDepth 100000 in
theorem t22_169 : sm_at 22 169 = some (1, .aload_n 2, 0, 0, 0) := rfl
set_option maxRecDepth 100000 in
theorem t22_170 : sm_at 22 170 = some (1, .iload_n 3, 0, 0, 0) := rfl
set_option maxRecDepth 100000 in
theorem t22_171 : sm_at 22 171 = some (1, .iconst 1, 0, 0, 0) := rfl
set_option maxRecDepth 100000 in
theorem t22_172 : sm_at 22 172 = some (1, .isub, 0, 0, 0) := rfl
set_option maxRecDepth 100000 in
theorem t22_173 : sm_at 22 173 = some (1, .iaload, 0, 0, 0) := rfl
set_option maxRecDepth 100000 in
theorem t22_174 : sm_at 22 174 = some (2, .iload 6, 0, 0, 0) := rfl
set_option maxRecDepth 100000 in
theorem t22_176 : sm_at 22 176 = some (1, .idiv, 0, 0, 0) := rfl
set_option maxRecDepth 100000 in
theorem t22_177 : sm_at 22 177 = some (1, .iastore, 0, 0, 0) := rfl
set_option maxRecDepth 100000 in
theorem t22_178 : sm_at 22 178 = some (3, .goto 31, 0, 0, 0) := rfl
set_option maxRecDepth 100000 in
theorem t22_181 : sm_at 22 181 = some (1, .iload_n 3, 0, 0, 0) := rfl
set_option maxRecDepth 100000 in
theorem t22_182 : sm_at 22 182 = some (1, .iconst 2, 0, 0, 0) := rfl
set_option maxRecDepth 100000 in
theorem t22_183 : sm_at 22 183 = some (3, .if_icmp .ge 5, 0, 0, 0) := rfl
set_option maxRecDepth 100000 in
theorem t22_186 : sm_at 22 186 = some (1, .iconst 0, 0, 0, 0) := rfl
set_option maxRecDepth 100000 in
theorem t22_187 : sm_at 22 187 = some (1, .ireturn, 0, 0, 0) := rfl
set_option maxRecDepth 100000 in
theorem t22_188 : sm_at 22 188 = some (3, .iinc 3 (-1), 0, 0, 0) := rfl
set_option maxRecDepth 100000 in
theorem t22_191 : sm_at 22 191 = some (1, .aload_n 2, 0, 0, 0) := rfl
set_option maxRecDepth 100000 in
theorem t22_192 : sm_at 22 192 = some (1, .iload_n 3, 0, 0, 0) := rfl
set_option maxRecDepth 100000 in
theorem t22_193 : sm_at 22 193 = some (1, .iconst 1, 0, 0, 0) := rfl
set_option maxRecDepth 100000 in
theorem t22_194 : sm_at 22 194 = some (1, .isub, 0, 0, 0) := rfl
set_option maxRecDepth 100000 in
theorem t22_195 : sm_at 22 195 = some (2, .iload 5, 0, 0, 0) := rfl
set_option maxRecDepth 100000 in
theorem t22_197 : sm_at 22 197 = some (1, .aload_n 2, 0, 0, 0) := rfl
set_option maxRecDepth 100000 in
theorem t22_198 : sm_at 22 198 = some (1, .iload_n 3, 0, 0, 0) := rfl
set_option maxRecDepth 100000 in
theorem t22_199 : sm_at 22 199 = some (1, .iconst 1, 0, 0, 0) := rfl
set_option maxRecDepth 100000 in
theorem t22_200 : sm_at 22 200 = some (1, .isub, 0, 0, 0) := rfl
set_option maxRecDepth 100000 in
theorem t22_201 : sm_at 22 201 = some (1, .iaload, 0, 0, 0) := rfl
set_option maxRecDepth 100000 in
theorem t22_202 : sm_at 22 202 = some (1, .aload_n 2, 0, 0, 0) := rfl
set_option maxRecDepth 100000 in
theorem t22_203 : sm_at 22 203 = some (1, .iload_n 3, 0, 0, 0) := rfl
set_option maxRecDepth 100000 in
theorem t22_204 : sm_at 22 204 = some (1, .iaload, 0, 0, 0) := rfl
set_option maxRecDepth 100000 in
theorem t22_205 : sm_at 22 205 = some (3, .invokestatic 19, 23, 3, 0) := rfl
set_option maxRecDepth 100000 in
theorem t22_208 : sm_at 22 208 = some (1, .iastore, 0, 0, 0) := rfl
set_option maxRecDepth 100000 in
theorem t22_209 : sm_at 22 209 = some (3, .iinc 4 1, 0, 0, 0) := rfl
set_option maxRecDepth 100000 in
theorem t22_212 : sm_at 22 212 = some (3, .goto (-207), 0, 0, 0) := rfl
set_option maxRecDepth 100000 in
theorem t22_215 : sm_at 22 215 = some (1, .iconst 0, 0, 0, 0) := rfl
set_option maxRecDepth 100000 in
theorem t22_216 : sm_at 22 216 = some (1, .ireturn, 0, 0, 0) := rfl
set_option maxRecDepth 10000 in
theorem b22_0 {d : Nat} {l0 : Option sm_V} {l1 : Option sm_V} {l2 : Option sm_V} {l3 : Option sm_V} {l4 : Option sm_V} {l5 : Option sm_V} {l6 : Option sm_V} {Z : Nat → Nat → Int} {Rf : Nat → Nat → Option Nat} {K : Nat → Nat × Nat} {n z : Nat} {Q : Option sm_V → sm_S → Prop} : sm_wp d 22 0 [l0, l1, l2, l3, l4, l5, l6] [] (Z, Rf, K, n, z) Q = (sm_wp d 22 5 [l0, l1, l2, some (.inl 0), some (.inl 0), l5, l6] [] (Z, Rf, K, n, z) Q) := (w_iconst t22_0 rfl).trans ((w_istore_n t22_1 rfl (Nat.le_of_ble_eq_true rfl) rfl).trans ((w_iconst t22_2 rfl).trans (w_istore t22_3 rfl (Nat.le_of_ble_eq_true rfl) rfl)))
set_option maxRecDepth 10000 in
theorem b22_5 {d : Nat} {r0 : Nat} {l1 : Option sm_V} {l2 : Option sm_V} {l3 : Option sm_V} {x4 : Int} {l5 : Option sm_V} {l6 : Option sm_V} {Z : Nat → Nat → Int} {Rf : Nat → Nat → Option Nat} {K : Nat → Nat × Nat} {n z : Nat} {Q : Option sm_V → sm_S → Prop} : sm_wp d 22 5 [some (.inr (some r0)), l1, l2, l3, some (.inl x4), l5, l6] [] (Z, Rf, K, n, z) Q = ((K r0).1 = 2 ∧ (Rf r0 1).isSome = true ∧ ((K (((Rf r0 1).getD 0))).1 = 100 ∨ (K (((Rf r0 1).getD 0))).1 = 101 ∨ (K (((Rf r0 1).getD 0))).1 = 102 ∨ (K (((Rf r0 1).getD 0))).1 = 104) ∧ (if wr (((K (((Rf r0 1).getD 0))).2 : Int)) ≤ wr x4 then sm_wp d 22 215 [some (.inr (some r0)), l1, l2, l3, some (.inl x4), l5, l6] [] (Z, Rf, K, n, z) Q else sm_wp d 22 15 [some (.inr (some r0)), l1, l2, l3, some (.inl x4), l5, l6] [] (Z, Rf, K, n, z) Q)) := (w_iload t22_5 rfl rfl).trans ((w_aload_n t22_7 rfl rfl).trans ((w_getR t22_8 rfl (by decide)).trans (congrArg (And _) (congrArg (And _) ((w_alen t22_11 rfl).trans (congrArg (And _) (w_icge t22_12 rfl rfl rfl rfl)))))))
set_option maxRecDepth 10000 in
theorem b22_15 {d : Nat} {r0 : Nat} {l1 : Option sm_V} {l2 : Option sm_V} {l3 : Option sm_V} {x4 : Int} {l5 : Option sm_V} {l6 : Option sm_V} {Z : Nat → Nat → Int} {Rf : Nat → Nat → Option Nat} {K : Nat → Nat × Nat} {n z : Nat} {Q : Option sm_V → sm_S → Prop} : sm_wp d 22 15 [some (.inr (some r0)), l1, l2, l3, some (.inl x4), l5, l6] [] (Z, Rf, K, n, z) Q = ((K r0).1 = 2 ∧ (Rf r0 1).isSome = true ∧ sm_rd (K (((Rf r0 1).getD 0))) (wr x4) ∧ (K r0).1 = 2 ∧ (Rf r0 1).isSome = true ∧ sm_rd (K (((Rf r0 1).getD 0))) (wr x4) ∧ (if wr (sm_and (Z (((Rf r0 1).getD 0)) ((wr x4).toNat)) 15) = (12 : Int) then sm_wp d 22 45 [some (.inr (some r0)), l1, l2, l3, some (.inl x4), some (.inl (sm_and (Z (((Rf r0 1).getD 0)) ((wr x4).toNat)) 15)), some (.inl (sm_shr (Z (((Rf r0 1).getD 0)) ((wr x4).toNat)) 4))] [] (Z, Rf, K, n, z) Q else sm_wp d 22 48 [some (.inr (some r0)), l1, l2, l3, some (.inl x4), some (.inl (sm_and (Z (((Rf r0 1).getD 0)) ((wr x4).toNat)) 15)), some (.inl (sm_shr (Z (((Rf r0 1).getD 0)) ((wr x4).toNat)) 4))] [] (Z, Rf, K, n, z) Q)) := (w_aload_n t22_15 rfl rfl).trans ((w_getR t22_16 rfl (by decide)).trans (congrArg (And _) (congrArg (And _) ((w_iload t22_19 rfl rfl).trans ((w_iald t22_21 rfl rfl).trans (congrArg (And _) ((w_bipush t22_22 rfl).trans ((w_iand t22_24 rfl).trans ((w_istore t22_25 rfl (Nat.le_of_ble_eq_true rfl) rfl).trans ((w_aload_n t22_27 rfl rfl).trans ((w_getR t22_28 rfl (by decide)).trans (congrArg (And _) (congrArg (And _) ((w_iload t22_31 rfl rfl).trans ((w_iald t22_33 rfl rfl).trans (congrArg (And _) ((w_iconst t22_34 rfl).trans ((w_ishr t22_35 rfl).trans ((w_istore t22_36 rfl (Nat.le_of_ble_eq_true rfl) rfl).trans ((w_iload t22_38 rfl rfl).trans ((w_bipush t22_40 rfl).trans (w_icne t22_42 rfl wl_12 rfl rfl))))))))))))))))))))))
set_option maxRecDepth 10000 in
theorem b22_45 {d : Nat} {l0 : Option sm_V} {l1 : Option sm_V} {l2 : Option sm_V} {l3 : Option sm_V} {l4 : Option sm_V} {l5 : Option sm_V} {x6 : Int} {Z : Nat → Nat → Int} {Rf : Nat → Nat → Option Nat} {K : Nat → Nat × Nat} {n z : Nat} {Q : Option sm_V → sm_S → Prop} : sm_wp d 22 45 [l0, l1, l2, l3, l4, l5, some (.inl x6)] [] (Z, Rf, K, n, z) Q = (Q (some (.inl x6)) (Z, Rf, K, n, z)) := (w_iload t22_45 rfl rfl).trans (w_iret t22_47)
set_option maxRecDepth 10000 in
theorem b22_48 {d : Nat} {l0 : Option sm_V} {l1 : Option sm_V} {l2 : Option sm_V} {l3 : Option sm_V} {l4 : Option sm_V} {x5 : Int} {l6 : Option sm_V} {Z : Nat → Nat → Int} {Rf : Nat → Nat → Option Nat} {K : Nat → Nat × Nat} {n z : Nat} {Q : Option sm_V → sm_S → Prop} : sm_wp d 22 48 [l0, l1, l2, l3, l4, some (.inl x5), l6] [] (Z, Rf, K, n, z) Q = (if wr x5 = 0 then sm_wp d 22 59 [l0, l1, l2, l3, l4, some (.inl x5), l6] [] (Z, Rf, K, n, z) Q else sm_wp d 22 53 [l0, l1, l2, l3, l4, some (.inl x5), l6] [] (Z, Rf, K, n, z) Q) := (w_iload t22_48 rfl rfl).trans (w_ifeq t22_50 rfl rfl rfl)
set_option maxRecDepth 10000 in
theorem b22_53 {d : Nat} {l0 : Option sm_V} {l1 : Option sm_V} {l2 : Option sm_V} {l3 : Option sm_V} {l4 : Option sm_V} {x5 : Int} {l6 : Option sm_V} {Z : Nat → Nat → Int} {Rf : Nat → Nat → Option Nat} {K : Nat → Nat × Nat} {n z : Nat} {Q : Option sm_V → sm_S → Prop} : sm_wp d 22 53 [l0, l1, l2, l3, l4, some (.inl x5), l6] [] (Z, Rf, K, n, z) Q = (if wr x5 = (1 : Int) then sm_wp d 22 59 [l0, l1, l2, l3, l4, some (.inl x5), l6] [] (Z, Rf, K, n, z) Q else sm_wp d 22 103 [l0, l1, l2, l3, l4, some (.inl x5), l6] [] (Z, Rf, K, n, z) Q) := (w_iload t22_53 rfl rfl).trans ((w_iconst t22_55 rfl).trans (w_icne t22_56 rfl wl_1 rfl rfl))
set_option maxRecDepth 10000 in
theorem b22_59 {d : Nat} {l0 : Option sm_V} {l1 : Option sm_V} {r2 : Nat} {x3 : Int} {l4 : Option sm_V} {l5 : Option sm_V} {l6 : Option sm_V} {Z : Nat → Nat → Int} {Rf : Nat → Nat → Option Nat} {K : Nat → Nat × Nat} {n z : Nat} {Q : Option sm_V → sm_S → Prop} : sm_wp d 22 59 [l0, l1, some (.inr (some r2)), some (.inl x3), l4, l5, l6] [] (Z, Rf, K, n, z) Q = (((K r2).1 = 100 ∨ (K r2).1 = 101 ∨ (K r2).1 = 102 ∨ (K r2).1 = 104) ∧ (if wr (((K r2).2 : Int)) ≤ wr x3 then sm_wp d 22 78 [l0, l1, some (.inr (some r2)), some (.inl x3), l4, l5, l6] [] (Z, Rf, K, n, z) Q else sm_wp d 22 65 [l0, l1, some (.inr (some r2)), some (.inl x3), l4, l5, l6] [] (Z, Rf, K, n, z) Q)) := (w_iload_n t22_59 rfl rfl).trans ((w_aload_n t22_60 rfl rfl).trans ((w_alen t22_61 rfl).trans (congrArg (And _) (w_icge t22_62 rfl rfl rfl rfl))))
set_option maxRecDepth 10000 in
theorem b22_65 {d : Nat} {l0 : Option sm_V} {l1 : Option sm_V} {l2 : Option sm_V} {l3 : Option sm_V} {l4 : Option sm_V} {x5 : Int} {l6 : Option sm_V} {Z : Nat → Nat → Int} {Rf : Nat → Nat → Option Nat} {K : Nat → Nat × Nat} {n z : Nat} {Q : Option sm_V → sm_S → Prop} : sm_wp d 22 65 [l0, l1, l2, l3, l4, some (.inl x5), l6] [] (Z, Rf, K, n, z) Q = (if wr x5 = (1 : Int) then sm_wp d 22 71 [l0, l1, l2, l3, l4, some (.inl x5), l6] [] (Z, Rf, K, n, z) Q else sm_wp d 22 80 [l0, l1, l2, l3, l4, some (.inl x5), l6] [] (Z, Rf, K, n, z) Q) := (w_iload t22_65 rfl rfl).trans ((w_iconst t22_67 rfl).trans (w_icne t22_68 rfl wl_1 rfl rfl))
set_option maxRecDepth 10000 in
theorem b22_71 {d : Nat} {l0 : Option sm_V} {r1 : Nat} {l2 : Option sm_V} {l3 : Option sm_V} {l4 : Option sm_V} {l5 : Option sm_V} {x6 : Int} {Z : Nat → Nat → Int} {Rf : Nat → Nat → Option Nat} {K : Nat → Nat × Nat} {n z : Nat} {Q : Option sm_V → sm_S → Prop} : sm_wp d 22 71 [l0, some (.inr (some r1)), l2, l3, l4, l5, some (.inl x6)] [] (Z, Rf, K, n, z) Q = (((K r1).1 = 100 ∨ (K r1).1 = 101 ∨ (K r1).1 = 102 ∨ (K r1).1 = 104) ∧ (if wr x6 < wr (((K r1).2 : Int)) then sm_wp d 22 80 [l0, some (.inr (some r1)), l2, l3, l4, l5, some (.inl x6)] [] (Z, Rf, K, n, z) Q else sm_wp d 22 78 [l0, some (.inr (some r1)), l2, l3, l4, l5, some (.inl x6)] [] (Z, Rf, K, n, z) Q)) := (w_iload t22_71 rfl rfl).trans ((w_aload_n t22_73 rfl rfl).trans ((w_alen t22_74 rfl).trans (congrArg (And _) (w_iclt t22_75 rfl rfl rfl rfl))))
set_option maxRecDepth 10000 in
theorem b22_78 {d : Nat} {l0 : Option sm_V} {l1 : Option sm_V} {l2 : Option sm_V} {l3 : Option sm_V} {l4 : Option sm_V} {l5 : Option sm_V} {l6 : Option sm_V} {Z : Nat → Nat → Int} {Rf : Nat → Nat → Option Nat} {K : Nat → Nat × Nat} {n z : Nat} {Q : Option sm_V → sm_S → Prop} : sm_wp d 22 78 [l0, l1, l2, l3, l4, l5, l6] [] (Z, Rf, K, n, z) Q = (Q (some (.inl 0)) (Z, Rf, K, n, z)) := (w_iconst t22_78 rfl).trans (w_iret t22_79)
set_option maxRecDepth 10000 in
theorem b22_80 {d : Nat} {l0 : Option sm_V} {l1 : Option sm_V} {q2 : Option Nat} {x3 : Int} {l4 : Option sm_V} {x5 : Int} {l6 : Option sm_V} {Z : Nat → Nat → Int} {Rf : Nat → Nat → Option Nat} {K : Nat → Nat × Nat} {n z : Nat} {Q : Option sm_V → sm_S → Prop} : sm_wp d 22 80 [l0, l1, some (.inr q2), some (.inl x3), l4, some (.inl x5), l6] [] (Z, Rf, K, n, z) Q = (if wr x5 = 0 then sm_wp d 22 87 [l0, l1, some (.inr q2), some (.inl x3), l4, some (.inl x5), l6] [.inl x3, .inr q2] (Z, Rf, K, n, z) Q else sm_wp d 22 92 [l0, l1, some (.inr q2), some (.inl x3), l4, some (.inl x5), l6] [.inl x3, .inr q2] (Z, Rf, K, n, z) Q) := (w_aload_n t22_80 rfl rfl).trans ((w_iload_n t22_81 rfl rfl).trans ((w_iload t22_82 rfl rfl).trans (w_ifne t22_84 rfl rfl rfl)))
set_option maxRecDepth 10000 in
theorem b22_87 {d : Nat} {l0 : Option sm_V} {l1 : Option sm_V} {l2 : Option sm_V} {l3 : Option sm_V} {l4 : Option sm_V} {l5 : Option sm_V} {x6 : Int} {qs0 : Option Nat} {s1 : Int} {Z : Nat → Nat → Int} {Rf : Nat → Nat → Option Nat} {K : Nat → Nat × Nat} {n z : Nat} {Q : Option sm_V → sm_S → Prop} : sm_wp d 22 87 [l0, l1, l2, l3, l4, l5, some (.inl x6)] [.inl s1, .inr qs0] (Z, Rf, K, n, z) Q = (sm_wp d 22 96 [l0, l1, l2, l3, l4, l5, some (.inl x6)] [.inl x6, .inl s1, .inr qs0] (Z, Rf, K, n, z) Q) := (w_iload t22_87 rfl rfl).trans (w_goto t22_89 rfl)
set_option maxRecDepth 10000 in
theorem b22_92 {d : Nat} {l0 : Option sm_V} {r1 : Nat} {l2 : Option sm_V} {l3 : Option sm_V} {l4 : Option sm_V} {l5 : Option sm_V} {x6 : Int} {qs0 : Option Nat} {s1 : Int} {Z : Nat → Nat → Int} {Rf : Nat → Nat → Option Nat} {K : Nat → Nat × Nat} {n z : Nat} {Q : Option sm_V → sm_S → Prop} : sm_wp d 22 92 [l0, some (.inr (some r1)), l2, l3, l4, l5, some (.inl x6)] [.inl s1, .inr qs0] (Z, Rf, K, n, z) Q = (sm_rd (K r1) (wr x6) ∧ sm_wp d 22 96 [l0, some (.inr (some r1)), l2, l3, l4, l5, some (.inl x6)] [.inl (Z r1 ((wr x6).toNat)), .inl s1, .inr qs0] (Z, Rf, K, n, z) Q) := (w_aload_n t22_92 rfl rfl).trans ((w_iload t22_93 rfl rfl).trans ((w_iald t22_95 rfl rfl).trans (congrArg (And _) rfl)))
set_option maxRecDepth 10000 in
theorem b22_96 {d : Nat} {l0 : Option sm_V} {l1 : Option sm_V} {l2 : Option sm_V} {x3 : Int} {l4 : Option sm_V} {l5 : Option sm_V} {l6 : Option sm_V} {rs0 : Nat} {s1 : Int} {s2 : Int} {Z : Nat → Nat → Int} {Rf : Nat → Nat → Option Nat} {K : Nat → Nat × Nat} {n z : Nat} {Q : Option sm_V → sm_S → Prop} : sm_wp d 22 96 [l0, l1, l2, some (.inl x3), l4, l5, l6] [.inl s2, .inl s1, .inr (some rs0)] (Z, Rf, K, n, z) Q = (sm_wt (K rs0) (wr s1) ∧ sm_wp d 22 209 [l0, l1, l2, some (.inl (x3 + 1)), l4, l5, l6] [] (sm_u Z rs0 ((wr s1).toNat) s2, Rf, K, n, z) Q) := (w_iast t22_96 rfl rfl).trans (congrArg (And _) ((w_iinc t22_97 rfl rfl (Nat.le_of_ble_eq_true rfl) rfl).trans (w_goto t22_100 rfl)))
set_option maxRecDepth 10000 in
theorem b22_103 {d : Nat} {l0 : Option sm_V} {l1 : Option sm_V} {l2 : Option sm_V} {x3 : Int} {l4 : Option sm_V} {l5 : Option sm_V} {l6 : Option sm_V} {Z : Nat → Nat → Int} {Rf : Nat → Nat → Option Nat} {K : Nat → Nat × Nat} {n z : Nat} {Q : Option sm_V → sm_S → Prop} : sm_wp d 22 103 [l0, l1, l2, some (.inl x3), l4, l5, l6] [] (Z, Rf, K, n, z) Q = (if (1 : Int) ≤ wr x3 then sm_wp d 22 110 [l0, l1, l2, some (.inl x3), l4, l5, l6] [] (Z, Rf, K, n, z) Q else sm_wp d 22 108 [l0, l1, l2, some (.inl x3), l4, l5, l6] [] (Z, Rf, K, n, z) Q) := (w_iload_n t22_103 rfl rfl).trans ((w_iconst t22_104 rfl).trans (w_icge t22_105 rfl wl_1 rfl rfl))
set_option maxRecDepth 10000 in
theorem b22_108 {d : Nat} {l0 : Option sm_V} {l1 : Option sm_V} {l2 : Option sm_V} {l3 : Option sm_V} {l4 : Option sm_V} {l5 : Option sm_V} {l6 : Option sm_V} {Z : Nat → Nat → Int} {Rf : Nat → Nat → Option Nat} {K : Nat → Nat × Nat} {n z : Nat} {Q : Option sm_V → sm_S → Prop} : sm_wp d 22 108 [l0, l1, l2, l3, l4, l5, l6] [] (Z, Rf, K, n, z) Q = (Q (some (.inl 0)) (Z, Rf, K, n, z)) := (w_iconst t22_108 rfl).trans (w_iret t22_109)
set_option maxRecDepth 10000 in
theorem b22_110 {d : Nat} {l0 : Option sm_V} {l1 : Option sm_V} {l2 : Option sm_V} {l3 : Option sm_V} {l4 : Option sm_V} {x5 : Int} {l6 : Option sm_V} {Z : Nat → Nat → Int} {Rf : Nat → Nat → Option Nat} {K : Nat → Nat × Nat} {n z : Nat} {Q : Option sm_V → sm_S → Prop} : sm_wp d 22 110 [l0, l1, l2, l3, l4, some (.inl x5), l6] [] (Z, Rf, K, n, z) Q = (if wr x5 = (13 : Int) then sm_wp d 22 117 [l0, l1, l2, l3, l4, some (.inl x5), l6] [] (Z, Rf, K, n, z) Q else sm_wp d 22 129 [l0, l1, l2, l3, l4, some (.inl x5), l6] [] (Z, Rf, K, n, z) Q) := (w_iload t22_110 rfl rfl).trans ((w_bipush t22_112 rfl).trans (w_icne t22_114 rfl wl_13 rfl rfl))
set_option maxRecDepth 10000 in
theorem b22_117 {d : Nat} {l0 : Option sm_V} {l1 : Option sm_V} {r2 : Nat} {x3 : Int} {l4 : Option sm_V} {l5 : Option sm_V} {l6 : Option sm_V} {Z : Nat → Nat → Int} {Rf : Nat → Nat → Option Nat} {K : Nat → Nat × Nat} {n z : Nat} {Q : Option sm_V → sm_S → Prop} : sm_wp d 22 117 [l0, l1, some (.inr (some r2)), some (.inl x3), l4, l5, l6] [] (Z, Rf, K, n, z) Q = (sm_rd (K r2) (wr (x3 + (-1))) ∧ (if wr (Z r2 ((wr (x3 + (-1))).toNat)) = 0 then sm_wp d 22 209 [l0, l1, some (.inr (some r2)), some (.inl (x3 + (-1))), l4, l5, l6] [] (Z, Rf, K, n, z) Q else sm_wp d 22 126 [l0, l1, some (.inr (some r2)), some (.inl (x3 + (-1))), l4, l5, l6] [] (Z, Rf, K, n, z) Q)) := (w_iinc t22_117 rfl rfl (Nat.le_of_ble_eq_true rfl) rfl).trans ((w_aload_n t22_120 rfl rfl).trans ((w_iload_n t22_121 rfl rfl).trans ((w_iald t22_122 rfl rfl).trans (congrArg (And _) (w_ifeq t22_123 rfl rfl rfl)))))
set_option maxRecDepth 10000 in
theorem b22_126 {d : Nat} {l0 : Option sm_V} {l1 : Option sm_V} {l2 : Option sm_V} {l3 : Option sm_V} {l4 : Option sm_V} {l5 : Option sm_V} {x6 : Int} {Z : Nat → Nat → Int} {Rf : Nat → Nat → Option Nat} {K : Nat → Nat × Nat} {n z : Nat} {Q : Option sm_V → sm_S → Prop} : sm_wp d 22 126 [l0, l1, l2, l3, l4, l5, some (.inl x6)] [] (Z, Rf, K, n, z) Q = (Q (some (.inl x6)) (Z, Rf, K, n, z)) := (w_iload t22_126 rfl rfl).trans (w_iret t22_128)
set_option maxRecDepth 10000 in
theorem b22_129 {d : Nat} {l0 : Option sm_V} {l1 : Option sm_V} {l2 : Option sm_V} {l3 : Option sm_V} {l4 : Option sm_V} {x5 : Int} {l6 : Option sm_V} {Z : Nat → Nat → Int} {Rf : Nat → Nat → Option Nat} {K : Nat → Nat × Nat} {n z : Nat} {Q : Option sm_V → sm_S → Prop} : sm_wp d 22 129 [l0, l1, l2, l3, l4, some (.inl x5), l6] [] (Z, Rf, K, n, z) Q = (if wr x5 = (3 : Int) then sm_wp d 22 135 [l0, l1, l2, l3, l4, some (.inl x5), l6] [] (Z, Rf, K, n, z) Q else sm_wp d 22 150 [l0, l1, l2, l3, l4, some (.inl x5), l6] [] (Z, Rf, K, n, z) Q) := (w_iload t22_129 rfl rfl).trans ((w_iconst t22_131 rfl).trans (w_icne t22_132 rfl wl_3 rfl rfl))
set_option maxRecDepth 10000 in
theorem b22_135 {d : Nat} {l0 : Option sm_V} {l1 : Option sm_V} {r2 : Nat} {x3 : Int} {l4 : Option sm_V} {l5 : Option sm_V} {l6 : Option sm_V} {Z : Nat → Nat → Int} {Rf : Nat → Nat → Option Nat} {K : Nat → Nat × Nat} {n z : Nat} {Q : Option sm_V → sm_S → Prop} : sm_wp d 22 135 [l0, l1, some (.inr (some r2)), some (.inl x3), l4, l5, l6] [] (Z, Rf, K, n, z) Q = (sm_rd (K r2) (wr (x3 - 1)) ∧ sm_wt (K r2) (wr (x3 - 1)) ∧ sm_wp d 22 209 [l0, l1, some (.inr (some r2)), some (.inl x3), l4, l5, l6] [] (sm_u Z r2 ((wr (x3 - 1)).toNat) (1 - (Z r2 ((wr (x3 - 1)).toNat))), Rf, K, n, z) Q) := (w_aload_n t22_135 rfl rfl).trans ((w_iload_n t22_136 rfl rfl).trans ((w_iconst t22_137 rfl).trans ((w_isub t22_138 rfl).trans ((w_iconst t22_139 rfl).trans ((w_aload_n t22_140 rfl rfl).trans ((w_iload_n t22_141 rfl rfl).trans ((w_iconst t22_142 rfl).trans ((w_isub t22_143 rfl).trans ((w_iald t22_144 rfl rfl).trans (congrArg (And _) ((w_isub t22_145 rfl).trans ((w_iast t22_146 rfl rfl).trans (congrArg (And _) (w_goto t22_147 rfl))))))))))))))
set_option maxRecDepth 10000 in
theorem b22_150 {d : Nat} {l0 : Option sm_V} {l1 : Option sm_V} {l2 : Option sm_V} {l3 : Option sm_V} {l4 : Option sm_V} {x5 : Int} {l6 : Option sm_V} {Z : Nat → Nat → Int} {Rf : Nat → Nat → Option Nat} {K : Nat → Nat × Nat} {n z : Nat} {Q : Option sm_V → sm_S → Prop} : sm_wp d 22 150 [l0, l1, l2, l3, l4, some (.inl x5), l6] [] (Z, Rf, K, n, z) Q = (if wr x5 = (2 : Int) then sm_wp d 22 156 [l0, l1, l2, l3, l4, some (.inl x5), l6] [] (Z, Rf, K, n, z) Q else sm_wp d 22 181 [l0, l1, l2, l3, l4, some (.inl x5), l6] [] (Z, Rf, K, n, z) Q) := (w_iload t22_150 rfl rfl).trans ((w_iconst t22_152 rfl).trans (w_icne t22_153 rfl wl_2 rfl rfl))
set_option maxRecDepth 10000 in
theorem b22_156 {d : Nat} {l0 : Option sm_V} {l1 : Option sm_V} {q2 : Option Nat} {x3 : Int} {l4 : Option sm_V} {l5 : Option sm_V} {x6 : Int} {Z : Nat → Nat → Int} {Rf : Nat → Nat → Option Nat} {K : Nat → Nat × Nat} {n z : Nat} {Q : Option sm_V → sm_S → Prop} : sm_wp d 22 156 [l0, l1, some (.inr q2), some (.inl x3), l4, l5, some (.inl x6)] [] (Z, Rf, K, n, z) Q = (if wr x6 = 0 then sm_wp d 22 165 [l0, l1, some (.inr q2), some (.inl x3), l4, l5, some (.inl x6)] [.inl (x3 - 1), .inr q2] (Z, Rf, K, n, z) Q else sm_wp d 22 169 [l0, l1, some (.inr q2), some (.inl x3), l4, l5, some (.inl x6)] [.inl (x3 - 1), .inr q2] (Z, Rf, K, n, z) Q) := (w_aload_n t22_156 rfl rfl).trans ((w_iload_n t22_157 rfl rfl).trans ((w_iconst t22_158 rfl).trans ((w_isub t22_159 rfl).trans ((w_iload t22_160 rfl rfl).trans (w_ifne t22_162 rfl rfl rfl)))))
set_option maxRecDepth 10000 in
theorem b22_165 {d : Nat} {l0 : Option sm_V} {l1 : Option sm_V} {l2 : Option sm_V} {l3 : Option sm_V} {l4 : Option sm_V} {l5 : Option sm_V} {l6 : Option sm_V} {qs0 : Option Nat} {s1 : Int} {Z : Nat → Nat → Int} {Rf : Nat → Nat → Option Nat} {K : Nat → Nat × Nat} {n z : Nat} {Q : Option sm_V → sm_S → Prop} : sm_wp d 22 165 [l0, l1, l2, l3, l4, l5, l6] [.inl s1, .inr qs0] (Z, Rf, K, n, z) Q = (sm_wp d 22 177 [l0, l1, l2, l3, l4, l5, l6] [.inl 0, .inl s1, .inr qs0] (Z, Rf, K, n, z) Q) := (w_iconst t22_165 rfl).trans (w_goto t22_166 rfl)
set_option maxRecDepth 10000 in
theorem b22_169 {d : Nat} {l0 : Option sm_V} {l1 : Option sm_V} {r2 : Nat} {x3 : Int} {l4 : Option sm_V} {l5 : Option sm_V} {x6 : Int} {qs0 : Option Nat} {s1 : Int} {Z : Nat → Nat → Int} {Rf : Nat → Nat → Option Nat} {K : Nat → Nat × Nat} {n z : Nat} {Q : Option sm_V → sm_S → Prop} : sm_wp d 22 169 [l0, l1, some (.inr (some r2)), some (.inl x3), l4, l5, some (.inl x6)] [.inl s1, .inr qs0] (Z, Rf, K, n, z) Q = (sm_rd (K r2) (wr (x3 - 1)) ∧ ¬ wr x6 = 0 ∧ sm_wp d 22 177 [l0, l1, some (.inr (some r2)), some (.inl x3), l4, l5, some (.inl x6)] [.inl (sm_div (Z r2 ((wr (x3 - 1)).toNat)) x6), .inl s1, .inr qs0] (Z, Rf, K, n, z) Q) := (w_aload_n t22_169 rfl rfl).trans ((w_iload_n t22_170 rfl rfl).trans ((w_iconst t22_171 rfl).trans ((w_isub t22_172 rfl).trans ((w_iald t22_173 rfl rfl).trans (congrArg (And _) ((w_iload t22_174 rfl rfl).trans ((w_idiv t22_176 rfl rfl).trans (congrArg (And _) rfl))))))))
set_option maxRecDepth 10000 in
theorem b22_177 {d : Nat} {l0 : Option sm_V} {l1 : Option sm_V} {l2 : Option sm_V} {l3 : Option sm_V} {l4 : Option sm_V} {l5 : Option sm_V} {l6 : Option sm_V} {rs0 : Nat} {s1 : Int} {s2 : Int} {Z : Nat → Nat → Int} {Rf : Nat → Nat → Option Nat} {K : Nat → Nat × Nat} {n z : Nat} {Q : Option sm_V → sm_S → Prop} : sm_wp d 22 177 [l0, l1, l2, l3, l4, l5, l6] [.inl s2, .inl s1, .inr (some rs0)] (Z, Rf, K, n, z) Q = (sm_wt (K rs0) (wr s1) ∧ sm_wp d 22 209 [l0, l1, l2, l3, l4, l5, l6] [] (sm_u Z rs0 ((wr s1).toNat) s2, Rf, K, n, z) Q) := (w_iast t22_177 rfl rfl).trans (congrArg (And _) (w_goto t22_178 rfl))
set_option maxRecDepth 10000 in
theorem b22_181 {d : Nat} {l0 : Option sm_V} {l1 : Option sm_V} {l2 : Option sm_V} {x3 : Int} {l4 : Option sm_V} {l5 : Option sm_V} {l6 : Option sm_V} {Z : Nat → Nat → Int} {Rf : Nat → Nat → Option Nat} {K : Nat → Nat × Nat} {n z : Nat} {Q : Option sm_V → sm_S → Prop} : sm_wp d 22 181 [l0, l1, l2, some (.inl x3), l4, l5, l6] [] (Z, Rf, K, n, z) Q = (if (2 : Int) ≤ wr x3 then sm_wp d 22 188 [l0, l1, l2, some (.inl x3), l4, l5, l6] [] (Z, Rf, K, n, z) Q else sm_wp d 22 186 [l0, l1, l2, some (.inl x3), l4, l5, l6] [] (Z, Rf, K, n, z) Q) := (w_iload_n t22_181 rfl rfl).trans ((w_iconst t22_182 rfl).trans (w_icge t22_183 rfl wl_2 rfl rfl))
set_option maxRecDepth 10000 in
theorem b22_186 {d : Nat} {l0 : Option sm_V} {l1 : Option sm_V} {l2 : Option sm_V} {l3 : Option sm_V} {l4 : Option sm_V} {l5 : Option sm_V} {l6 : Option sm_V} {Z : Nat → Nat → Int} {Rf : Nat → Nat → Option Nat} {K : Nat → Nat × Nat} {n z : Nat} {Q : Option sm_V → sm_S → Prop} : sm_wp d 22 186 [l0, l1, l2, l3, l4, l5, l6] [] (Z, Rf, K, n, z) Q = (Q (some (.inl 0)) (Z, Rf, K, n, z)) := (w_iconst t22_186 rfl).trans (w_iret t22_187)
set_option maxRecDepth 10000 in
theorem b22_188 {d : Nat} {l0 : Option sm_V} {l1 : Option sm_V} {r2 : Nat} {x3 : Int} {l4 : Option sm_V} {x5 : Int} {l6 : Option sm_V} {Z : Nat → Nat → Int} {Rf : Nat → Nat → Option Nat} {K : Nat → Nat × Nat} {n z : Nat} {Q : Option sm_V → sm_S → Prop} : sm_wp (d + 1) 22 188 [l0, l1, some (.inr (some r2)), some (.inl x3), l4, some (.inl x5), l6] [] (Z, Rf, K, n, z) Q = (sm_rd (K r2) (wr ((x3 + (-1)) - 1)) ∧ sm_rd (K r2) (wr (x3 + (-1))) ∧ sm_call d 23 [.inl x5, .inl (Z r2 ((wr ((x3 + (-1)) - 1)).toNat)), .inl (Z r2 ((wr (x3 + (-1))).toNat))] (Z, Rf, K, n, z) (sm_cont (d + 1) 22 208 [l0, l1, some (.inr (some r2)), some (.inl (x3 + (-1))), l4, some (.inl x5), l6] [.inl ((x3 + (-1)) - 1), .inr (some r2)] Q)) := (w_iinc t22_188 rfl rfl (Nat.le_of_ble_eq_true rfl) rfl).trans ((w_aload_n t22_191 rfl rfl).trans ((w_iload_n t22_192 rfl rfl).trans ((w_iconst t22_193 rfl).trans ((w_isub t22_194 rfl).trans ((w_iload t22_195 rfl rfl).trans ((w_aload_n t22_197 rfl rfl).trans ((w_iload_n t22_198 rfl rfl).trans ((w_iconst t22_199 rfl).trans ((w_isub t22_200 rfl).trans ((w_iald t22_201 rfl rfl).trans (congrArg (And _) ((w_aload_n t22_202 rfl rfl).trans ((w_iload_n t22_203 rfl rfl).trans ((w_iald t22_204 rfl rfl).trans (congrArg (And _) (w_callS t22_205 rfl rfl rfl rfl (Nat.le_of_ble_eq_true rfl) (Nat.le_of_ble_eq_true rfl) rfl))))))))))))))))
set_option maxRecDepth 10000 in
theorem b22_208 {d : Nat} {l0 : Option sm_V} {l1 : Option sm_V} {l2 : Option sm_V} {l3 : Option sm_V} {l4 : Option sm_V} {l5 : Option sm_V} {l6 : Option sm_V} {rs0 : Nat} {s1 : Int} {s2 : Int} {Z : Nat → Nat → Int} {Rf : Nat → Nat → Option Nat} {K : Nat → Nat × Nat} {n z : Nat} {Q : Option sm_V → sm_S → Prop} : sm_wp d 22 208 [l0, l1, l2, l3, l4, l5, l6] [.inl s2, .inl s1, .inr (some rs0)] (Z, Rf, K, n, z) Q = (sm_wt (K rs0) (wr s1) ∧ sm_wp d 22 209 [l0, l1, l2, l3, l4, l5, l6] [] (sm_u Z rs0 ((wr s1).toNat) s2, Rf, K, n, z) Q) := (w_iast t22_208 rfl rfl).trans (congrArg (And _) rfl)
set_option maxRecDepth 10000 in
theorem b22_209 {d : Nat} {l0 : Option sm_V} {l1 : Option sm_V} {l2 : Option sm_V} {l3 : Option sm_V} {x4 : Int} {l5 : Option sm_V} {l6 : Option sm_V} {Z : Nat → Nat → Int} {Rf : Nat → Nat → Option Nat} {K : Nat → Nat × Nat} {n z : Nat} {Q : Option sm_V → sm_S → Prop} : sm_wp d 22 209 [l0, l1, l2, l3, some (.inl x4), l5, l6] [] (Z, Rf, K, n, z) Q = (sm_wp d 22 5 [l0, l1, l2, l3, some (.inl (x4 + 1)), l5, l6] [] (Z, Rf, K, n, z) Q) := (w_iinc t22_209 rfl rfl (Nat.le_of_ble_eq_true rfl) rfl).trans (w_goto t22_212 rfl)
set_option maxRecDepth 10000 in
theorem b22_215 {d : Nat} {l0 : Option sm_V} {l1 : Option sm_V} {l2 : Option sm_V} {l3 : Option sm_V} {l4 : Option sm_V} {l5 : Option sm_V} {l6 : Option sm_V} {Z : Nat → Nat → Int} {Rf : Nat → Nat → Option Nat} {K : Nat → Nat × Nat} {n z : Nat} {Q : Option sm_V → sm_S → Prop} : sm_wp d 22 215 [l0, l1, l2, l3, l4, l5, l6] [] (Z, Rf, K, n, z) Q = (Q (some (.inl 0)) (Z, Rf, K, n, z)) := (w_iconst t22_215 rfl).trans (w_iret t22_216)
theorem t23_0 : sm_at 23 0 = some (1, .iload_n 0, 0, 0, 0) := rfl
theorem t23_1 : sm_at 23 1 = some (43, .tableswitch 92 4 10 #[43, 47, 51, 55, 66, 77, 88], 0, 0, 0) := rfl
theorem t23_44 : sm_at 23 44 = some (1, .iload_n 1, 0, 0, 0) := rfl
theorem t23_45 : sm_at 23 45 = some (1, .iload_n 2, 0, 0, 0) := rfl
theorem t23_46 : sm_at 23 46 = some (1, .imul, 0, 0, 0) := rfl
theorem t23_47 : sm_at 23 47 = some (1, .ireturn, 0, 0, 0) := rfl
theorem t23_48 : sm_at 23 48 = some (1, .iload_n 1, 0, 0, 0) := rfl
theorem t23_49 : sm_at 23 49 = some (1, .iload_n 2, 0, 0, 0) := rfl
theorem t23_50 : sm_at 23 50 = some (1, .iadd, 0, 0, 0) := rfl
theorem t23_51 : sm_at 23 51 = some (1, .ireturn, 0, 0, 0) := rfl
theorem t23_52 : sm_at 23 52 = some (1, .iload_n 1, 0, 0, 0) := rfl
theorem t23_53 : sm_at 23 53 = some (1, .iload_n 2, 0, 0, 0) := rfl
theorem t23_54 : sm_at 23 54 = some (1, .isub, 0, 0, 0) := rfl
theorem t23_55 : sm_at 23 55 = some (1, .ireturn, 0, 0, 0) := rfl
theorem t23_56 : sm_at 23 56 = some (1, .iload_n 1, 0, 0, 0) := rfl
theorem t23_57 : sm_at 23 57 = some (1, .iload_n 2, 0, 0, 0) := rfl
theorem t23_58 : sm_at 23 58 = some (3, .if_icmp .ge 7, 0, 0, 0) := rfl
theorem t23_61 : sm_at 23 61 = some (1, .iconst 1, 0, 0, 0) := rfl
theorem t23_62 : sm_at 23 62 = some (3, .goto 4, 0, 0, 0) := rfl
theorem t23_65 : sm_at 23 65 = some (1, .iconst 0, 0, 0, 0) := rfl
theorem t23_66 : sm_at 23 66 = some (1, .ireturn, 0, 0, 0) := rfl
theorem t23_67 : sm_at 23 67 = some (1, .iload_n 1, 0, 0, 0) := rfl
theorem t23_68 : sm_at 23 68 = some (1, .iload_n 2, 0, 0, 0) := rfl
theorem t23_69 : sm_at 23 69 = some (3, .if_icmp .ne 7, 0, 0, 0) := rfl
theorem t23_72 : sm_at 23 72 = some (1, .iconst 1, 0, 0, 0) := rfl
theorem t23_73 : sm_at 23 73 = some (3, .goto 4, 0, 0, 0) := rfl
theorem t23_76 : sm_at 23 76 = some (1, .iconst 0, 0, 0, 0) := rfl
theorem t23_77 : sm_at 23 77 = some (1, .ireturn, 0, 0, 0) := rfl
theorem t23_78 : sm_at 23 78 = some (1, .iload_n 1, 0, 0, 0) := rfl
theorem t23_79 : sm_at 23 79 = some (1, .iload_n 2, 0, 0, 0) := rfl
theorem t23_80 : sm_at 23 80 = some (3, .if_icmp .le 7, 0, 0, 0) := rfl
theorem t23_83 : sm_at 23 83 = some (1, .iconst 1, 0, 0, 0) := rfl
theorem t23_84 : sm_at 23 84 = some (3, .goto 4, 0, 0, 0) := rfl
theorem t23_87 : sm_at 23 87 = some (1, .iconst 0, 0, 0, 0) := rfl
theorem t23_88 : sm_at 23 88 = some (1, .ireturn, 0, 0, 0) := rfl
theorem t23_89 : sm_at 23 89 = some (1, .iload_n 1, 0, 0, 0) := rfl
theorem t23_90 : sm_at 23 90 = some (1, .iload_n 2, 0, 0, 0) := rfl
theorem t23_91 : sm_at 23 91 = some (1, .iand, 0, 0, 0) := rfl
theorem t23_92 : sm_at 23 92 = some (1, .ireturn, 0, 0, 0) := rfl
theorem t23_93 : sm_at 23 93 = some (1, .iload_n 1, 0, 0, 0) := rfl
theorem t23_94 : sm_at 23 94 = some (1, .iload_n 2, 0, 0, 0) := rfl
theorem t23_95 : sm_at 23 95 = some (1, .ior, 0, 0, 0) := rfl
theorem t23_96 : sm_at 23 96 = some (1, .ireturn, 0, 0, 0) := rfl
set_option maxRecDepth 10000 in
theorem b23_0 {d : Nat} {x0 : Int} {l1 : Option sm_V} {l2 : Option sm_V} {Z : Nat → Nat → Int} {Rf : Nat → Nat → Option Nat} {K : Nat → Nat × Nat} {n z : Nat} {Q : Option sm_V → sm_S → Prop} : sm_wp d 23 0 [some (.inl x0), l1, l2] [] (Z, Rf, K, n, z) Q = (sm_wp d 23 (sm_sel (wr x0) 93 [(4, 44), (5, 48), (6, 52), (7, 56), (8, 67), (9, 78), (10, 89)]) [some (.inl x0), l1, l2] [] (Z, Rf, K, n, z) Q) := (w_iload_n t23_0 rfl rfl).trans (w_tsw t23_1 rfl rfl rfl (by decide))
set_option maxRecDepth 10000 in
theorem b23_44 {d : Nat} {l0 : Option sm_V} {x1 : Int} {x2 : Int} {Z : Nat → Nat → Int} {Rf : Nat → Nat → Option Nat} {K : Nat → Nat × Nat} {n z : Nat} {Q : Option sm_V → sm_S → Prop} : sm_wp d 23 44 [l0, some (.inl x1), some (.inl x2)] [] (Z, Rf, K, n, z) Q = (Q (some (.inl (x1 * x2))) (Z, Rf, K, n, z)) := (w_iload_n t23_44 rfl rfl).trans ((w_iload_n t23_45 rfl rfl).trans ((w_imul t23_46 rfl).trans (w_iret t23_47)))
set_option maxRecDepth 10000 in
theorem b23_48 {d : Nat} {l0 : Option sm_V} {x1 : Int} {x2 : Int} {Z : Nat → Nat → Int} {Rf : Nat → Nat → Option Nat} {K : Nat → Nat × Nat} {n z : Nat} {Q : Option sm_V → sm_S → Prop} : sm_wp d 23 48 [l0, some (.inl x1), some (.inl x2)] [] (Z, Rf, K, n, z) Q = (Q (some (.inl (x1 + x2))) (Z, Rf, K, n, z)) := (w_iload_n t23_48 rfl rfl).trans ((w_iload_n t23_49 rfl rfl).trans ((w_iadd t23_50 rfl).trans (w_iret t23_51)))
set_option maxRecDepth 10000 in
theorem b23_52 {d : Nat} {l0 : Option sm_V} {x1 : Int} {x2 : Int} {Z : Nat → Nat → Int} {Rf : Nat → Nat → Option Nat} {K : Nat → Nat × Nat} {n z : Nat} {Q : Option sm_V → sm_S → Prop} : sm_wp d 23 52 [l0, some (.inl x1), some (.inl x2)] [] (Z, Rf, K, n, z) Q = (Q (some (.inl (x1 - x2))) (Z, Rf, K, n, z)) := (w_iload_n t23_52 rfl rfl).trans ((w_iload_n t23_53 rfl rfl).trans ((w_isub t23_54 rfl).trans (w_iret t23_55)))
set_option maxRecDepth 10000 in
theorem b23_56 {d : Nat} {l0 : Option sm_V} {x1 : Int} {x2 : Int} {Z : Nat → Nat → Int} {Rf : Nat → Nat → Option Nat} {K : Nat → Nat × Nat} {n z : Nat} {Q : Option sm_V → sm_S → Prop} : sm_wp d 23 56 [l0, some (.inl x1), some (.inl x2)] [] (Z, Rf, K, n, z) Q = (if wr x2 ≤ wr x1 then sm_wp d 23 65 [l0, some (.inl x1), some (.inl x2)] [] (Z, Rf, K, n, z) Q else sm_wp d 23 61 [l0, some (.inl x1), some (.inl x2)] [] (Z, Rf, K, n, z) Q) := (w_iload_n t23_56 rfl rfl).trans ((w_iload_n t23_57 rfl rfl).trans (w_icge t23_58 rfl rfl rfl rfl))
set_option maxRecDepth 10000 in
theorem b23_61 {d : Nat} {l0 : Option sm_V} {l1 : Option sm_V} {l2 : Option sm_V} {Z : Nat → Nat → Int} {Rf : Nat → Nat → Option Nat} {K : Nat → Nat × Nat} {n z : Nat} {Q : Option sm_V → sm_S → Prop} : sm_wp d 23 61 [l0, l1, l2] [] (Z, Rf, K, n, z) Q = (sm_wp d 23 66 [l0, l1, l2] [.inl 1] (Z, Rf, K, n, z) Q) := (w_iconst t23_61 rfl).trans (w_goto t23_62 rfl)
set_option maxRecDepth 10000 in
theorem b23_65 {d : Nat} {l0 : Option sm_V} {l1 : Option sm_V} {l2 : Option sm_V} {Z : Nat → Nat → Int} {Rf : Nat → Nat → Option Nat} {K : Nat → Nat × Nat} {n z : Nat} {Q : Option sm_V → sm_S → Prop} : sm_wp d 23 65 [l0, l1, l2] [] (Z, Rf, K, n, z) Q = (sm_wp d 23 66 [l0, l1, l2] [.inl 0] (Z, Rf, K, n, z) Q) := w_iconst t23_65 rfl
set_option maxRecDepth 10000 in
theorem b23_66 {d : Nat} {l0 : Option sm_V} {l1 : Option sm_V} {l2 : Option sm_V} {s0 : Int} {Z : Nat → Nat → Int} {Rf : Nat → Nat → Option Nat} {K : Nat → Nat × Nat} {n z : Nat} {Q : Option sm_V → sm_S → Prop} : sm_wp d 23 66 [l0, l1, l2] [.inl s0] (Z, Rf, K, n, z) Q = (Q (some (.inl s0)) (Z, Rf, K, n, z)) := w_iret t23_66
set_option maxRecDepth 10000 in
theorem b23_67 {d : Nat} {l0 : Option sm_V} {x1 : Int} {x2 : Int} {Z : Nat → Nat → Int} {Rf : Nat → Nat → Option Nat} {K : Nat → Nat × Nat} {n z : Nat} {Q : Option sm_V → sm_S → Prop} : sm_wp d 23 67 [l0, some (.inl x1), some (.inl x2)] [] (Z, Rf, K, n, z) Q = (if wr x1 = wr x2 then sm_wp d 23 72 [l0, some (.inl x1), some (.inl x2)] [] (Z, Rf, K, n, z) Q else sm_wp d 23 76 [l0, some (.inl x1), some (.inl x2)] [] (Z, Rf, K, n, z) Q) := (w_iload_n t23_67 rfl rfl).trans ((w_iload_n t23_68 rfl rfl).trans (w_icne t23_69 rfl rfl rfl rfl))
set_option maxRecDepth 10000 in
theorem b23_72 {d : Nat} {l0 : Option sm_V} {l1 : Option sm_V} {l2 : Option sm_V} {Z : Nat → Nat → Int} {Rf : Nat → Nat → Option Nat} {K : Nat → Nat × Nat} {n z : Nat} {Q : Option sm_V → sm_S → Prop} : sm_wp d 23 72 [l0, l1, l2] [] (Z, Rf, K, n, z) Q = (sm_wp d 23 77 [l0, l1, l2] [.inl 1] (Z, Rf, K, n, z) Q) := (w_iconst t23_72 rfl).trans (w_goto t23_73 rfl)
set_option maxRecDepth 10000 in
theorem b23_76 {d : Nat} {l0 : Option sm_V} {l1 : Option sm_V} {l2 : Option sm_V} {Z : Nat → Nat → Int} {Rf : Nat → Nat → Option Nat} {K : Nat → Nat × Nat} {n z : Nat} {Q : Option sm_V → sm_S → Prop} : sm_wp d 23 76 [l0, l1, l2] [] (Z, Rf, K, n, z) Q = (sm_wp d 23 77 [l0, l1, l2] [.inl 0] (Z, Rf, K, n, z) Q) := w_iconst t23_76 rfl
set_option maxRecDepth 10000 in
theorem b23_77 {d : Nat} {l0 : Option sm_V} {l1 : Option sm_V} {l2 : Option sm_V} {s0 : Int} {Z : Nat → Nat → Int} {Rf : Nat → Nat → Option Nat} {K : Nat → Nat × Nat} {n z : Nat} {Q : Option sm_V → sm_S → Prop} : sm_wp d 23 77 [l0, l1, l2] [.inl s0] (Z, Rf, K, n, z) Q = (Q (some (.inl s0)) (Z, Rf, K, n, z)) := w_iret t23_77
set_option maxRecDepth 10000 in
theorem b23_78 {d : Nat} {l0 : Option sm_V} {x1 : Int} {x2 : Int} {Z : Nat → Nat → Int} {Rf : Nat → Nat → Option Nat} {K : Nat → Nat × Nat} {n z : Nat} {Q : Option sm_V → sm_S → Prop} : sm_wp d 23 78 [l0, some (.inl x1), some (.inl x2)] [] (Z, Rf, K, n, z) Q = (if wr x1 ≤ wr x2 then sm_wp d 23 87 [l0, some (.inl x1), some (.inl x2)] [] (Z, Rf, K, n, z) Q else sm_wp d 23 83 [l0, some (.inl x1), some (.inl x2)] [] (Z, Rf, K, n, z) Q) := (w_iload_n t23_78 rfl rfl).trans ((w_iload_n t23_79 rfl rfl).trans (w_icle t23_80 rfl rfl rfl rfl))
set_option maxRecDepth 10000 in
theorem b23_83 {d : Nat} {l0 : Option sm_V} {l1 : Option sm_V} {l2 : Option sm_V} {Z : Nat → Nat → Int} {Rf : Nat → Nat → Option Nat} {K : Nat → Nat × Nat} {n z : Nat} {Q : Option sm_V → sm_S → Prop} : sm_wp d 23 83 [l0, l1, l2] [] (Z, Rf, K, n, z) Q = (sm_wp d 23 88 [l0, l1, l2] [.inl 1] (Z, Rf, K, n, z) Q) := (w_iconst t23_83 rfl).trans (w_goto t23_84 rfl)
set_option maxRecDepth 10000 in
theorem b23_87 {d : Nat} {l0 : Option sm_V} {l1 : Option sm_V} {l2 : Option sm_V} {Z : Nat → Nat → Int} {Rf : Nat → Nat → Option Nat} {K : Nat → Nat × Nat} {n z : Nat} {Q : Option sm_V → sm_S → Prop} : sm_wp d 23 87 [l0, l1, l2] [] (Z, Rf, K, n, z) Q = (sm_wp d 23 88 [l0, l1, l2] [.inl 0] (Z, Rf, K, n, z) Q) := w_iconst t23_87 rfl
set_option maxRecDepth 10000 in
theorem b23_88 {d : Nat} {l0 : Option sm_V} {l1 : Option sm_V} {l2 : Option sm_V} {s0 : Int} {Z : Nat → Nat → Int} {Rf : Nat → Nat → Option Nat} {K : Nat → Nat × Nat} {n z : Nat} {Q : Option sm_V → sm_S → Prop} : sm_wp d 23 88 [l0, l1, l2] [.inl s0] (Z, Rf, K, n, z) Q = (Q (some (.inl s0)) (Z, Rf, K, n, z)) := w_iret t23_88
set_option maxRecDepth 10000 in
theorem b23_89 {d : Nat} {l0 : Option sm_V} {x1 : Int} {x2 : Int} {Z : Nat → Nat → Int} {Rf : Nat → Nat → Option Nat} {K : Nat → Nat × Nat} {n z : Nat} {Q : Option sm_V → sm_S → Prop} : sm_wp d 23 89 [l0, some (.inl x1), some (.inl x2)] [] (Z, Rf, K, n, z) Q = (Q (some (.inl (sm_and x1 x2))) (Z, Rf, K, n, z)) := (w_iload_n t23_89 rfl rfl).trans ((w_iload_n t23_90 rfl rfl).trans ((w_iand t23_91 rfl).trans (w_iret t23_92)))
set_option maxRecDepth 10000 in
theorem b23_93 {d : Nat} {l0 : Option sm_V} {x1 : Int} {x2 : Int} {Z : Nat → Nat → Int} {Rf : Nat → Nat → Option Nat} {K : Nat → Nat × Nat} {n z : Nat} {Q : Option sm_V → sm_S → Prop} : sm_wp d 23 93 [l0, some (.inl x1), some (.inl x2)] [] (Z, Rf, K, n, z) Q = (Q (some (.inl (sm_or x1 x2))) (Z, Rf, K, n, z)) := (w_iload_n t23_93 rfl rfl).trans ((w_iload_n t23_94 rfl rfl).trans ((w_ior t23_95 rfl).trans (w_iret t23_96)))
theorem t24_0 : sm_at 24 0 = some (1, .aload_n 0, 0, 0, 0) := rfl
theorem t24_1 : sm_at 24 1 = some (3, .invokespecial 3, 1001, 1, 0) := rfl
theorem t24_4 : sm_at 24 4 = some (1, .aload_n 0, 0, 0, 0) := rfl
theorem t24_5 : sm_at 24 5 = some (3, .sipush 400, 0, 0, 0) := rfl
theorem t24_8 : sm_at 24 8 = some (2, .newarray .int, 0, 0, 0) := rfl
theorem t24_10 : sm_at 24 10 = some (3, .putfield 9, 3, 0, 0) := rfl
theorem t24_13 : sm_at 24 13 = some (1, .aload_n 0, 0, 0, 0) := rfl
theorem t24_14 : sm_at 24 14 = some (2, .bipush 100, 0, 0, 0) := rfl
theorem t24_16 : sm_at 24 16 = some (2, .newarray .int, 0, 0, 0) := rfl
theorem t24_18 : sm_at 24 18 = some (3, .putfield 15, 3, 1, 0) := rfl
theorem t24_21 : sm_at 24 21 = some (1, .aload_n 0, 0, 0, 0) := rfl
theorem t24_22 : sm_at 24 22 = some (2, .bipush 100, 0, 0, 0) := rfl
theorem t24_24 : sm_at 24 24 = some (2, .newarray .int, 0, 0, 0) := rfl
theorem t24_26 : sm_at 24 26 = some (3, .putfield 18, 3, 2, 0) := rfl
theorem t24_29 : sm_at 24 29 = some (1, .return_, 0, 0, 0) := rfl
set_option maxRecDepth 10000 in
theorem b24_0 {d : Nat} {r0 : Nat} {Z : Nat → Nat → Int} {Rf : Nat → Nat → Option Nat} {K : Nat → Nat × Nat} {n z : Nat} {Q : Option sm_V → sm_S → Prop} : sm_wp d 24 0 [some (.inr (some r0))] [] (Z, Rf, K, n, z) Q = ((n < 1000000 ∧ 0 ≤ (400 : Int) ∧ (400 : Int) ≤ 65536) ∧ ((sm_k K n (100, 400)) r0).1 = 3 ∧ (n + 1 < 1000000 ∧ 0 ≤ (100 : Int) ∧ (100 : Int) ≤ 65536) ∧ ((sm_k (sm_k K n (100, 400)) (n + 1) (100, 100)) r0).1 = 3 ∧ (n + 1 + 1 < 1000000 ∧ 0 ≤ (100 : Int) ∧ (100 : Int) ≤ 65536) ∧ ((sm_k (sm_k (sm_k K n (100, 400)) (n + 1) (100, 100)) (n + 1 + 1) (100, 100)) r0).1 = 3 ∧ Q none (sm_r (sm_r (sm_r Z n (fun _ => 0)) (n + 1) (fun _ => 0)) (n + 1 + 1) (fun _ => 0), sm_u (sm_r (sm_u (sm_r (sm_u (sm_r Rf n (fun _ => none)) r0 0 (some n)) (n + 1) (fun _ => none)) r0 1 (some (n + 1))) (n + 1 + 1) (fun _ => none)) r0 2 (some (n + 1 + 1)), sm_k (sm_k (sm_k K n (100, 400)) (n + 1) (100, 100)) (n + 1 + 1) (100, 100), n + 1 + 1 + 1, z + 400 + 100 + 100)) := (w_aload_n t24_0 rfl rfl).trans ((w_oinit t24_1 rfl (Nat.le_of_ble_eq_true rfl)).trans ((w_aload_n t24_4 rfl rfl).trans ((w_sipush t24_5 rfl).trans ((w_newa t24_8 rfl wl_400).trans (congrArg (And _) ((w_putR t24_10 rfl (by decide)).trans (congrArg (And _) ((w_aload_n t24_13 rfl rfl).trans ((w_bipush t24_14 rfl).trans ((w_newa t24_16 rfl wl_100).trans (congrArg (And _) ((w_putR t24_18 rfl (by decide)).trans (congrArg (And _) ((w_aload_n t24_21 rfl rfl).trans ((w_bipush t24_22 rfl).trans ((w_newa t24_24 rfl wl_100).trans (congrArg (And _) ((w_putR t24_26 rfl (by decide)).trans (congrArg (And _) (w_vret t24_29))))))))))))))))))))
theorem t25_0 : sm_at 25 0 = some (1, .aload_n 0, 0, 0, 0) := rfl
theorem t25_1 : sm_at 25 1 = some (3, .getfield 9, 3, 0, 0) := rfl
theorem t25_4 : sm_at 25 4 = some (1, .iconst 0, 0, 0, 0) := rfl
theorem t25_5 : sm_at 25 5 = some (3, .invokestatic 21, 205, 2, 0) := rfl
theorem t25_8 : sm_at 25 8 = some (1, .iconst 0, 0, 0, 0) := rfl
theorem t25_9 : sm_at 25 9 = some (2, .istore 4, 0, 0, 0) := rfl
theorem t25_11 : sm_at 25 11 = some (2, .iload 4, 0, 0, 0) := rfl
theorem t25_13 : sm_at 25 13 = some (1, .iconst 4, 0, 0, 0) := rfl
theorem t25_14 : sm_at 25 14 = some (3, .if_icmp .ge 25, 0, 0, 0) := rfl
theorem t25_17 : sm_at 25 17 = some (1, .aload_n 0, 0, 0, 0) := rfl
theorem t25_18 : sm_at 25 18 = some (1, .aload_n 1, 0, 0, 0) := rfl
theorem t25_19 : sm_at 25 19 = some (1, .iload_n 2, 0, 0, 0) := rfl
theorem t25_20 : sm_at 25 20 = some (1, .iload_n 3, 0, 0, 0) := rfl
theorem t25_21 : sm_at 25 21 = some (3, .invokevirtual 27, 26, 4, 0) := rfl
theorem t25_24 : sm_at 25 24 = some (3, .ifCond .eq 15, 0, 0, 0) := rfl
theorem t25_27 : sm_at 25 27 = some (1, .aload_n 0, 0, 0, 0) := rfl
theorem t25_28 : sm_at 25 28 = some (1, .iload_n 2, 0, 0, 0) := rfl
theorem t25_29 : sm_at 25 29 = some (1, .iload_n 3, 0, 0, 0) := rfl
theorem t25_30 : sm_at 25 30 = some (3, .invokevirtual 31, 28, 3, 0) := rfl
theorem t25_33 : sm_at 25 33 = some (3, .iinc 4 1, 0, 0, 0) := rfl
theorem t25_36 : sm_at 25 36 = some (3, .goto (-25), 0, 0, 0) := rfl
theorem t25_39 : sm_at 25 39 = some (2, .iload 4, 0, 0, 0) := rfl
theorem t25_41 : sm_at 25 41 = some (1, .ireturn, 0, 0, 0) := rfl
set_option maxRecDepth 10000 in
theorem b25_0 {d : Nat} {r0 : Nat} {l1 : Option sm_V} {l2 : Option sm_V} {l3 : Option sm_V} {l4 : Option sm_V} {Z : Nat → Nat → Int} {Rf : Nat → Nat → Option Nat} {K : Nat → Nat × Nat} {n z : Nat} {Q : Option sm_V → sm_S → Prop} : sm_wp (d + 1) 25 0 [some (.inr (some r0)), l1, l2, l3, l4] [] (Z, Rf, K, n, z) Q = ((K r0).1 = 3 ∧ (Rf r0 0).isSome = true ∧ sm_call d 205 [.inr (some ((Rf r0 0).getD 0)), .inl 0] (Z, Rf, K, n, z) (sm_cont (d + 1) 25 8 [some (.inr (some r0)), l1, l2, l3, l4] [] Q)) := (w_aload_n t25_0 rfl rfl).trans ((w_getR t25_1 rfl (by decide)).trans (congrArg (And _) (congrArg (And _) ((w_iconst t25_4 rfl).trans (w_callS t25_5 rfl rfl rfl rfl (Nat.le_of_ble_eq_true rfl) (Nat.le_of_ble_eq_true rfl) rfl)))))
set_option maxRecDepth 10000 in
theorem b25_8 {d : Nat} {l0 : Option sm_V} {l1 : Option sm_V} {l2 : Option sm_V} {l3 : Option sm_V} {l4 : Option sm_V} {Z : Nat → Nat → Int} {Rf : Nat → Nat → Option Nat} {K : Nat → Nat × Nat} {n z : Nat} {Q : Option sm_V → sm_S → Prop} : sm_wp d 25 8 [l0, l1, l2, l3, l4] [] (Z, Rf, K, n, z) Q = (sm_wp d 25 11 [l0, l1, l2, l3, some (.inl 0)] [] (Z, Rf, K, n, z) Q) := (w_iconst t25_8 rfl).trans (w_istore t25_9 rfl (Nat.le_of_ble_eq_true rfl) rfl)
set_option maxRecDepth 10000 in
theorem b25_11 {d : Nat} {l0 : Option sm_V} {l1 : Option sm_V} {l2 : Option sm_V} {l3 : Option sm_V} {x4 : Int} {Z : Nat → Nat → Int} {Rf : Nat → Nat → Option Nat} {K : Nat → Nat × Nat} {n z : Nat} {Q : Option sm_V → sm_S → Prop} : sm_wp d 25 11 [l0, l1, l2, l3, some (.inl x4)] [] (Z, Rf, K, n, z) Q = (if (4 : Int) ≤ wr x4 then sm_wp d 25 39 [l0, l1, l2, l3, some (.inl x4)] [] (Z, Rf, K, n, z) Q else sm_wp d 25 17 [l0, l1, l2, l3, some (.inl x4)] [] (Z, Rf, K, n, z) Q) := (w_iload t25_11 rfl rfl).trans ((w_iconst t25_13 rfl).trans (w_icge t25_14 rfl wl_4 rfl rfl))
set_option maxRecDepth 10000 in
theorem b25_17 {d : Nat} {r0 : Nat} {q1 : Option Nat} {x2 : Int} {x3 : Int} {l4 : Option sm_V} {Z : Nat → Nat → Int} {Rf : Nat → Nat → Option Nat} {K : Nat → Nat × Nat} {n z : Nat} {Q : Option sm_V → sm_S → Prop} : sm_wp (d + 1) 25 17 [some (.inr (some r0)), some (.inr q1), some (.inl x2), some (.inl x3), l4] [] (Z, Rf, K, n, z) Q = ((K r0).1 = 3 ∧ sm_call d 26 [.inr (some r0), .inr q1, .inl x2, .inl x3] (Z, Rf, K, n, z) (sm_cont (d + 1) 25 24 [some (.inr (some r0)), some (.inr q1), some (.inl x2), some (.inl x3), l4] [] Q)) := (w_aload_n t25_17 rfl rfl).trans ((w_aload_n t25_18 rfl rfl).trans ((w_iload_n t25_19 rfl rfl).trans ((w_iload_n t25_20 rfl rfl).trans (w_callV t25_21 rfl rfl rfl rfl (Nat.le_of_ble_eq_true rfl) (Nat.le_of_ble_eq_true rfl) rfl (by decide)))))
set_option maxRecDepth 10000 in
theorem b25_24 {d : Nat} {l0 : Option sm_V} {l1 : Option sm_V} {l2 : Option sm_V} {l3 : Option sm_V} {l4 : Option sm_V} {s0 : Int} {Z : Nat → Nat → Int} {Rf : Nat → Nat → Option Nat} {K : Nat → Nat × Nat} {n z : Nat} {Q : Option sm_V → sm_S → Prop} : sm_wp d 25 24 [l0, l1, l2, l3, l4] [.inl s0] (Z, Rf, K, n, z) Q = (if wr s0 = 0 then sm_wp d 25 39 [l0, l1, l2, l3, l4] [] (Z, Rf, K, n, z) Q else sm_wp d 25 27 [l0, l1, l2, l3, l4] [] (Z, Rf, K, n, z) Q) := w_ifeq t25_24 rfl rfl rfl
set_option maxRecDepth 10000 in
theorem b25_27 {d : Nat} {r0 : Nat} {l1 : Option sm_V} {x2 : Int} {x3 : Int} {l4 : Option sm_V} {Z : Nat → Nat → Int} {Rf : Nat → Nat → Option Nat} {K : Nat → Nat × Nat} {n z : Nat} {Q : Option sm_V → sm_S → Prop} : sm_wp (d + 1) 25 27 [some (.inr (some r0)), l1, some (.inl x2), some (.inl x3), l4] [] (Z, Rf, K, n, z) Q = ((K r0).1 = 3 ∧ sm_call d 28 [.inr (some r0), .inl x2, .inl x3] (Z, Rf, K, n, z) (sm_cont (d + 1) 25 33 [some (.inr (some r0)), l1, some (.inl x2), some (.inl x3), l4] [] Q)) := (w_aload_n t25_27 rfl rfl).trans ((w_iload_n t25_28 rfl rfl).trans ((w_iload_n t25_29 rfl rfl).trans (w_callV t25_30 rfl rfl rfl rfl (Nat.le_of_ble_eq_true rfl) (Nat.le_of_ble_eq_true rfl) rfl (by decide))))
set_option maxRecDepth 10000 in
theorem b25_33 {d : Nat} {l0 : Option sm_V} {l1 : Option sm_V} {l2 : Option sm_V} {l3 : Option sm_V} {x4 : Int} {Z : Nat → Nat → Int} {Rf : Nat → Nat → Option Nat} {K : Nat → Nat × Nat} {n z : Nat} {Q : Option sm_V → sm_S → Prop} : sm_wp d 25 33 [l0, l1, l2, l3, some (.inl x4)] [] (Z, Rf, K, n, z) Q = (sm_wp d 25 11 [l0, l1, l2, l3, some (.inl (x4 + 1))] [] (Z, Rf, K, n, z) Q) := (w_iinc t25_33 rfl rfl (Nat.le_of_ble_eq_true rfl) rfl).trans (w_goto t25_36 rfl)
set_option maxRecDepth 10000 in
theorem b25_39 {d : Nat} {l0 : Option sm_V} {l1 : Option sm_V} {l2 : Option sm_V} {l3 : Option sm_V} {x4 : Int} {Z : Nat → Nat → Int} {Rf : Nat → Nat → Option Nat} {K : Nat → Nat × Nat} {n z : Nat} {Q : Option sm_V → sm_S → Prop} : sm_wp d 25 39 [l0, l1, l2, l3, some (.inl x4)] [] (Z, Rf, K, n, z) Q = (Q (some (.inl x4)) (Z, Rf, K, n, z)) := (w_iload t25_39 rfl rfl).trans (w_iret t25_41)
theorem t26_0 : sm_at 26 0 = some (1, .aload_n 0, 0, 0, 0) := rfl
theorem t26_1 : sm_at 26 1 = some (3, .getfield 15, 3, 1, 0) := rfl
theorem t26_4 : sm_at 26 4 = some (1, .iconst (-1), 0, 0, 0) := rfl
theorem t26_5 : sm_at 26 5 = some (3, .invokestatic 21, 205, 2, 0) := rfl
theorem t26_8 : sm_at 26 8 = some (1, .aload_n 0, 0, 0, 0) := rfl
theorem t26_9 : sm_at 26 9 = some (3, .getfield 15, 3, 1, 0) := rfl
theorem t26_12 : sm_at 26 12 = some (1, .iload_n 2, 0, 0, 0) := rfl
theorem t26_13 : sm_at 26 13 = some (1, .iconst 0, 0, 0, 0) := rfl
theorem t26_14 : sm_at 26 14 = some (1, .iastore, 0, 0, 0) := rfl
theorem t26_15 : sm_at 26 15 = some (1, .aload_n 0, 0, 0, 0) := rfl
theorem t26_16 : sm_at 26 16 = some (3, .getfield 18, 3, 2, 0) := rfl
theorem t26_19 : sm_at 26 19 = some (1, .iconst 0, 0, 0, 0) := rfl
theorem t26_20 : sm_at 26 20 = some (1, .iload_n 2, 0, 0, 0) := rfl
theorem t26_21 : sm_at 26 21 = some (1, .iastore, 0, 0, 0) := rfl
theorem t26_22 : sm_at 26 22 = some (1, .iconst 1, 0, 0, 0) := rfl
theorem t26_23 : sm_at 26 23 = some (2, .istore 4, 0, 0, 0) := rfl
theorem t26_25 : sm_at 26 25 = some (1, .iconst 0, 0, 0, 0) := rfl
theorem t26_26 : sm_at 26 26 = some (2, .istore 5, 0, 0, 0) := rfl
theorem t26_28 : sm_at 26 28 = some (2, .iload 5, 0, 0, 0) := rfl
theorem t26_30 : sm_at 26 30 = some (2, .iload 4, 0, 0, 0) := rfl
theorem t26_32 : sm_at 26 32 = some (3, .if_icmp .ge 96, 0, 0, 0) := rfl
theorem t26_35 : sm_at 26 35 = some (2, .iload 5, 0, 0, 0) := rfl
theorem t26_37 : sm_at 26 37 = some (2, .bipush 100, 0, 0, 0) := rfl
theorem t26_39 : sm_at 26 39 = some (3, .if_icmp .ge 89, 0, 0, 0) := rfl
theorem t26_42 : sm_at 26 42 = some (1, .aload_n 0, 0, 0, 0) := rfl
theorem t26_43 : sm_at 26 43 = some (3, .getfield 18, 3, 2, 0) := rfl
theorem t26_46 : sm_at 26 46 = some (2, .iload 5, 0, 0, 0) := rfl
theorem t26_48 : sm_at 26 48 = some (1, .iaload, 0, 0, 0) := rfl
theorem t26_49 : sm_at 26 49 = some (2, .istore 6, 0, 0, 0) := rfl
theorem t26_51 : sm_at 26 51 = some (1, .iconst 0, 0, 0, 0) := rfl
theorem t26_52 : sm_at 26 52 = some (2, .istore 7, 0, 0, 0) := rfl
theorem t26_54 : sm_at 26 54 = some (2, .iload 7, 0, 0, 0) := rfl
theorem t26_56 : sm_at 26 56 = some (1, .iconst 4, 0, 0, 0) := rfl
theorem t26_57 : sm_at 26 57 = some (3, .if_icmp .ge 65, 0, 0, 0) := rfl
theorem t26_60 : sm_at 26 60 = some (1, .aload_n 0, 0, 0, 0) := rfl
theorem t26_61 : sm_at 26 61 = some (1, .aload_n 1, 0, 0, 0) := rfl
theorem t26_62 : sm_at 26 62 = some (2, .iload 6, 0, 0, 0) := rfl
theorem t26_64 : sm_at 26 64 = some (2, .iload 7, 0, 0, 0) := rfl
theorem t26_66 : sm_at 26 66 = some (3, .invokevirtual 35, 27, 4, 0) := rfl
theorem t26_69 : sm_at 26 69 = some (2, .istore 8, 0, 0, 0) := rfl
theorem t26_71 : sm_at 26 71 = some (2, .iload 8, 0, 0, 0) := rfl
theorem t26_73 : sm_at 26 73 = some (1, .iconst (-1), 0, 0, 0) := rfl
theorem t26_74 : sm_at 26 74 = some (3, .if_icmp .eq 42, 0, 0, 0) := rfl
theorem t26_77 : sm_at 26 77 = some (1, .aload_n 0, 0, 0, 0) := rfl
theorem t26_78 : sm_at 26 78 = some (3, .getfield 15, 3, 1, 0) := rfl
theorem t26_81 : sm_at 26 81 = some (2, .iload 8, 0, 0, 0) := rfl
theorem t26_83 : sm_at 26 83 = some (1, .iaload, 0, 0, 0) := rfl
theorem t26_84 : sm_at 26 84 = some (1, .iconst (-1), 0, 0, 0) := rfl
theorem t26_85 : sm_at 26 85 = some (3, .if_icmp .ne 31, 0, 0, 0) := rfl
theorem t26_88 : sm_at 26 88 = some (2, .iload 4, 0, 0, 0) := rfl
theorem t26_90 : sm_at 26 90 = some (2, .bipush 100, 0, 0, 0) := rfl
theorem t26_92 : sm_at 26 92 = some (3, .if_icmp .ge 24, 0, 0, 0) := rfl
theorem t26_95 : sm_at 26 95 = some (1, .aload_n 0, 0, 0, 0) := rfl
theorem t26_96 : sm_at 26 96 = some (3, .getfield 15, 3, 1, 0) := rfl
theorem t26_99 : sm_at 26 99 = some (2, .iload 8, 0, 0, 0) := rfl
theorem t26_101 : sm_at 26 101 = some (2, .iload 7, 0, 0, 0) := rfl
theorem t26_103 : sm_at 26 103 = some (1, .iastore, 0, 0, 0) := rfl
theorem t26_104 : sm_at 26 104 = some (1, .aload_n 0, 0, 0, 0) := rfl
theorem t26_105 : sm_at 26 105 = some (3, .getfield 18, 3, 2, 0) := rfl
theorem t26_108 : sm_at 26 108 = some (2, .iload 4, 0, 0, 0) := rfl
set_option maxRecDepth 100000 in
theorem t26_110 : sm_at 26 110 = some (2, .iload 8, 0, 0, 0) := rfl
set_option maxRecDepth 100000 in
theorem t26_112 : sm_at 26 112 = some (1, .iastore, 0, 0, 0) := rfl
set_option maxRecDepth 100000 in
theorem t26_113 : sm_at 26 113 = some (3, .iinc 4 1, 0, 0, 0) := rfl
set_option maxRecDepth 100000 in
theorem t26_116 : sm_at 26 116 = some (3, .iinc 7 1, 0, 0, 0) := rfl
set_option maxRecDepth 100000 in
theorem t26_119 : sm_at 26 119 = some (3, .goto (-65), 0, 0, 0) := rfl
set_option maxRecDepth 100000 in
theorem t26_122 : sm_at 26 122 = some (3, .iinc 5 1, 0, 0, 0) := rfl
set_option maxRecDepth 100000 in
theorem t26_125 : sm_at 26 125 = some (3, .goto (-97), 0, 0, 0) := rfl
set_option maxRecDepth 100000 in
theorem t26_128 : sm_at 26 128 = some (1, .aload_n 0, 0, 0, 0) := rfl
set_option maxRecDepth 100000 in
theorem t26_129 : sm_at 26 129 = some (3, .getfield 15, 3, 1, 0) := rfl
set_option maxRecDepth 100000 in
theorem t26_132 : sm_at 26 132 = some (1, .iload_n 3, 0, 0, 0) := rfl
set_option maxRecDepth 100000 in
theorem t26_133 : sm_at 26 133 = some (1, .iaload, 0, 0, 0) := rfl
set_option maxRecDepth 100000 in
theorem t26_134 : sm_at 26 134 = some (1, .iconst (-1), 0, 0, 0) := rfl
set_option maxRecDepth 100000 in
theorem t26_135 : sm_at 26 135 = some (3, .if_icmp .eq 7, 0, 0, 0) := rfl
set_option maxRecDepth 100000 in
theorem t26_138 : sm_at 26 138 = some (1, .iconst 1, 0, 0, 0) := rfl
set_option maxRecDepth 100000 in
theorem t26_139 : sm_at 26 139 = some (3, .goto 4, 0, 0, 0) := rfl
set_option maxRecDepth 100000 in
theorem t26_142 : sm_at 26 142 = some (1, .iconst 0, 0, 0, 0) := rfl
set_option maxRecDepth 100000 in
theorem t26_143 : sm_at 26 143 = some (1, .ireturn, 1, 0, 0) := rfl
set_option maxRecDepth 10000 in
theorem b26_0 {d : Nat} {r0 : Nat} {l1 : Option sm_V} {l2 : Option sm_V} {l3 : Option sm_V} {l4 : Option sm_V} {l5 : Option sm_V} {l6 : Option sm_V} {l7 : Option sm_V} {l8 : Option sm_V} {Z : Nat → Nat → Int} {Rf : Nat → Nat → Option Nat} {K : Nat → Nat × Nat} {n z : Nat} {Q : Option sm_V → sm_S → Prop} : sm_wp (d + 1) 26 0 [some (.inr (some r0)), l1, l2, l3, l4, l5, l6, l7, l8] [] (Z, Rf, K, n, z) Q = ((K r0).1 = 3 ∧ (Rf r0 1).isSome = true ∧ sm_call d 205 [.inr (some ((Rf r0 1).getD 0)), .inl ((-1))] (Z, Rf, K, n, z) (sm_cont (d + 1) 26 8 [some (.inr (some r0)), l1, l2, l3, l4, l5, l6, l7, l8] [] Q)) := (w_aload_n t26_0 rfl rfl).trans ((w_getR t26_1 rfl (by decide)).trans (congrArg (And _) (congrArg (And _) ((w_iconst t26_4 rfl).trans (w_callS t26_5 rfl rfl rfl rfl (Nat.le_of_ble_eq_true rfl) (Nat.le_of_ble_eq_true rfl) rfl)))))
set_option maxRecDepth 10000 in
theorem b26_8 {d : Nat} {r0 : Nat} {l1 : Option sm_V} {x2 : Int} {l3 : Option sm_V} {l4 : Option sm_V} {l5 : Option sm_V} {l6 : Option sm_V} {l7 : Option sm_V} {l8 : Option sm_V} {Z : Nat → Nat → Int} {Rf : Nat → Nat → Option Nat} {K : Nat → Nat × Nat} {n z : Nat} {Q : Option sm_V → sm_S → Prop} : sm_wp d 26 8 [some (.inr (some r0)), l1, some (.inl x2), l3, l4, l5, l6, l7, l8] [] (Z, Rf, K, n, z) Q = ((K r0).1 = 3 ∧ (Rf r0 1).isSome = true ∧ sm_wt (K (((Rf r0 1).getD 0))) (wr x2) ∧ (K r0).1 = 3 ∧ (Rf r0 2).isSome = true ∧ sm_wt (K (((Rf r0 2).getD 0))) ((0 : Int)) ∧ sm_wp d 26 28 [some (.inr (some r0)), l1, some (.inl x2), l3, some (.inl 1), some (.inl 0), l6, l7, l8] [] (sm_u (sm_u Z (((Rf r0 1).getD 0)) ((wr x2).toNat) 0) (((Rf r0 2).getD 0)) 0 x2, Rf, K, n, z) Q) := (w_aload_n t26_8 rfl rfl).trans ((w_getR t26_9 rfl (by decide)).trans (congrArg (And _) (congrArg (And _) ((w_iload_n t26_12 rfl rfl).trans ((w_iconst t26_13 rfl).trans ((w_iast t26_14 rfl rfl).trans (congrArg (And _) ((w_aload_n t26_15 rfl rfl).trans ((w_getR t26_16 rfl (by decide)).trans (congrArg (And _) (congrArg (And _) ((w_iconst t26_19 rfl).trans ((w_iload_n t26_20 rfl rfl).trans ((w_iast t26_21 rfl wl_0).trans (congrArg (And _) ((w_iconst t26_22 rfl).trans ((w_istore t26_23 rfl (Nat.le_of_ble_eq_true rfl) rfl).trans ((w_iconst t26_25 rfl).trans (w_istore t26_26 rfl (Nat.le_of_ble_eq_true rfl) rfl)))))))))))))))))))
set_option maxRecDepth 10000 in
theorem b26_28 {d : Nat} {l0 : Option sm_V} {l1 : Option sm_V} {l2 : Option sm_V} {l3 : Option sm_V} {x4 : Int} {x5 : Int} {l6 : Option sm_V} {l7 : Option sm_V} {l8 : Option sm_V} {Z : Nat → Nat → Int} {Rf : Nat → Nat → Option Nat} {K : Nat → Nat × Nat} {n z : Nat} {Q : Option sm_V → sm_S → Prop} : sm_wp d 26 28 [l0, l1, l2, l3, some (.inl x4), some (.inl x5), l6, l7, l8] [] (Z, Rf, K, n, z) Q = (if wr x4 ≤ wr x5 then sm_wp d 26 128 [l0, l1, l2, l3, some (.inl x4), some (.inl x5), l6, l7, l8] [] (Z, Rf, K, n, z) Q else sm_wp d 26 35 [l0, l1, l2, l3, some (.inl x4), some (.inl x5), l6, l7, l8] [] (Z, Rf, K, n, z) Q) := (w_iload t26_28 rfl rfl).trans ((w_iload t26_30 rfl rfl).trans (w_icge t26_32 rfl rfl rfl rfl))
set_option maxRecDepth 10000 in
theorem b26_35 {d : Nat} {l0 : Option sm_V} {l1 : Option sm_V} {l2 : Option sm_V} {l3 : Option sm_V} {l4 : Option sm_V} {x5 : Int} {l6 : Option sm_V} {l7 : Option sm_V} {l8 : Option sm_V} {Z : Nat → Nat → Int} {Rf : Nat → Nat → Option Nat} {K : Nat → Nat × Nat} {n z : Nat} {Q : Option sm_V → sm_S → Prop} : sm_wp d 26 35 [l0, l1, l2, l3, l4, some (.inl x5), l6, l7, l8] [] (Z, Rf, K, n, z) Q = (if (100 : Int) ≤ wr x5 then sm_wp d 26 128 [l0, l1, l2, l3, l4, some (.inl x5), l6, l7, l8] [] (Z, Rf, K, n, z) Q else sm_wp d 26 42 [l0, l1, l2, l3, l4, some (.inl x5), l6, l7, l8] [] (Z, Rf, K, n, z) Q) := (w_iload t26_35 rfl rfl).trans ((w_bipush t26_37 rfl).trans (w_icge t26_39 rfl wl_100 rfl rfl))
set_option maxRecDepth 10000 in
theorem b26_42 {d : Nat} {r0 : Nat} {l1 : Option sm_V} {l2 : Option sm_V} {l3 : Option sm_V} {l4 : Option sm_V} {x5 : Int} {l6 : Option sm_V} {l7 : Option sm_V} {l8 : Option sm_V} {Z : Nat → Nat → Int} {Rf : Nat → Nat → Option Nat} {K : Nat → Nat × Nat} {n z : Nat} {Q : Option sm_V → sm_S → Prop} : sm_wp d 26 42 [some (.inr (some r0)), l1, l2, l3, l4, some (.inl x5), l6, l7, l8] [] (Z, Rf, K, n, z) Q = ((K r0).1 = 3 ∧ (Rf r0 2).isSome = true ∧ sm_rd (K (((Rf r0 2).getD 0))) (wr x5) ∧ sm_wp d 26 54 [some (.inr (some r0)), l1, l2, l3, l4, some (.inl x5), some (.inl (Z (((Rf r0 2).getD 0)) ((wr x5).toNat))), some (.inl 0), l8] [] (Z, Rf, K, n, z) Q) := (w_aload_n t26_42 rfl rfl).trans ((w_getR t26_43 rfl (by decide)).trans (congrArg (And _) (congrArg (And _) ((w_iload t26_46 rfl rfl).trans ((w_iald t26_48 rfl rfl).trans (congrArg (And _) ((w_istore t26_49 rfl (Nat.le_of_ble_eq_true rfl) rfl).trans ((w_iconst t26_51 rfl).trans (w_istore t26_52 rfl (Nat.le_of_ble_eq_true rfl) rfl)))))))))
set_option maxRecDepth 10000 in
theorem b26_54 {d : Nat} {l0 : Option sm_V} {l1 : Option sm_V} {l2 : Option sm_V} {l3 : Option sm_V} {l4 : Option sm_V} {l5 : Option sm_V} {l6 : Option sm_V} {x7 : Int} {l8 : Option sm_V} {Z : Nat → Nat → Int} {Rf : Nat → Nat → Option Nat} {K : Nat → Nat × Nat} {n z : Nat} {Q : Option sm_V → sm_S → Prop} : sm_wp d 26 54 [l0, l1, l2, l3, l4, l5, l6, some (.inl x7), l8] [] (Z, Rf, K, n, z) Q = (if (4 : Int) ≤ wr x7 then sm_wp d 26 122 [l0, l1, l2, l3, l4, l5, l6, some (.inl x7), l8] [] (Z, Rf, K, n, z) Q else sm_wp d 26 60 [l0, l1, l2, l3, l4, l5, l6, some (.inl x7), l8] [] (Z, Rf, K, n, z) Q) := (w_iload t26_54 rfl rfl).trans ((w_iconst t26_56 rfl).trans (w_icge t26_57 rfl wl_4 rfl rfl))
set_option maxRecDepth 10000 in
theorem b26_60 {d : Nat} {r0 : Nat} {q1 : Option Nat} {l2 : Option sm_V} {l3 : Option sm_V} {l4 : Option sm_V} {l5 : Option sm_V} {x6 : Int} {x7 : Int} {l8 : Option sm_V} {Z : Nat → Nat → Int} {Rf : Nat → Nat → Option Nat} {K : Nat → Nat × Nat} {n z : Nat} {Q : Option sm_V → sm_S → Prop} : sm_wp (d + 1) 26 60 [some (.inr (some r0)), some (.inr q1), l2, l3, l4, l5, some (.inl x6), some (.inl x7), l8] [] (Z, Rf, K, n, z) Q = ((K r0).1 = 3 ∧ sm_call d 27 [.inr (some r0), .inr q1, .inl x6, .inl x7] (Z, Rf, K, n, z) (sm_cont (d + 1) 26 69 [some (.inr (some r0)), some (.inr q1), l2, l3, l4, l5, some (.inl x6), some (.inl x7), l8] [] Q)) := (w_aload_n t26_60 rfl rfl).trans ((w_aload_n t26_61 rfl rfl).trans ((w_iload t26_62 rfl rfl).trans ((w_iload t26_64 rfl rfl).trans (w_callV t26_66 rfl rfl rfl rfl (Nat.le_of_ble_eq_true rfl) (Nat.le_of_ble_eq_true rfl) rfl (by decide)))))
set_option maxRecDepth 10000 in
theorem b26_69 {d : Nat} {l0 : Option sm_V} {l1 : Option sm_V} {l2 : Option sm_V} {l3 : Option sm_V} {l4 : Option sm_V} {l5 : Option sm_V} {l6 : Option sm_V} {l7 : Option sm_V} {l8 : Option sm_V} {s0 : Int} {Z : Nat → Nat → Int} {Rf : Nat → Nat → Option Nat} {K : Nat → Nat × Nat} {n z : Nat} {Q : Option sm_V → sm_S → Prop} : sm_wp d 26 69 [l0, l1, l2, l3, l4, l5, l6, l7, l8] [.inl s0] (Z, Rf, K, n, z) Q = (if wr s0 = (-1 : Int) then sm_wp d 26 116 [l0, l1, l2, l3, l4, l5, l6, l7, some (.inl s0)] [] (Z, Rf, K, n, z) Q else sm_wp d 26 77 [l0, l1, l2, l3, l4, l5, l6, l7, some (.inl s0)] [] (Z, Rf, K, n, z) Q) := (w_istore t26_69 rfl (Nat.le_of_ble_eq_true rfl) rfl).trans ((w_iload t26_71 rfl rfl).trans ((w_iconst t26_73 rfl).trans (w_iceq t26_74 rfl wl_m1 rfl rfl)))
set_option maxRecDepth 10000 in
theorem b26_77 {d : Nat} {r0 : Nat} {l1 : Option sm_V} {l2 : Option sm_V} {l3 : Option sm_V} {l4 : Option sm_V} {l5 : Option sm_V} {l6 : Option sm_V} {l7 : Option sm_V} {x8 : Int} {Z : Nat → Nat → Int} {Rf : Nat → Nat → Option Nat} {K : Nat → Nat × Nat} {n z : Nat} {Q : Option sm_V → sm_S → Prop} : sm_wp d 26 77 [some (.inr (some r0)), l1, l2, l3, l4, l5, l6, l7, some (.inl x8)] [] (Z, Rf, K, n, z) Q = ((K r0).1 = 3 ∧ (Rf r0 1).isSome = true ∧ sm_rd (K (((Rf r0 1).getD 0))) (wr x8) ∧ (if wr (Z (((Rf r0 1).getD 0)) ((wr x8).toNat)) = (-1 : Int) then sm_wp d 26 88 [some (.inr (some r0)), l1, l2, l3, l4, l5, l6, l7, some (.inl x8)] [] (Z, Rf, K, n, z) Q else sm_wp d 26 116 [some (.inr (some r0)), l1, l2, l3, l4, l5, l6, l7, some (.inl x8)] [] (Z, Rf, K, n, z) Q)) := (w_aload_n t26_77 rfl rfl).trans ((w_getR t26_78 rfl (by decide)).trans (congrArg (And _) (congrArg (And _) ((w_iload t26_81 rfl rfl).trans ((w_iald t26_83 rfl rfl).trans (congrArg (And _) ((w_iconst t26_84 rfl).trans (w_icne t26_85 rfl wl_m1 rfl rfl))))))))
set_option maxRecDepth 10000 in
theorem b26_88 {d : Nat} {l0 : Option sm_V} {l1 : Option sm_V} {l2 : Option sm_V} {l3 : Option sm_V} {x4 : Int} {l5 : Option sm_V} {l6 : Option sm_V} {l7 : Option sm_V} {l8 : Option sm_V} {Z : Nat → Nat → Int} {Rf : Nat → Nat → Option Nat} {K : Nat → Nat × Nat} {n z : Nat} {Q : Option sm_V → sm_S → Prop} : sm_wp d 26 88 [l0, l1, l2, l3, some (.inl x4), l5, l6, l7, l8] [] (Z, Rf, K, n, z) Q = (if (100 : Int) ≤ wr x4 then sm_wp d 26 116 [l0, l1, l2, l3, some (.inl x4), l5, l6, l7, l8] [] (Z, Rf, K, n, z) Q else sm_wp d 26 95 [l0, l1, l2, l3, some (.inl x4), l5, l6, l7, l8] [] (Z, Rf, K, n, z) Q) := (w_iload t26_88 rfl rfl).trans ((w_bipush t26_90 rfl).trans (w_icge t26_92 rfl wl_100 rfl rfl))
set_option maxRecDepth 10000 in
theorem b26_95 {d : Nat} {r0 : Nat} {l1 : Option sm_V} {l2 : Option sm_V} {l3 : Option sm_V} {x4 : Int} {l5 : Option sm_V} {l6 : Option sm_V} {x7 : Int} {x8 : Int} {Z : Nat → Nat → Int} {Rf : Nat → Nat → Option Nat} {K : Nat → Nat × Nat} {n z : Nat} {Q : Option sm_V → sm_S → Prop} : sm_wp d 26 95 [some (.inr (some r0)), l1, l2, l3, some (.inl x4), l5, l6, some (.inl x7), some (.inl x8)] [] (Z, Rf, K, n, z) Q = ((K r0).1 = 3 ∧ (Rf r0 1).isSome = true ∧ sm_wt (K (((Rf r0 1).getD 0))) (wr x8) ∧ (K r0).1 = 3 ∧ (Rf r0 2).isSome = true ∧ sm_wt (K (((Rf r0 2).getD 0))) (wr x4) ∧ sm_wp d 26 116 [some (.inr (some r0)), l1, l2, l3, some (.inl (x4 + 1)), l5, l6, some (.inl x7), some (.inl x8)] [] (sm_u (sm_u Z (((Rf r0 1).getD 0)) ((wr x8).toNat) x7) (((Rf r0 2).getD 0)) ((wr x4).toNat) x8, Rf, K, n, z) Q) := (w_aload_n t26_95 rfl rfl).trans ((w_getR t26_96 rfl (by decide)).trans (congrArg (And _) (congrArg (And _) ((w_iload t26_99 rfl rfl).trans ((w_iload t26_101 rfl rfl).trans ((w_iast t26_103 rfl rfl).trans (congrArg (And _) ((w_aload_n t26_104 rfl rfl).trans ((w_getR t26_105 rfl (by decide)).trans (congrArg (And _) (congrArg (And _) ((w_iload t26_108 rfl rfl).trans ((w_iload t26_110 rfl rfl).trans ((w_iast t26_112 rfl rfl).trans (congrArg (And _) (w_iinc t26_113 rfl rfl (Nat.le_of_ble_eq_true rfl) rfl))))))))))))))))
set_option maxRecDepth 10000 in
theorem b26_116 {d : Nat} {l0 : Option sm_V} {l1 : Option sm_V} {l2 : Option sm_V} {l3 : Option sm_V} {l4 : Option sm_V} {l5 : Option sm_V} {l6 : Option sm_V} {x7 : Int} {l8 : Option sm_V} {Z : Nat → Nat → Int} {Rf : Nat → Nat → Option Nat} {K : Nat → Nat × Nat} {n z : Nat} {Q : Option sm_V → sm_S → Prop} : sm_wp d 26 116 [l0, l1, l2, l3, l4, l5, l6, some (.inl x7), l8] [] (Z, Rf, K, n, z) Q = (sm_wp d 26 54 [l0, l1, l2, l3, l4, l5, l6, some (.inl (x7 + 1)), l8] [] (Z, Rf, K, n, z) Q) := (w_iinc t26_116 rfl rfl (Nat.le_of_ble_eq_true rfl) rfl).trans (w_goto t26_119 rfl)
set_option maxRecDepth 10000 in
theorem b26_122 {d : Nat} {l0 : Option sm_V} {l1 : Option sm_V} {l2 : Option sm_V} {l3 : Option sm_V} {l4 : Option sm_V} {x5 : Int} {l6 : Option sm_V} {l7 : Option sm_V} {l8 : Option sm_V} {Z : Nat → Nat → Int} {Rf : Nat → Nat → Option Nat} {K : Nat → Nat × Nat} {n z : Nat} {Q : Option sm_V → sm_S → Prop} : sm_wp d 26 122 [l0, l1, l2, l3, l4, some (.inl x5), l6, l7, l8] [] (Z, Rf, K, n, z) Q = (sm_wp d 26 28 [l0, l1, l2, l3, l4, some (.inl (x5 + 1)), l6, l7, l8] [] (Z, Rf, K, n, z) Q) := (w_iinc t26_122 rfl rfl (Nat.le_of_ble_eq_true rfl) rfl).trans (w_goto t26_125 rfl)
set_option maxRecDepth 10000 in
theorem b26_128 {d : Nat} {r0 : Nat} {l1 : Option sm_V} {l2 : Option sm_V} {x3 : Int} {l4 : Option sm_V} {l5 : Option sm_V} {l6 : Option sm_V} {l7 : Option sm_V} {l8 : Option sm_V} {Z : Nat → Nat → Int} {Rf : Nat → Nat → Option Nat} {K : Nat → Nat × Nat} {n z : Nat} {Q : Option sm_V → sm_S → Prop} : sm_wp d 26 128 [some (.inr (some r0)), l1, l2, some (.inl x3), l4, l5, l6, l7, l8] [] (Z, Rf, K, n, z) Q = ((K r0).1 = 3 ∧ (Rf r0 1).isSome = true ∧ sm_rd (K (((Rf r0 1).getD 0))) (wr x3) ∧ (if wr (Z (((Rf r0 1).getD 0)) ((wr x3).toNat)) = (-1 : Int) then sm_wp d 26 142 [some (.inr (some r0)), l1, l2, some (.inl x3), l4, l5, l6, l7, l8] [] (Z, Rf, K, n, z) Q else sm_wp d 26 138 [some (.inr (some r0)), l1, l2, some (.inl x3), l4, l5, l6, l7, l8] [] (Z, Rf, K, n, z) Q)) := (w_aload_n t26_128 rfl rfl).trans ((w_getR t26_129 rfl (by decide)).trans (congrArg (And _) (congrArg (And _) ((w_iload_n t26_132 rfl rfl).trans ((w_iald t26_133 rfl rfl).trans (congrArg (And _) ((w_iconst t26_134 rfl).trans (w_iceq t26_135 rfl wl_m1 rfl rfl))))))))
set_option maxRecDepth 10000 in
theorem b26_138 {d : Nat} {l0 : Option sm_V} {l1 : Option sm_V} {l2 : Option sm_V} {l3 : Option sm_V} {l4 : Option sm_V} {l5 : Option sm_V} {l6 : Option sm_V} {l7 : Option sm_V} {l8 : Option sm_V} {Z : Nat → Nat → Int} {Rf : Nat → Nat → Option Nat} {K : Nat → Nat × Nat} {n z : Nat} {Q : Option sm_V → sm_S → Prop} : sm_wp d 26 138 [l0, l1, l2, l3, l4, l5, l6, l7, l8] [] (Z, Rf, K, n, z) Q = (sm_wp d 26 143 [l0, l1, l2, l3, l4, l5, l6, l7, l8] [.inl 1] (Z, Rf, K, n, z) Q) := (w_iconst t26_138 rfl).trans (w_goto t26_139 rfl)
set_option maxRecDepth 10000 in
theorem b26_142 {d : Nat} {l0 : Option sm_V} {l1 : Option sm_V} {l2 : Option sm_V} {l3 : Option sm_V} {l4 : Option sm_V} {l5 : Option sm_V} {l6 : Option sm_V} {l7 : Option sm_V} {l8 : Option sm_V} {Z : Nat → Nat → Int} {Rf : Nat → Nat → Option Nat} {K : Nat → Nat × Nat} {n z : Nat} {Q : Option sm_V → sm_S → Prop} : sm_wp d 26 142 [l0, l1, l2, l3, l4, l5, l6, l7, l8] [] (Z, Rf, K, n, z) Q = (sm_wp d 26 143 [l0, l1, l2, l3, l4, l5, l6, l7, l8] [.inl 0] (Z, Rf, K, n, z) Q) := w_iconst t26_142 rfl
set_option maxRecDepth 10000 in
theorem b26_143 {d : Nat} {l0 : Option sm_V} {l1 : Option sm_V} {l2 : Option sm_V} {l3 : Option sm_V} {l4 : Option sm_V} {l5 : Option sm_V} {l6 : Option sm_V} {l7 : Option sm_V} {l8 : Option sm_V} {s0 : Int} {Z : Nat → Nat → Int} {Rf : Nat → Nat → Option Nat} {K : Nat → Nat × Nat} {n z : Nat} {Q : Option sm_V → sm_S → Prop} : sm_wp d 26 143 [l0, l1, l2, l3, l4, l5, l6, l7, l8] [.inl s0] (Z, Rf, K, n, z) Q = ((wr s0 = 0 ∨ wr s0 = 1) ∧ Q (some (.inl s0)) (Z, Rf, K, n, z)) := w_zret t26_143 rfl
theorem t27_0 : sm_at 27 0 = some (1, .iload_n 2, 0, 0, 0) := rfl
theorem t27_1 : sm_at 27 1 = some (2, .bipush 10, 0, 0, 0) := rfl
theorem t27_3 : sm_at 27 3 = some (1, .irem, 0, 0, 0) := rfl
theorem t27_4 : sm_at 27 4 = some (2, .istore 4, 0, 0, 0) := rfl
theorem t27_6 : sm_at 27 6 = some (1, .iload_n 2, 0, 0, 0) := rfl
theorem t27_7 : sm_at 27 7 = some (2, .bipush 10, 0, 0, 0) := rfl
theorem t27_9 : sm_at 27 9 = some (1, .idiv, 0, 0, 0) := rfl
theorem t27_10 : sm_at 27 10 = some (2, .istore 5, 0, 0, 0) := rfl
theorem t27_12 : sm_at 27 12 = some (1, .aload_n 1, 0, 0, 0) := rfl
theorem t27_13 : sm_at 27 13 = some (2, .iload 4, 0, 0, 0) := rfl
theorem t27_15 : sm_at 27 15 = some (2, .iload 5, 0, 0, 0) := rfl
theorem t27_17 : sm_at 27 17 = some (1, .iload_n 3, 0, 0, 0) := rfl
theorem t27_18 : sm_at 27 18 = some (3, .invokevirtual 39, 12, 4, 0) := rfl
theorem t27_21 : sm_at 27 21 = some (2, .istore 6, 0, 0, 0) := rfl
theorem t27_23 : sm_at 27 23 = some (2, .iload 6, 0, 0, 0) := rfl
theorem t27_25 : sm_at 27 25 = some (1, .iconst (-1), 0, 0, 0) := rfl
theorem t27_26 : sm_at 27 26 = some (3, .if_icmp .eq 30, 0, 0, 0) := rfl
theorem t27_29 : sm_at 27 29 = some (1, .aload_n 1, 0, 0, 0) := rfl
theorem t27_30 : sm_at 27 30 = some (3, .getfield 45, 1, 18, 0) := rfl
theorem t27_33 : sm_at 27 33 = some (3, .getfield 49, 9, 0, 0) := rfl
theorem t27_36 : sm_at 27 36 = some (2, .iload 6, 0, 0, 0) := rfl
theorem t27_38 : sm_at 27 38 = some (1, .iaload, 0, 0, 0) := rfl
theorem t27_39 : sm_at 27 39 = some (1, .iconst (-1), 0, 0, 0) := rfl
theorem t27_40 : sm_at 27 40 = some (3, .if_icmp .ne 16, 0, 0, 0) := rfl
theorem t27_43 : sm_at 27 43 = some (1, .aload_n 0, 0, 0, 0) := rfl
theorem t27_44 : sm_at 27 44 = some (3, .getfield 9, 3, 0, 0) := rfl
theorem t27_47 : sm_at 27 47 = some (1, .iload_n 2, 0, 0, 0) := rfl
theorem t27_48 : sm_at 27 48 = some (1, .iconst 4, 0, 0, 0) := rfl
theorem t27_49 : sm_at 27 49 = some (1, .imul, 0, 0, 0) := rfl
theorem t27_50 : sm_at 27 50 = some (1, .iload_n 3, 0, 0, 0) := rfl
theorem t27_51 : sm_at 27 51 = some (1, .iadd, 0, 0, 0) := rfl
theorem t27_52 : sm_at 27 52 = some (1, .iaload, 0, 0, 0) := rfl
theorem t27_53 : sm_at 27 53 = some (3, .ifCond .le 5, 0, 0, 0) := rfl
theorem t27_56 : sm_at 27 56 = some (1, .iconst (-1), 0, 0, 0) := rfl
theorem t27_57 : sm_at 27 57 = some (1, .ireturn, 0, 0, 0) := rfl
theorem t27_58 : sm_at 27 58 = some (1, .aload_n 1, 0, 0, 0) := rfl
theorem t27_59 : sm_at 27 59 = some (2, .iload 4, 0, 0, 0) := rfl
theorem t27_61 : sm_at 27 61 = some (3, .getstatic 54, 1, 1000000, 0) := rfl
theorem t27_64 : sm_at 27 64 = some (1, .iload_n 3, 0, 0, 0) := rfl
theorem t27_65 : sm_at 27 65 = some (1, .iaload, 0, 0, 0) := rfl
theorem t27_66 : sm_at 27 66 = some (1, .iadd, 0, 0, 0) := rfl
theorem t27_67 : sm_at 27 67 = some (2, .iload 5, 0, 0, 0) := rfl
theorem t27_69 : sm_at 27 69 = some (3, .getstatic 57, 1, 1000001, 0) := rfl
theorem t27_72 : sm_at 27 72 = some (1, .iload_n 3, 0, 0, 0) := rfl
theorem t27_73 : sm_at 27 73 = some (1, .iaload, 0, 0, 0) := rfl
theorem t27_74 : sm_at 27 74 = some (1, .iadd, 0, 0, 0) := rfl
theorem t27_75 : sm_at 27 75 = some (3, .invokevirtual 60, 9, 3, 0) := rfl
theorem t27_78 : sm_at 27 78 = some (1, .ireturn, 0, 0, 0) := rfl
set_option maxRecDepth 10000 in
theorem b27_0 {d : Nat} {l0 : Option sm_V} {r1 : Nat} {x2 : Int} {x3 : Int} {l4 : Option sm_V} {l5 : Option sm_V} {l6 : Option sm_V} {Z : Nat → Nat → Int} {Rf : Nat → Nat → Option Nat} {K : Nat → Nat × Nat} {n z : Nat} {Q : Option sm_V → sm_S → Prop} : sm_wp (d + 1) 27 0 [l0, some (.inr (some r1)), some (.inl x2), some (.inl x3), l4, l5, l6] [] (Z, Rf, K, n, z) Q = (¬ (10 : Int) = 0 ∧ ¬ (10 : Int) = 0 ∧ (K r1).1 = 1 ∧ sm_call d 12 [.inr (some r1), .inl (sm_rem x2 10), .inl (sm_div x2 10), .inl x3] (Z, Rf, K, n, z) (sm_cont (d + 1) 27 21 [l0, some (.inr (some r1)), some (.inl x2), some (.inl x3), some (.inl (sm_rem x2 10)), some (.inl (sm_div x2 10)), l6] [] Q)) := (w_iload_n t27_0 rfl rfl).trans ((w_bipush t27_1 rfl).trans ((w_irem t27_3 rfl wl_10).trans (congrArg (And _) ((w_istore t27_4 rfl (Nat.le_of_ble_eq_true rfl) rfl).trans ((w_iload_n t27_6 rfl rfl).trans ((w_bipush t27_7 rfl).trans ((w_idiv t27_9 rfl wl_10).trans (congrArg (And _) ((w_istore t27_10 rfl (Nat.le_of_ble_eq_true rfl) rfl).trans ((w_aload_n t27_12 rfl rfl).trans ((w_iload t27_13 rfl rfl).trans ((w_iload t27_15 rfl rfl).trans ((w_iload_n t27_17 rfl rfl).trans (w_callV t27_18 rfl rfl rfl rfl (Nat.le_of_ble_eq_true rfl) (Nat.le_of_ble_eq_true rfl) rfl (by decide)))))))))))))))
set_option maxRecDepth 10000 in
theorem b27_21 {d : Nat} {l0 : Option sm_V} {l1 : Option sm_V} {l2 : Option sm_V} {l3 : Option sm_V} {l4 : Option sm_V} {l5 : Option sm_V} {l6 : Option sm_V} {s0 : Int} {Z : Nat → Nat → Int} {Rf : Nat → Nat → Option Nat} {K : Nat → Nat × Nat} {n z : Nat} {Q : Option sm_V → sm_S → Prop} : sm_wp d 27 21 [l0, l1, l2, l3, l4, l5, l6] [.inl s0] (Z, Rf, K, n, z) Q = (if wr s0 = (-1 : Int) then sm_wp d 27 56 [l0, l1, l2, l3, l4, l5, some (.inl s0)] [] (Z, Rf, K, n, z) Q else sm_wp d 27 29 [l0, l1, l2, l3, l4, l5, some (.inl s0)] [] (Z, Rf, K, n, z) Q) := (w_istore t27_21 rfl (Nat.le_of_ble_eq_true rfl) rfl).trans ((w_iload t27_23 rfl rfl).trans ((w_iconst t27_25 rfl).trans (w_iceq t27_26 rfl wl_m1 rfl rfl)))
set_option maxRecDepth 10000 in
theorem b27_29 {d : Nat} {l0 : Option sm_V} {r1 : Nat} {l2 : Option sm_V} {l3 : Option sm_V} {l4 : Option sm_V} {l5 : Option sm_V} {x6 : Int} {Z : Nat → Nat → Int} {Rf : Nat → Nat → Option Nat} {K : Nat → Nat × Nat} {n z : Nat} {Q : Option sm_V → sm_S → Prop} : sm_wp d 27 29 [l0, some (.inr (some r1)), l2, l3, l4, l5, some (.inl x6)] [] (Z, Rf, K, n, z) Q = ((K r1).1 = 1 ∧ (Rf r1 18).isSome = true ∧ (K (((Rf r1 18).getD 0))).1 = 9 ∧ (Rf (((Rf r1 18).getD 0)) 0).isSome = true ∧ sm_rd (K (((Rf (((Rf r1 18).getD 0)) 0).getD 0))) (wr x6) ∧ (if wr (Z (((Rf (((Rf r1 18).getD 0)) 0).getD 0)) ((wr x6).toNat)) = (-1 : Int) then sm_wp d 27 43 [l0, some (.inr (some r1)), l2, l3, l4, l5, some (.inl x6)] [] (Z, Rf, K, n, z) Q else sm_wp d 27 56 [l0, some (.inr (some r1)), l2, l3, l4, l5, some (.inl x6)] [] (Z, Rf, K, n, z) Q)) := (w_aload_n t27_29 rfl rfl).trans ((w_getR t27_30 rfl (by decide)).trans (congrArg (And _) (congrArg (And _) ((w_getR t27_33 rfl (by decide)).trans (congrArg (And _) (congrArg (And _) ((w_iload t27_36 rfl rfl).trans ((w_iald t27_38 rfl rfl).trans (congrArg (And _) ((w_iconst t27_39 rfl).trans (w_icne t27_40 rfl wl_m1 rfl rfl)))))))))))
set_option maxRecDepth 10000 in
theorem b27_43 {d : Nat} {r0 : Nat} {l1 : Option sm_V} {x2 : Int} {x3 : Int} {l4 : Option sm_V} {l5 : Option sm_V} {l6 : Option sm_V} {Z : Nat → Nat → Int} {Rf : Nat → Nat → Option Nat} {K : Nat → Nat × Nat} {n z : Nat} {Q : Option sm_V → sm_S → Prop} : sm_wp d 27 43 [some (.inr (some r0)), l1, some (.inl x2), some (.inl x3), l4, l5, l6] [] (Z, Rf, K, n, z) Q = ((K r0).1 = 3 ∧ (Rf r0 0).isSome = true ∧ sm_rd (K (((Rf r0 0).getD 0))) (wr ((x2 * 4) + x3)) ∧ (if wr (Z (((Rf r0 0).getD 0)) ((wr ((x2 * 4) + x3)).toNat)) ≤ 0 then sm_wp d 27 58 [some (.inr (some r0)), l1, some (.inl x2), some (.inl x3), l4, l5, l6] [] (Z, Rf, K, n, z) Q else sm_wp d 27 56 [some (.inr (some r0)), l1, some (.inl x2), some (.inl x3), l4, l5, l6] [] (Z, Rf, K, n, z) Q)) := (w_aload_n t27_43 rfl rfl).trans ((w_getR t27_44 rfl (by decide)).trans (congrArg (And _) (congrArg (And _) ((w_iload_n t27_47 rfl rfl).trans ((w_iconst t27_48 rfl).trans ((w_imul t27_49 rfl).trans ((w_iload_n t27_50 rfl rfl).trans ((w_iadd t27_51 rfl).trans ((w_iald t27_52 rfl rfl).trans (congrArg (And _) (w_ifle t27_53 rfl rfl rfl)))))))))))
set_option maxRecDepth 10000 in
theorem b27_56 {d : Nat} {l0 : Option sm_V} {l1 : Option sm_V} {l2 : Option sm_V} {l3 : Option sm_V} {l4 : Option sm_V} {l5 : Option sm_V} {l6 : Option sm_V} {Z : Nat → Nat → Int} {Rf : Nat → Nat → Option Nat} {K : Nat → Nat × Nat} {n z : Nat} {Q : Option sm_V → sm_S → Prop} : sm_wp d 27 56 [l0, l1, l2, l3, l4, l5, l6] [] (Z, Rf, K, n, z) Q = (Q (some (.inl ((-1)))) (Z, Rf, K, n, z)) := (w_iconst t27_56 rfl).trans (w_iret t27_57)
set_option maxRecDepth 10000 in
theorem b27_58 {d : Nat} {l0 : Option sm_V} {r1 : Nat} {l2 : Option sm_V} {x3 : Int} {x4 : Int} {x5 : Int} {l6 : Option sm_V} {Z : Nat → Nat → Int} {Rf : Nat → Nat → Option Nat} {K : Nat → Nat × Nat} {n z : Nat} {Q : Option sm_V → sm_S → Prop} : sm_wp (d + 1) 27 58 [l0, some (.inr (some r1)), l2, some (.inl x3), some (.inl x4), some (.inl x5), l6] [] (Z, Rf, K, n, z) Q = (sm_rd (K 1000000) (wr x3) ∧ sm_rd (K 1000001) (wr x3) ∧ (K r1).1 = 1 ∧ sm_call d 9 [.inr (some r1), .inl (x4 + (Z 1000000 ((wr x3).toNat))), .inl (x5 + (Z 1000001 ((wr x3).toNat)))] (Z, Rf, K, n, z) (sm_cont (d + 1) 27 78 [l0, some (.inr (some r1)), l2, some (.inl x3), some (.inl x4), some (.inl x5), l6] [] Q)) := (w_aload_n t27_58 rfl rfl).trans ((w_iload t27_59 rfl rfl).trans ((w_gs1 t27_61 rfl).trans ((w_iload_n t27_64 rfl rfl).trans ((w_iald t27_65 rfl rfl).trans (congrArg (And _) ((w_iadd t27_66 rfl).trans ((w_iload t27_67 rfl rfl).trans ((w_gs1 t27_69 rfl).trans ((w_iload_n t27_72 rfl rfl).trans ((w_iald t27_73 rfl rfl).trans (congrArg (And _) ((w_iadd t27_74 rfl).trans (w_callV t27_75 rfl rfl rfl rfl (Nat.le_of_ble_eq_true rfl) (Nat.le_of_ble_eq_true rfl) rfl (by decide))))))))))))))
set_option maxRecDepth 10000 in
theorem b27_78 {d : Nat} {l0 : Option sm_V} {l1 : Option sm_V} {l2 : Option sm_V} {l3 : Option sm_V} {l4 : Option sm_V} {l5 : Option sm_V} {l6 : Option sm_V} {s0 : Int} {Z : Nat → Nat → Int} {Rf : Nat → Nat → Option Nat} {K : Nat → Nat × Nat} {n z : Nat} {Q : Option sm_V → sm_S → Prop} : sm_wp d 27 78 [l0, l1, l2, l3, l4, l5, l6] [.inl s0] (Z, Rf, K, n, z) Q = (Q (some (.inl s0)) (Z, Rf, K, n, z)) := w_iret t27_78
theorem t28_0 : sm_at 28 0 = some (1, .iload_n 2, 0, 0, 0) := rfl
theorem t28_1 : sm_at 28 1 = some (1, .istore_n 3, 0, 0, 0) := rfl
theorem t28_2 : sm_at 28 2 = some (1, .iconst 0, 0, 0, 0) := rfl
theorem t28_3 : sm_at 28 3 = some (2, .istore 4, 0, 0, 0) := rfl
theorem t28_5 : sm_at 28 5 = some (2, .iload 4, 0, 0, 0) := rfl
theorem t28_7 : sm_at 28 7 = some (2, .bipush 100, 0, 0, 0) := rfl
theorem t28_9 : sm_at 28 9 = some (3, .if_icmp .ge 103, 0, 0, 0) := rfl
theorem t28_12 : sm_at 28 12 = some (1, .iload_n 3, 0, 0, 0) := rfl
theorem t28_13 : sm_at 28 13 = some (1, .iload_n 1, 0, 0, 0) := rfl
theorem t28_14 : sm_at 28 14 = some (3, .if_icmp .eq 98, 0, 0, 0) := rfl
theorem t28_17 : sm_at 28 17 = some (1, .aload_n 0, 0, 0, 0) := rfl
theorem t28_18 : sm_at 28 18 = some (3, .getfield 15, 3, 1, 0) := rfl
theorem t28_21 : sm_at 28 21 = some (1, .iload_n 3, 0, 0, 0) := rfl
theorem t28_22 : sm_at 28 22 = some (1, .iaload, 0, 0, 0) := rfl
theorem t28_23 : sm_at 28 23 = some (1, .iconst (-1), 0, 0, 0) := rfl
theorem t28_24 : sm_at 28 24 = some (3, .if_icmp .eq 88, 0, 0, 0) := rfl
theorem t28_27 : sm_at 28 27 = some (1, .aload_n 0, 0, 0, 0) := rfl
theorem t28_28 : sm_at 28 28 = some (3, .getfield 15, 3, 1, 0) := rfl
theorem t28_31 : sm_at 28 31 = some (1, .iload_n 3, 0, 0, 0) := rfl
theorem t28_32 : sm_at 28 32 = some (1, .iaload, 0, 0, 0) := rfl
theorem t28_33 : sm_at 28 33 = some (2, .istore 5, 0, 0, 0) := rfl
theorem t28_35 : sm_at 28 35 = some (1, .iload_n 3, 0, 0, 0) := rfl
theorem t28_36 : sm_at 28 36 = some (3, .getstatic 54, 1, 1000000, 0) := rfl
theorem t28_39 : sm_at 28 39 = some (2, .iload 5, 0, 0, 0) := rfl
theorem t28_41 : sm_at 28 41 = some (1, .iaload, 0, 0, 0) := rfl
theorem t28_42 : sm_at 28 42 = some (1, .isub, 0, 0, 0) := rfl
theorem t28_43 : sm_at 28 43 = some (3, .getstatic 57, 1, 1000001, 0) := rfl
theorem t28_46 : sm_at 28 46 = some (2, .iload 5, 0, 0, 0) := rfl
theorem t28_48 : sm_at 28 48 = some (1, .iaload, 0, 0, 0) := rfl
theorem t28_49 : sm_at 28 49 = some (2, .bipush 10, 0, 0, 0) := rfl
theorem t28_51 : sm_at 28 51 = some (1, .imul, 0, 0, 0) := rfl
theorem t28_52 : sm_at 28 52 = some (1, .isub, 0, 0, 0) := rfl
theorem t28_53 : sm_at 28 53 = some (2, .istore 6, 0, 0, 0) := rfl
theorem t28_55 : sm_at 28 55 = some (2, .iload 6, 0, 0, 0) := rfl
theorem t28_57 : sm_at 28 57 = some (3, .ifCond .lt 10, 0, 0, 0) := rfl
theorem t28_60 : sm_at 28 60 = some (2, .iload 6, 0, 0, 0) := rfl
theorem t28_62 : sm_at 28 62 = some (2, .bipush 100, 0, 0, 0) := rfl
theorem t28_64 : sm_at 28 64 = some (3, .if_icmp .lt 4, 0, 0, 0) := rfl
theorem t28_67 : sm_at 28 67 = some (1, .return_, 0, 0, 0) := rfl
theorem t28_68 : sm_at 28 68 = some (1, .aload_n 0, 0, 0, 0) := rfl
theorem t28_69 : sm_at 28 69 = some (3, .getfield 9, 3, 0, 0) := rfl
theorem t28_72 : sm_at 28 72 = some (2, .iload 6, 0, 0, 0) := rfl
theorem t28_74 : sm_at 28 74 = some (1, .iconst 4, 0, 0, 0) := rfl
theorem t28_75 : sm_at 28 75 = some (1, .imul, 0, 0, 0) := rfl
theorem t28_76 : sm_at 28 76 = some (2, .iload 5, 0, 0, 0) := rfl
theorem t28_78 : sm_at 28 78 = some (1, .iadd, 0, 0, 0) := rfl
theorem t28_79 : sm_at 28 79 = some (1, .dup2, 0, 0, 0) := rfl
theorem t28_80 : sm_at 28 80 = some (1, .iaload, 0, 0, 0) := rfl
theorem t28_81 : sm_at 28 81 = some (1, .iconst 1, 0, 0, 0) := rfl
theorem t28_82 : sm_at 28 82 = some (1, .iadd, 0, 0, 0) := rfl
theorem t28_83 : sm_at 28 83 = some (1, .iastore, 0, 0, 0) := rfl
theorem t28_84 : sm_at 28 84 = some (1, .aload_n 0, 0, 0, 0) := rfl
theorem t28_85 : sm_at 28 85 = some (3, .getfield 9, 3, 0, 0) := rfl
theorem t28_88 : sm_at 28 88 = some (1, .iload_n 3, 0, 0, 0) := rfl
theorem t28_89 : sm_at 28 89 = some (1, .iconst 4, 0, 0, 0) := rfl
theorem t28_90 : sm_at 28 90 = some (1, .imul, 0, 0, 0) := rfl
theorem t28_91 : sm_at 28 91 = some (2, .iload 5, 0, 0, 0) := rfl
theorem t28_93 : sm_at 28 93 = some (1, .iconst 2, 0, 0, 0) := rfl
theorem t28_94 : sm_at 28 94 = some (1, .iadd, 0, 0, 0) := rfl
theorem t28_95 : sm_at 28 95 = some (1, .iconst 3, 0, 0, 0) := rfl
set_option maxRecDepth 100000 in
theorem t28_96 : sm_at 28 96 = some (1, .iand, 0, 0, 0) := rfl
set_option maxRecDepth 100000 in
theorem t28_97 : sm_at 28 97 = some (1, .iadd, 0, 0, 0) := rfl
set_option maxRecDepth 100000 in
theorem t28_98 : sm_at 28 98 = some (1, .dup2, 0, 0, 0) := rfl
set_option maxRecDepth 100000 in
theorem t28_99 : sm_at 28 99 = some (1, .iaload, 0, 0, 0) := rfl
set_option maxRecDepth 100000 in
theorem t28_100 : sm_at 28 100 = some (1, .iconst 1, 0, 0, 0) := rfl
set_option maxRecDepth 100000 in
theorem t28_101 : sm_at 28 101 = some (1, .isub, 0, 0, 0) := rfl
set_option maxRecDepth 100000 in
theorem t28_102 : sm_at 28 102 = some (1, .iastore, 0, 0, 0) := rfl
set_option maxRecDepth 100000 in
theorem t28_103 : sm_at 28 103 = some (2, .iload 6, 0, 0, 0) := rfl
set_option maxRecDepth 100000 in
theorem t28_105 : sm_at 28 105 = some (1, .istore_n 3, 0, 0, 0) := rfl
set_option maxRecDepth 100000 in
theorem t28_106 : sm_at 28 106 = some (3, .iinc 4 1, 0, 0, 0) := rfl
set_option maxRecDepth 100000 in
theorem t28_109 : sm_at 28 109 = some (3, .goto (-104), 0, 0, 0) := rfl
set_option maxRecDepth 100000 in
theorem t28_112 : sm_at 28 112 = some (1, .return_, 0, 0, 0) := rfl
set_option maxRecDepth 10000 in
theorem b28_0 {d : Nat} {l0 : Option sm_V} {l1 : Option sm_V} {x2 : Int} {l3 : Option sm_V} {l4 : Option sm_V} {l5 : Option sm_V} {l6 : Option sm_V} {Z : Nat → Nat → Int} {Rf : Nat → Nat → Option Nat} {K : Nat → Nat × Nat} {n z : Nat} {Q : Option sm_V → sm_S → Prop} : sm_wp d 28 0 [l0, l1, some (.inl x2), l3, l4, l5, l6] [] (Z, Rf, K, n, z) Q = (sm_wp d 28 5 [l0, l1, some (.inl x2), some (.inl x2), some (.inl 0), l5, l6] [] (Z, Rf, K, n, z) Q) := (w_iload_n t28_0 rfl rfl).trans ((w_istore_n t28_1 rfl (Nat.le_of_ble_eq_true rfl) rfl).trans ((w_iconst t28_2 rfl).trans (w_istore t28_3 rfl (Nat.le_of_ble_eq_true rfl) rfl)))
set_option maxRecDepth 10000 in
theorem b28_5 {d : Nat} {l0 : Option sm_V} {l1 : Option sm_V} {l2 : Option sm_V} {l3 : Option sm_V} {x4 : Int} {l5 : Option sm_V} {l6 : Option sm_V} {Z : Nat → Nat → Int} {Rf : Nat → Nat → Option Nat} {K : Nat → Nat × Nat} {n z : Nat} {Q : Option sm_V → sm_S → Prop} : sm_wp d 28 5 [l0, l1, l2, l3, some (.inl x4), l5, l6] [] (Z, Rf, K, n, z) Q = (if (100 : Int) ≤ wr x4 then sm_wp d 28 112 [l0, l1, l2, l3, some (.inl x4), l5, l6] [] (Z, Rf, K, n, z) Q else sm_wp d 28 12 [l0, l1, l2, l3, some (.inl x4), l5, l6] [] (Z, Rf, K, n, z) Q) := (w_iload t28_5 rfl rfl).trans ((w_bipush t28_7 rfl).trans (w_icge t28_9 rfl wl_100 rfl rfl))
set_option maxRecDepth 10000 in
theorem b28_12 {d : Nat} {l0 : Option sm_V} {x1 : Int} {l2 : Option sm_V} {x3 : Int} {l4 : Option sm_V} {l5 : Option sm_V} {l6 : Option sm_V} {Z : Nat → Nat → Int} {Rf : Nat → Nat → Option Nat} {K : Nat → Nat × Nat} {n z : Nat} {Q : Option sm_V → sm_S → Prop} : sm_wp d 28 12 [l0, some (.inl x1), l2, some (.inl x3), l4, l5, l6] [] (Z, Rf, K, n, z) Q = (if wr x3 = wr x1 then sm_wp d 28 112 [l0, some (.inl x1), l2, some (.inl x3), l4, l5, l6] [] (Z, Rf, K, n, z) Q else sm_wp d 28 17 [l0, some (.inl x1), l2, some (.inl x3), l4, l5, l6] [] (Z, Rf, K, n, z) Q) := (w_iload_n t28_12 rfl rfl).trans ((w_iload_n t28_13 rfl rfl).trans (w_iceq t28_14 rfl rfl rfl rfl))
set_option maxRecDepth 10000 in
theorem b28_17 {d : Nat} {r0 : Nat} {l1 : Option sm_V} {l2 : Option sm_V} {x3 : Int} {l4 : Option sm_V} {l5 : Option sm_V} {l6 : Option sm_V} {Z : Nat → Nat → Int} {Rf : Nat → Nat → Option Nat} {K : Nat → Nat × Nat} {n z : Nat} {Q : Option sm_V → sm_S → Prop} : sm_wp d 28 17 [some (.inr (some r0)), l1, l2, some (.inl x3), l4, l5, l6] [] (Z, Rf, K, n, z) Q = ((K r0).1 = 3 ∧ (Rf r0 1).isSome = true ∧ sm_rd (K (((Rf r0 1).getD 0))) (wr x3) ∧ (if wr (Z (((Rf r0 1).getD 0)) ((wr x3).toNat)) = (-1 : Int) then sm_wp d 28 112 [some (.inr (some r0)), l1, l2, some (.inl x3), l4, l5, l6] [] (Z, Rf, K, n, z) Q else sm_wp d 28 27 [some (.inr (some r0)), l1, l2, some (.inl x3), l4, l5, l6] [] (Z, Rf, K, n, z) Q)) := (w_aload_n t28_17 rfl rfl).trans ((w_getR t28_18 rfl (by decide)).trans (congrArg (And _) (congrArg (And _) ((w_iload_n t28_21 rfl rfl).trans ((w_iald t28_22 rfl rfl).trans (congrArg (And _) ((w_iconst t28_23 rfl).trans (w_iceq t28_24 rfl wl_m1 rfl rfl))))))))
set_option maxRecDepth 10000 in
theorem b28_27 {d : Nat} {r0 : Nat} {l1 : Option sm_V} {l2 : Option sm_V} {x3 : Int} {l4 : Option sm_V} {l5 : Option sm_V} {l6 : Option sm_V} {Z : Nat → Nat → Int} {Rf : Nat → Nat → Option Nat} {K : Nat → Nat × Nat} {n z : Nat} {Q : Option sm_V → sm_S → Prop} : sm_wp d 28 27 [some (.inr (some r0)), l1, l2, some (.inl x3), l4, l5, l6] [] (Z, Rf, K, n, z) Q = ((K r0).1 = 3 ∧ (Rf r0 1).isSome = true ∧ sm_rd (K (((Rf r0 1).getD 0))) (wr x3) ∧ sm_rd (K 1000000) (wr (Z (((Rf r0 1).getD 0)) ((wr x3).toNat))) ∧ sm_rd (K 1000001) (wr (Z (((Rf r0 1).getD 0)) ((wr x3).toNat))) ∧ (if wr ((x3 - (Z 1000000 ((wr (Z (((Rf r0 1).getD 0)) ((wr x3).toNat))).toNat))) - ((Z 1000001 ((wr (Z (((Rf r0 1).getD 0)) ((wr x3).toNat))).toNat)) * 10)) < 0 then sm_wp d 28 67 [some (.inr (some r0)), l1, l2, some (.inl x3), l4, some (.inl (Z (((Rf r0 1).getD 0)) ((wr x3).toNat))), some (.inl ((x3 - (Z 1000000 ((wr (Z (((Rf r0 1).getD 0)) ((wr x3).toNat))).toNat))) - ((Z 1000001 ((wr (Z (((Rf r0 1).getD 0)) ((wr x3).toNat))).toNat)) * 10)))] [] (Z, Rf, K, n, z) Q else sm_wp d 28 60 [some (.inr (some r0)), l1, l2, some (.inl x3), l4, some (.inl (Z (((Rf r0 1).getD 0)) ((wr x3).toNat))), some (.inl ((x3 - (Z 1000000 ((wr (Z (((Rf r0 1).getD 0)) ((wr x3).toNat))).toNat))) - ((Z 1000001 ((wr (Z (((Rf r0 1).getD 0)) ((wr x3).toNat))).toNat)) * 10)))] [] (Z, Rf, K, n, z) Q)) := (w_aload_n t28_27 rfl rfl).trans ((w_getR t28_28 rfl (by decide)).trans (congrArg (And _) (congrArg (And _) ((w_iload_n t28_31 rfl rfl).trans ((w_iald t28_32 rfl rfl).trans (congrArg (And _) ((w_istore t28_33 rfl (Nat.le_of_ble_eq_true rfl) rfl).trans ((w_iload_n t28_35 rfl rfl).trans ((w_gs1 t28_36 rfl).trans ((w_iload t28_39 rfl rfl).trans ((w_iald t28_41 rfl rfl).trans (congrArg (And _) ((w_isub t28_42 rfl).trans ((w_gs1 t28_43 rfl).trans ((w_iload t28_46 rfl rfl).trans ((w_iald t28_48 rfl rfl).trans (congrArg (And _) ((w_bipush t28_49 rfl).trans ((w_imul t28_51 rfl).trans ((w_isub t28_52 rfl).trans ((w_istore t28_53 rfl (Nat.le_of_ble_eq_true rfl) rfl).trans ((w_iload t28_55 rfl rfl).trans (w_iflt t28_57 rfl rfl rfl)))))))))))))))))))))))
set_option maxRecDepth 10000 in
theorem b28_60 {d : Nat} {l0 : Option sm_V} {l1 : Option sm_V} {l2 : Option sm_V} {l3 : Option sm_V} {l4 : Option sm_V} {l5 : Option sm_V} {x6 : Int} {Z : Nat → Nat → Int} {Rf : Nat → Nat → Option Nat} {K : Nat → Nat × Nat} {n z : Nat} {Q : Option sm_V → sm_S → Prop} : sm_wp d 28 60 [l0, l1, l2, l3, l4, l5, some (.inl x6)] [] (Z, Rf, K, n, z) Q = (if wr x6 < (100 : Int) then sm_wp d 28 68 [l0, l1, l2, l3, l4, l5, some (.inl x6)] [] (Z, Rf, K, n, z) Q else sm_wp d 28 67 [l0, l1, l2, l3, l4, l5, some (.inl x6)] [] (Z, Rf, K, n, z) Q) := (w_iload t28_60 rfl rfl).trans ((w_bipush t28_62 rfl).trans (w_iclt t28_64 rfl wl_100 rfl rfl))
set_option maxRecDepth 10000 in
theorem b28_67 {d : Nat} {l0 : Option sm_V} {l1 : Option sm_V} {l2 : Option sm_V} {l3 : Option sm_V} {l4 : Option sm_V} {l5 : Option sm_V} {l6 : Option sm_V} {Z : Nat → Nat → Int} {Rf : Nat → Nat → Option Nat} {K : Nat → Nat × Nat} {n z : Nat} {Q : Option sm_V → sm_S → Prop} : sm_wp d 28 67 [l0, l1, l2, l3, l4, l5, l6] [] (Z, Rf, K, n, z) Q = (Q none (Z, Rf, K, n, z)) := w_vret t28_67
set_option maxRecDepth 10000 in
theorem b28_68 {d : Nat} {r0 : Nat} {l1 : Option sm_V} {l2 : Option sm_V} {x3 : Int} {x4 : Int} {x5 : Int} {x6 : Int} {Z : Nat → Nat → Int} {Rf : Nat → Nat → Option Nat} {K : Nat → Nat × Nat} {n z : Nat} {Q : Option sm_V → sm_S → Prop} : sm_wp d 28 68 [some (.inr (some r0)), l1, l2, some (.inl x3), some (.inl x4), some (.inl x5), some (.inl x6)] [] (Z, Rf, K, n, z) Q = ((K r0).1 = 3 ∧ (Rf r0 0).isSome = true ∧ sm_rd (K (((Rf r0 0).getD 0))) (wr ((x6 * 4) + x5)) ∧ sm_wt (K (((Rf r0 0).getD 0))) (wr ((x6 * 4) + x5)) ∧ (K r0).1 = 3 ∧ (Rf r0 0).isSome = true ∧ sm_rd (K (((Rf r0 0).getD 0))) (wr ((x3 * 4) + (sm_and (x5 + 2) 3))) ∧ sm_wt (K (((Rf r0 0).getD 0))) (wr ((x3 * 4) + (sm_and (x5 + 2) 3))) ∧ sm_wp d 28 5 [some (.inr (some r0)), l1, l2, some (.inl x6), some (.inl (x4 + 1)), some (.inl x5), some (.inl x6)] [] (sm_u (sm_u Z (((Rf r0 0).getD 0)) ((wr ((x6 * 4) + x5)).toNat) ((Z (((Rf r0 0).getD 0)) ((wr ((x6 * 4) + x5)).toNat)) + 1)) (((Rf r0 0).getD 0)) ((wr ((x3 * 4) + (sm_and (x5 + 2) 3))).toNat) (((sm_u Z (((Rf r0 0).getD 0)) ((wr ((x6 * 4) + x5)).toNat) ((Z (((Rf r0 0).getD 0)) ((wr ((x6 * 4) + x5)).toNat)) + 1)) (((Rf r0 0).getD 0)) ((wr ((x3 * 4) + (sm_and (x5 + 2) 3))).toNat)) - 1), Rf, K, n, z) Q) := (w_aload_n t28_68 rfl rfl).trans ((w_getR t28_69 rfl (by decide)).trans (congrArg (And _) (congrArg (And _) ((w_iload t28_72 rfl rfl).trans ((w_iconst t28_74 rfl).trans ((w_imul t28_75 rfl).trans ((w_iload t28_76 rfl rfl).trans ((w_iadd t28_78 rfl).trans ((w_dup2 t28_79 rfl).trans ((w_iald t28_80 rfl rfl).trans (congrArg (And _) ((w_iconst t28_81 rfl).trans ((w_iadd t28_82 rfl).trans ((w_iast t28_83 rfl rfl).trans (congrArg (And _) ((w_aload_n t28_84 rfl rfl).trans ((w_getR t28_85 rfl (by decide)).trans (congrArg (And _) (congrArg (And _) ((w_iload_n t28_88 rfl rfl).trans ((w_iconst t28_89 rfl).trans ((w_imul t28_90 rfl).trans ((w_iload t28_91 rfl rfl).trans ((w_iconst t28_93 rfl).trans ((w_iadd t28_94 rfl).trans ((w_iconst t28_95 rfl).trans ((w_iand t28_96 rfl).trans ((w_iadd t28_97 rfl).trans ((w_dup2 t28_98 rfl).trans ((w_iald t28_99 rfl rfl).trans (congrArg (And _) ((w_iconst t28_100 rfl).trans ((w_isub t28_101 rfl).trans ((w_iast t28_102 rfl rfl).trans (congrArg (And _) ((w_iload t28_103 rfl rfl).trans ((w_istore_n t28_105 rfl (Nat.le_of_ble_eq_true rfl) rfl).trans ((w_iinc t28_106 rfl rfl (Nat.le_of_ble_eq_true rfl) rfl).trans (w_goto t28_109 rfl)))))))))))))))))))))))))))))))))))))))
set_option maxRecDepth 10000 in
theorem b28_112 {d : Nat} {l0 : Option sm_V} {l1 : Option sm_V} {l2 : Option sm_V} {l3 : Option sm_V} {l4 : Option sm_V} {l5 : Option sm_V} {l6 : Option sm_V} {Z : Nat → Nat → Int} {Rf : Nat → Nat → Option Nat} {K : Nat → Nat × Nat} {n z : Nat} {Q : Option sm_V → sm_S → Prop} : sm_wp d 28 112 [l0, l1, l2, l3, l4, l5, l6] [] (Z, Rf, K, n, z) Q = (Q none (Z, Rf, K, n, z)) := w_vret t28_112
theorem t29_0 : sm_at 29 0 = some (1, .aload_n 0, 0, 0, 0) := rfl
theorem t29_1 : sm_at 29 1 = some (3, .invokespecial 3, 1001, 1, 0) := rfl
theorem t29_4 : sm_at 29 4 = some (1, .aload_n 0, 0, 0, 0) := rfl
theorem t29_5 : sm_at 29 5 = some (3, .sipush 400, 0, 0, 0) := rfl
theorem t29_8 : sm_at 29 8 = some (2, .newarray .int, 0, 0, 0) := rfl
theorem t29_10 : sm_at 29 10 = some (3, .putfield 9, 4, 2, 0) := rfl
theorem t29_13 : sm_at 29 13 = some (1, .aload_n 0, 0, 0, 0) := rfl
theorem t29_14 : sm_at 29 14 = some (2, .bipush 40, 0, 0, 0) := rfl
theorem t29_16 : sm_at 29 16 = some (2, .newarray .int, 0, 0, 0) := rfl
theorem t29_18 : sm_at 29 18 = some (3, .putfield 15, 4, 4, 0) := rfl
theorem t29_21 : sm_at 29 21 = some (1, .return_, 0, 0, 0) := rfl
set_option maxRecDepth 10000 in
theorem b29_0 {d : Nat} {r0 : Nat} {Z : Nat → Nat → Int} {Rf : Nat → Nat → Option Nat} {K : Nat → Nat × Nat} {n z : Nat} {Q : Option sm_V → sm_S → Prop} : sm_wp d 29 0 [some (.inr (some r0))] [] (Z, Rf, K, n, z) Q = ((n < 1000000 ∧ 0 ≤ (400 : Int) ∧ (400 : Int) ≤ 65536) ∧ ((sm_k K n (100, 400)) r0).1 = 4 ∧ (n + 1 < 1000000 ∧ 0 ≤ (40 : Int) ∧ (40 : Int) ≤ 65536) ∧ ((sm_k (sm_k K n (100, 400)) (n + 1) (100, 40)) r0).1 = 4 ∧ Q none (sm_r (sm_r Z n (fun _ => 0)) (n + 1) (fun _ => 0), sm_u (sm_r (sm_u (sm_r Rf n (fun _ => none)) r0 2 (some n)) (n + 1) (fun _ => none)) r0 4 (some (n + 1)), sm_k (sm_k K n (100, 400)) (n + 1) (100, 40), n + 1 + 1, z + 400 + 40)) := (w_aload_n t29_0 rfl rfl).trans ((w_oinit t29_1 rfl (Nat.le_of_ble_eq_true rfl)).trans ((w_aload_n t29_4 rfl rfl).trans ((w_sipush t29_5 rfl).trans ((w_newa t29_8 rfl wl_400).trans (congrArg (And _) ((w_putR t29_10 rfl (by decide)).trans (congrArg (And _) ((w_aload_n t29_13 rfl rfl).trans ((w_bipush t29_14 rfl).trans ((w_newa t29_16 rfl wl_40).trans (congrArg (And _) ((w_putR t29_18 rfl (by decide)).trans (congrArg (And _) (w_vret t29_21))))))))))))))
theorem t30_0 : sm_at 30 0 = some (1, .aload_n 0, 0, 0, 0) := rfl
theorem t30_1 : sm_at 30 1 = some (3, .invokevirtual 18, 31, 1, 0) := rfl
theorem t30_4 : sm_at 30 4 = some (1, .iload_n 2, 0, 0, 0) := rfl
theorem t30_5 : sm_at 30 5 = some (1, .aload_n 1, 0, 0, 0) := rfl
theorem t30_6 : sm_at 30 6 = some (1, .arraylength, 0, 0, 0) := rfl
theorem t30_7 : sm_at 30 7 = some (3, .invokestatic 21, 1004, 2, 0) := rfl
theorem t30_10 : sm_at 30 10 = some (1, .istore_n 3, 0, 0, 0) := rfl
theorem t30_11 : sm_at 30 11 = some (1, .iconst 0, 0, 0, 0) := rfl
theorem t30_12 : sm_at 30 12 = some (2, .istore 4, 0, 0, 0) := rfl
theorem t30_14 : sm_at 30 14 = some (2, .iload 4, 0, 0, 0) := rfl
theorem t30_16 : sm_at 30 16 = some (1, .iload_n 3, 0, 0, 0) := rfl
theorem t30_17 : sm_at 30 17 = some (3, .if_icmp .gt 191, 0, 0, 0) := rfl
theorem t30_20 : sm_at 30 20 = some (1, .aload_n 0, 0, 0, 0) := rfl
theorem t30_21 : sm_at 30 21 = some (3, .getfield 27, 4, 0, 0) := rfl
theorem t30_24 : sm_at 30 24 = some (3, .ifCond .ne 184, 0, 0, 0) := rfl
theorem t30_27 : sm_at 30 27 = some (1, .aload_n 0, 0, 0, 0) := rfl
theorem t30_28 : sm_at 30 28 = some (1, .aload_n 1, 0, 0, 0) := rfl
theorem t30_29 : sm_at 30 29 = some (1, .iload_n 3, 0, 0, 0) := rfl
theorem t30_30 : sm_at 30 30 = some (3, .invokevirtual 31, 32, 3, 0) := rfl
theorem t30_33 : sm_at 30 33 = some (1, .aload_n 0, 0, 0, 0) := rfl
theorem t30_34 : sm_at 30 34 = some (1, .aload_n 0, 0, 0, 0) := rfl
theorem t30_35 : sm_at 30 35 = some (3, .getfield 35, 4, 14, 0) := rfl
theorem t30_38 : sm_at 30 38 = some (3, .putfield 38, 4, 1, 0) := rfl
theorem t30_41 : sm_at 30 41 = some (1, .aload_n 0, 0, 0, 0) := rfl
theorem t30_42 : sm_at 30 42 = some (1, .aload_n 1, 0, 0, 0) := rfl
theorem t30_43 : sm_at 30 43 = some (1, .iload_n 3, 0, 0, 0) := rfl
theorem t30_44 : sm_at 30 44 = some (3, .invokevirtual 41, 33, 3, 0) := rfl
theorem t30_47 : sm_at 30 47 = some (1, .aload_n 0, 0, 0, 0) := rfl
theorem t30_48 : sm_at 30 48 = some (3, .getfield 44, 4, 12, 0) := rfl
theorem t30_51 : sm_at 30 51 = some (1, .iconst 1, 0, 0, 0) := rfl
theorem t30_52 : sm_at 30 52 = some (3, .if_icmp .ne 33, 0, 0, 0) := rfl
theorem t30_55 : sm_at 30 55 = some (1, .aload_n 0, 0, 0, 0) := rfl
theorem t30_56 : sm_at 30 56 = some (3, .getfield 47, 4, 6, 0) := rfl
theorem t30_59 : sm_at 30 59 = some (3, .ifCond .ne 26, 0, 0, 0) := rfl
theorem t30_62 : sm_at 30 62 = some (3, .new 50, 2, 0, 0) := rfl
theorem t30_65 : sm_at 30 65 = some (1, .dup, 0, 0, 0) := rfl
theorem t30_66 : sm_at 30 66 = some (1, .aload_n 0, 0, 0, 0) := rfl
theorem t30_67 : sm_at 30 67 = some (3, .getfield 52, 4, 7, 0) := rfl
theorem t30_70 : sm_at 30 70 = some (1, .aload_n 0, 0, 0, 0) := rfl
theorem t30_71 : sm_at 30 71 = some (3, .getfield 9, 4, 2, 0) := rfl
theorem t30_74 : sm_at 30 74 = some (1, .aload_n 0, 0, 0, 0) := rfl
theorem t30_75 : sm_at 30 75 = some (3, .getfield 55, 4, 3, 0) := rfl
theorem t30_78 : sm_at 30 78 = some (3, .invokestatic 58, 206, 2, 0) := rfl
theorem t30_81 : sm_at 30 81 = some (3, .invokespecial 64, 21, 3, 0) := rfl
theorem t30_84 : sm_at 30 84 = some (1, .areturn, 0, 0, 0) := rfl
theorem t30_85 : sm_at 30 85 = some (1, .aload_n 0, 0, 0, 0) := rfl
theorem t30_86 : sm_at 30 86 = some (3, .getfield 47, 4, 6, 0) := rfl
theorem t30_89 : sm_at 30 89 = some (39, .tableswitch 105 0 5 #[39, 50, 61, 72, 83, 94], 0, 0, 0) := rfl
theorem t30_128 : sm_at 30 128 = some (1, .aload_n 0, 0, 0, 0) := rfl
theorem t30_129 : sm_at 30 129 = some (1, .aload_n 0, 0, 0, 0) := rfl
theorem t30_130 : sm_at 30 130 = some (3, .invokevirtual 67, 39, 1, 0) := rfl
theorem t30_133 : sm_at 30 133 = some (3, .putfield 27, 4, 0, 0) := rfl
theorem t30_136 : sm_at 30 136 = some (3, .goto 66, 0, 0, 0) := rfl
theorem t30_139 : sm_at 30 139 = some (1, .aload_n 0, 0, 0, 0) := rfl
theorem t30_140 : sm_at 30 140 = some (1, .aload_n 0, 0, 0, 0) := rfl
theorem t30_141 : sm_at 30 141 = some (3, .invokevirtual 71, 40, 1, 0) := rfl
theorem t30_144 : sm_at 30 144 = some (3, .putfield 27, 4, 0, 0) := rfl
theorem t30_147 : sm_at 30 147 = some (3, .goto 55, 0, 0, 0) := rfl
theorem t30_150 : sm_at 30 150 = some (1, .aload_n 0, 0, 0, 0) := rfl
theorem t30_151 : sm_at 30 151 = some (1, .aload_n 0, 0, 0, 0) := rfl
set_option maxRecDepth 100000 in
theorem t30_152 : sm_at 30 152 = some (3, .invokevirtual 74, 41, 1, 0) := rfl
set_option maxRecDepth 100000 in
theorem t30_155 : sm_at 30 155 = some (3, .putfield 27, 4, 0, 0) := rfl
set_option maxRecDepth 100000 in
theorem t30_158 : sm_at 30 158 = some (3, .goto 44, 0, 0, 0) := rfl
set_option maxRecDepth 100000 in
theorem t30_161 : sm_at 30 161 = some (1, .aload_n 0, 0, 0, 0) := rfl
set_option maxRecDepth 100000 in
theorem t30_162 : sm_at 30 162 = some (1, .aload_n 0, 0, 0, 0) := rfl
set_option maxRecDepth 100000 in
theorem t30_163 : sm_at 30 163 = some (3, .invokevirtual 77, 42, 1, 0) := rfl
set_option maxRecDepth 100000 in
theorem t30_166 : sm_at 30 166 = some (3, .putfield 27, 4, 0, 0) := rfl
set_option maxRecDepth 100000 in
theorem t30_169 : sm_at 30 169 = some (3, .goto 33, 0, 0, 0) := rfl
set_option maxRecDepth 100000 in
theorem t30_172 : sm_at 30 172 = some (1, .aload_n 0, 0, 0, 0) := rfl
set_option maxRecDepth 100000 in
theorem t30_173 : sm_at 30 173 = some (1, .aload_n 0, 0, 0, 0) := rfl
set_option maxRecDepth 100000 in
theorem t30_174 : sm_at 30 174 = some (3, .invokevirtual 80, 43, 1, 0) := rfl
set_option maxRecDepth 100000 in
theorem t30_177 : sm_at 30 177 = some (3, .putfield 27, 4, 0, 0) := rfl
set_option maxRecDepth 100000 in
theorem t30_180 : sm_at 30 180 = some (3, .goto 22, 0, 0, 0) := rfl
set_option maxRecDepth 100000 in
theorem t30_183 : sm_at 30 183 = some (1, .aload_n 0, 0, 0, 0) := rfl
set_option maxRecDepth 100000 in
theorem t30_184 : sm_at 30 184 = some (1, .aload_n 0, 0, 0, 0) := rfl
set_option maxRecDepth 100000 in
theorem t30_185 : sm_at 30 185 = some (3, .invokevirtual 83, 44, 1, 0) := rfl
set_option maxRecDepth 100000 in
theorem t30_188 : sm_at 30 188 = some (3, .putfield 27, 4, 0, 0) := rfl
set_option maxRecDepth 100000 in
theorem t30_191 : sm_at 30 191 = some (3, .goto 11, 0, 0, 0) := rfl
set_option maxRecDepth 100000 in
theorem t30_194 : sm_at 30 194 = some (1, .aload_n 0, 0, 0, 0) := rfl
set_option maxRecDepth 100000 in
theorem t30_195 : sm_at 30 195 = some (1, .aload_n 0, 0, 0, 0) := rfl
set_option maxRecDepth 100000 in
theorem t30_196 : sm_at 30 196 = some (3, .invokevirtual 86, 46, 1, 0) := rfl
set_option maxRecDepth 100000 in
theorem t30_199 : sm_at 30 199 = some (3, .putfield 27, 4, 0, 0) := rfl
set_option maxRecDepth 100000 in
theorem t30_202 : sm_at 30 202 = some (3, .iinc 4 1, 0, 0, 0) := rfl
set_option maxRecDepth 100000 in
theorem t30_205 : sm_at 30 205 = some (3, .goto (-191), 0, 0, 0) := rfl
set_option maxRecDepth 100000 in
theorem t30_208 : sm_at 30 208 = some (1, .aconst_null, 0, 0, 0) := rfl
set_option maxRecDepth 100000 in
theorem t30_209 : sm_at 30 209 = some (1, .areturn, 0, 0, 0) := rfl
set_option maxRecDepth 10000 in
theorem b30_0 {d : Nat} {r0 : Nat} {l1 : Option sm_V} {l2 : Option sm_V} {l3 : Option sm_V} {l4 : Option sm_V} {Z : Nat → Nat → Int} {Rf : Nat → Nat → Option Nat} {K : Nat → Nat × Nat} {n z : Nat} {Q : Option sm_V → sm_S → Prop} : sm_wp (d + 1) 30 0 [some (.inr (some r0)), l1, l2, l3, l4] [] (Z, Rf, K, n, z) Q = ((K r0).1 = 4 ∧ sm_call d 31 [.inr (some r0)] (Z, Rf, K, n, z) (sm_cont (d + 1) 30 4 [some (.inr (some r0)), l1, l2, l3, l4] [] Q)) := (w_aload_n t30_0 rfl rfl).trans (w_callV t30_1 rfl rfl rfl rfl (Nat.le_of_ble_eq_true rfl) (Nat.le_of_ble_eq_true rfl) rfl (by decide))
set_option maxRecDepth 10000 in
theorem b30_4 {d : Nat} {l0 : Option sm_V} {r1 : Nat} {x2 : Int} {l3 : Option sm_V} {l4 : Option sm_V} {Z : Nat → Nat → Int} {Rf : Nat → Nat → Option Nat} {K : Nat → Nat × Nat} {n z : Nat} {Q : Option sm_V → sm_S → Prop} : sm_wp d 30 4 [l0, some (.inr (some r1)), some (.inl x2), l3, l4] [] (Z, Rf, K, n, z) Q = (((K r1).1 = 100 ∨ (K r1).1 = 101 ∨ (K r1).1 = 102 ∨ (K r1).1 = 104) ∧ sm_wp d 30 14 [l0, some (.inr (some r1)), some (.inl x2), some (.inl (if wr (((K r1).2 : Int)) < wr x2 then ((K r1).2 : Int) else x2)), some (.inl 0)] [] (Z, Rf, K, n, z) Q) := (w_iload_n t30_4 rfl rfl).trans ((w_aload_n t30_5 rfl rfl).trans ((w_alen t30_6 rfl).trans (congrArg (And _) ((w_min t30_7 rfl (Nat.le_of_ble_eq_true rfl) rfl rfl).trans ((w_istore_n t30_10 rfl (Nat.le_of_ble_eq_true rfl) rfl).trans ((w_iconst t30_11 rfl).trans (w_istore t30_12 rfl (Nat.le_of_ble_eq_true rfl) rfl)))))))
set_option maxRecDepth 10000 in
theorem b30_14 {d : Nat} {l0 : Option sm_V} {l1 : Option sm_V} {l2 : Option sm_V} {x3 : Int} {x4 : Int} {Z : Nat → Nat → Int} {Rf : Nat → Nat → Option Nat} {K : Nat → Nat × Nat} {n z : Nat} {Q : Option sm_V → sm_S → Prop} : sm_wp d 30 14 [l0, l1, l2, some (.inl x3), some (.inl x4)] [] (Z, Rf, K, n, z) Q = (if wr x3 < wr x4 then sm_wp d 30 208 [l0, l1, l2, some (.inl x3), some (.inl x4)] [] (Z, Rf, K, n, z) Q else sm_wp d 30 20 [l0, l1, l2, some (.inl x3), some (.inl x4)] [] (Z, Rf, K, n, z) Q) := (w_iload t30_14 rfl rfl).trans ((w_iload_n t30_16 rfl rfl).trans (w_icgt t30_17 rfl rfl rfl rfl))
set_option maxRecDepth 10000 in
theorem b30_20 {d : Nat} {r0 : Nat} {l1 : Option sm_V} {l2 : Option sm_V} {l3 : Option sm_V} {l4 : Option sm_V} {Z : Nat → Nat → Int} {Rf : Nat → Nat → Option Nat} {K : Nat → Nat × Nat} {n z : Nat} {Q : Option sm_V → sm_S → Prop} : sm_wp d 30 20 [some (.inr (some r0)), l1, l2, l3, l4] [] (Z, Rf, K, n, z) Q = ((K r0).1 = 4 ∧ (if wr (Z r0 0) = 0 then sm_wp d 30 27 [some (.inr (some r0)), l1, l2, l3, l4] [] (Z, Rf, K, n, z) Q else sm_wp d 30 208 [some (.inr (some r0)), l1, l2, l3, l4] [] (Z, Rf, K, n, z) Q)) := (w_aload_n t30_20 rfl rfl).trans ((w_getI t30_21 rfl (by decide)).trans (congrArg (And _) (w_ifne t30_24 rfl rfl rfl)))
set_option maxRecDepth 10000 in
theorem b30_27 {d : Nat} {r0 : Nat} {q1 : Option Nat} {l2 : Option sm_V} {x3 : Int} {l4 : Option sm_V} {Z : Nat → Nat → Int} {Rf : Nat → Nat → Option Nat} {K : Nat → Nat × Nat} {n z : Nat} {Q : Option sm_V → sm_S → Prop} : sm_wp (d + 1) 30 27 [some (.inr (some r0)), some (.inr q1), l2, some (.inl x3), l4] [] (Z, Rf, K, n, z) Q = ((K r0).1 = 4 ∧ sm_call d 32 [.inr (some r0), .inr q1, .inl x3] (Z, Rf, K, n, z) (sm_cont (d + 1) 30 33 [some (.inr (some r0)), some (.inr q1), l2, some (.inl x3), l4] [] Q)) := (w_aload_n t30_27 rfl rfl).trans ((w_aload_n t30_28 rfl rfl).trans ((w_iload_n t30_29 rfl rfl).trans (w_callV t30_30 rfl rfl rfl rfl (Nat.le_of_ble_eq_true rfl) (Nat.le_of_ble_eq_true rfl) rfl (by decide))))
set_option maxRecDepth 10000 in
theorem b30_33 {d : Nat} {r0 : Nat} {q1 : Option Nat} {l2 : Option sm_V} {x3 : Int} {l4 : Option sm_V} {Z : Nat → Nat → Int} {Rf : Nat → Nat → Option Nat} {K : Nat → Nat × Nat} {n z : Nat} {Q : Option sm_V → sm_S → Prop} : sm_wp (d + 1) 30 33 [some (.inr (some r0)), some (.inr q1), l2, some (.inl x3), l4] [] (Z, Rf, K, n, z) Q = ((K r0).1 = 4 ∧ (K r0).1 = 4 ∧ (K r0).1 = 4 ∧ sm_call d 33 [.inr (some r0), .inr q1, .inl x3] (sm_u Z r0 1 (Z r0 14), Rf, K, n, z) (sm_cont (d + 1) 30 47 [some (.inr (some r0)), some (.inr q1), l2, some (.inl x3), l4] [] Q)) := (w_aload_n t30_33 rfl rfl).trans ((w_aload_n t30_34 rfl rfl).trans ((w_getI t30_35 rfl (by decide)).trans (congrArg (And _) ((w_putI t30_38 rfl (by decide)).trans (congrArg (And _) ((w_aload_n t30_41 rfl rfl).trans ((w_aload_n t30_42 rfl rfl).trans ((w_iload_n t30_43 rfl rfl).trans (w_callV t30_44 rfl rfl rfl rfl (Nat.le_of_ble_eq_true rfl) (Nat.le_of_ble_eq_true rfl) rfl (by decide))))))))))
set_option maxRecDepth 10000 in
theorem b30_47 {d : Nat} {r0 : Nat} {l1 : Option sm_V} {l2 : Option sm_V} {l3 : Option sm_V} {l4 : Option sm_V} {Z : Nat → Nat → Int} {Rf : Nat → Nat → Option Nat} {K : Nat → Nat × Nat} {n z : Nat} {Q : Option sm_V → sm_S → Prop} : sm_wp d 30 47 [some (.inr (some r0)), l1, l2, l3, l4] [] (Z, Rf, K, n, z) Q = ((K r0).1 = 4 ∧ (if wr (Z r0 12) = (1 : Int) then sm_wp d 30 55 [some (.inr (some r0)), l1, l2, l3, l4] [] (Z, Rf, K, n, z) Q else sm_wp d 30 85 [some (.inr (some r0)), l1, l2, l3, l4] [] (Z, Rf, K, n, z) Q)) := (w_aload_n t30_47 rfl rfl).trans ((w_getI t30_48 rfl (by decide)).trans (congrArg (And _) ((w_iconst t30_51 rfl).trans (w_icne t30_52 rfl wl_1 rfl rfl))))
set_option maxRecDepth 10000 in
theorem b30_55 {d : Nat} {r0 : Nat} {l1 : Option sm_V} {l2 : Option sm_V} {l3 : Option sm_V} {l4 : Option sm_V} {Z : Nat → Nat → Int} {Rf : Nat → Nat → Option Nat} {K : Nat → Nat × Nat} {n z : Nat} {Q : Option sm_V → sm_S → Prop} : sm_wp d 30 55 [some (.inr (some r0)), l1, l2, l3, l4] [] (Z, Rf, K, n, z) Q = ((K r0).1 = 4 ∧ (if wr (Z r0 6) = 0 then sm_wp d 30 62 [some (.inr (some r0)), l1, l2, l3, l4] [] (Z, Rf, K, n, z) Q else sm_wp d 30 85 [some (.inr (some r0)), l1, l2, l3, l4] [] (Z, Rf, K, n, z) Q)) := (w_aload_n t30_55 rfl rfl).trans ((w_getI t30_56 rfl (by decide)).trans (congrArg (And _) (w_ifne t30_59 rfl rfl rfl)))
set_option maxRecDepth 10000 in
theorem b30_62 {d : Nat} {r0 : Nat} {l1 : Option sm_V} {l2 : Option sm_V} {l3 : Option sm_V} {l4 : Option sm_V} {Z : Nat → Nat → Int} {Rf : Nat → Nat → Option Nat} {K : Nat → Nat × Nat} {n z : Nat} {Q : Option sm_V → sm_S → Prop} : sm_wp (d + 1) 30 62 [some (.inr (some r0)), l1, l2, l3, l4] [] (Z, Rf, K, n, z) Q = (n < 1000000 ∧ ((sm_k K n (2, 2)) r0).1 = 4 ∧ ((sm_k K n (2, 2)) r0).1 = 4 ∧ ((sm_r Rf n (fun _ => none)) r0 2).isSome = true ∧ ((sm_k K n (2, 2)) r0).1 = 4 ∧ sm_call d 206 [.inr (some (((sm_r Rf n (fun _ => none)) r0 2).getD 0)), .inl ((sm_r Z n (fun _ => 0)) r0 3)] (sm_r Z n (fun _ => 0), sm_r Rf n (fun _ => none), sm_k K n (2, 2), n + 1, z + 2) (sm_cont (d + 1) 30 81 [some (.inr (some r0)), l1, l2, l3, l4] [.inl ((sm_r Z n (fun _ => 0)) r0 7), .inr (some n), .inr (some n)] Q)) := (w_new t30_62 rfl (by decide) rfl).trans (congrArg (And _) ((w_dup t30_65 rfl).trans ((w_aload_n t30_66 rfl rfl).trans ((w_getI t30_67 rfl (by decide)).trans (congrArg (And _) ((w_aload_n t30_70 rfl rfl).trans ((w_getR t30_71 rfl (by decide)).trans (congrArg (And _) (congrArg (And _) ((w_aload_n t30_74 rfl rfl).trans ((w_getI t30_75 rfl (by decide)).trans (congrArg (And _) (w_callS t30_78 rfl rfl rfl rfl (Nat.le_of_ble_eq_true rfl) (Nat.le_of_ble_eq_true rfl) rfl)))))))))))))
set_option maxRecDepth 10000 in
theorem b30_81 {d : Nat} {l0 : Option sm_V} {l1 : Option sm_V} {l2 : Option sm_V} {l3 : Option sm_V} {l4 : Option sm_V} {qs0 : Option Nat} {rs1 : Nat} {s2 : Int} {qs3 : Option Nat} {Z : Nat → Nat → Int} {Rf : Nat → Nat → Option Nat} {K : Nat → Nat × Nat} {n z : Nat} {Q : Option sm_V → sm_S → Prop} : sm_wp (d + 1) 30 81 [l0, l1, l2, l3, l4] [.inr qs3, .inl s2, .inr (some rs1), .inr qs0] (Z, Rf, K, n, z) Q = ((K rs1).1 = 2 ∧ sm_call d 21 [.inr (some rs1), .inl s2, .inr qs3] (Z, Rf, K, n, z) (sm_cont (d + 1) 30 84 [l0, l1, l2, l3, l4] [.inr qs0] Q)) := w_callV t30_81 rfl rfl rfl rfl (Nat.le_of_ble_eq_true rfl) (Nat.le_of_ble_eq_true rfl) rfl (by decide)
set_option maxRecDepth 10000 in
theorem b30_84 {d : Nat} {l0 : Option sm_V} {l1 : Option sm_V} {l2 : Option sm_V} {l3 : Option sm_V} {l4 : Option sm_V} {qs0 : Option Nat} {Z : Nat → Nat → Int} {Rf : Nat → Nat → Option Nat} {K : Nat → Nat × Nat} {n z : Nat} {Q : Option sm_V → sm_S → Prop} : sm_wp d 30 84 [l0, l1, l2, l3, l4] [.inr qs0] (Z, Rf, K, n, z) Q = (Q (some (.inr qs0)) (Z, Rf, K, n, z)) := w_aret t30_84
set_option maxRecDepth 10000 in
theorem b30_85 {d : Nat} {r0 : Nat} {l1 : Option sm_V} {l2 : Option sm_V} {l3 : Option sm_V} {l4 : Option sm_V} {Z : Nat → Nat → Int} {Rf : Nat → Nat → Option Nat} {K : Nat → Nat × Nat} {n z : Nat} {Q : Option sm_V → sm_S → Prop} : sm_wp d 30 85 [some (.inr (some r0)), l1, l2, l3, l4] [] (Z, Rf, K, n, z) Q = ((K r0).1 = 4 ∧ sm_wp d 30 (sm_sel (wr (Z r0 6)) 194 [(0, 128), (1, 139), (2, 150), (3, 161), (4, 172), (5, 183)]) [some (.inr (some r0)), l1, l2, l3, l4] [] (Z, Rf, K, n, z) Q) := (w_aload_n t30_85 rfl rfl).trans ((w_getI t30_86 rfl (by decide)).trans (congrArg (And _) (w_tsw t30_89 rfl rfl rfl (by decide))))
set_option maxRecDepth 10000 in
theorem b30_128 {d : Nat} {r0 : Nat} {l1 : Option sm_V} {l2 : Option sm_V} {l3 : Option sm_V} {l4 : Option sm_V} {Z : Nat → Nat → Int} {Rf : Nat → Nat → Option Nat} {K : Nat → Nat × Nat} {n z : Nat} {Q : Option sm_V → sm_S → Prop} : sm_wp (d + 1) 30 128 [some (.inr (some r0)), l1, l2, l3, l4] [] (Z, Rf, K, n, z) Q = ((K r0).1 = 4 ∧ sm_call d 39 [.inr (some r0)] (Z, Rf, K, n, z) (sm_cont (d + 1) 30 133 [some (.inr (some r0)), l1, l2, l3, l4] [.inr (some r0)] Q)) := (w_aload_n t30_128 rfl rfl).trans ((w_aload_n t30_129 rfl rfl).trans (w_callV t30_130 rfl rfl rfl rfl (Nat.le_of_ble_eq_true rfl) (Nat.le_of_ble_eq_true rfl) rfl (by decide)))
set_option maxRecDepth 10000 in
theorem b30_133 {d : Nat} {l0 : Option sm_V} {l1 : Option sm_V} {l2 : Option sm_V} {l3 : Option sm_V} {l4 : Option sm_V} {rs0 : Nat} {s1 : Int} {Z : Nat → Nat → Int} {Rf : Nat → Nat → Option Nat} {K : Nat → Nat × Nat} {n z : Nat} {Q : Option sm_V → sm_S → Prop} : sm_wp d 30 133 [l0, l1, l2, l3, l4] [.inl s1, .inr (some rs0)] (Z, Rf, K, n, z) Q = ((K rs0).1 = 4 ∧ sm_wp d 30 202 [l0, l1, l2, l3, l4] [] (sm_u Z rs0 0 s1, Rf, K, n, z) Q) := (w_putI t30_133 rfl (by decide)).trans (congrArg (And _) (w_goto t30_136 rfl))
set_option maxRecDepth 10000 in
theorem b30_139 {d : Nat} {r0 : Nat} {l1 : Option sm_V} {l2 : Option sm_V} {l3 : Option sm_V} {l4 : Option sm_V} {Z : Nat → Nat → Int} {Rf : Nat → Nat → Option Nat} {K : Nat → Nat × Nat} {n z : Nat} {Q : Option sm_V → sm_S → Prop} : sm_wp (d + 1) 30 139 [some (.inr (some r0)), l1, l2, l3, l4] [] (Z, Rf, K, n, z) Q = ((K r0).1 = 4 ∧ sm_call d 40 [.inr (some r0)] (Z, Rf, K, n, z) (sm_cont (d + 1) 30 144 [some (.inr (some r0)), l1, l2, l3, l4] [.inr (some r0)] Q)) := (w_aload_n t30_139 rfl rfl).trans ((w_aload_n t30_140 rfl rfl).trans (w_callV t30_141 rfl rfl rfl rfl (Nat.le_of_ble_eq_true rfl) (Nat.le_of_ble_eq_true rfl) rfl (by decide)))
set_option maxRecDepth 10000 in
theorem b30_144 {d : Nat} {l0 : Option sm_V} {l1 : Option sm_V} {l2 : Option sm_V} {l3 : Option sm_V} {l4 : Option sm_V} {rs0 : Nat} {s1 : Int} {Z : Nat → Nat → Int} {Rf : Nat → Nat → Option Nat} {K : Nat → Nat × Nat} {n z : Nat} {Q : Option sm_V → sm_S → Prop} : sm_wp d 30 144 [l0, l1, l2, l3, l4] [.inl s1, .inr (some rs0)] (Z, Rf, K, n, z) Q = ((K rs0).1 = 4 ∧ sm_wp d 30 202 [l0, l1, l2, l3, l4] [] (sm_u Z rs0 0 s1, Rf, K, n, z) Q) := (w_putI t30_144 rfl (by decide)).trans (congrArg (And _) (w_goto t30_147 rfl))
set_option maxRecDepth 10000 in
theorem b30_150 {d : Nat} {r0 : Nat} {l1 : Option sm_V} {l2 : Option sm_V} {l3 : Option sm_V} {l4 : Option sm_V} {Z : Nat → Nat → Int} {Rf : Nat → Nat → Option Nat} {K : Nat → Nat × Nat} {n z : Nat} {Q : Option sm_V → sm_S → Prop} : sm_wp (d + 1) 30 150 [some (.inr (some r0)), l1, l2, l3, l4] [] (Z, Rf, K, n, z) Q = ((K r0).1 = 4 ∧ sm_call d 41 [.inr (some r0)] (Z, Rf, K, n, z) (sm_cont (d + 1) 30 155 [some (.inr (some r0)), l1, l2, l3, l4] [.inr (some r0)] Q)) := (w_aload_n t30_150 rfl rfl).trans ((w_aload_n t30_151 rfl rfl).trans (w_callV t30_152 rfl rfl rfl rfl (Nat.le_of_ble_eq_true rfl) (Nat.le_of_ble_eq_true rfl) rfl (by decide)))
set_option maxRecDepth 10000 in
theorem b30_155 {d : Nat} {l0 : Option sm_V} {l1 : Option sm_V} {l2 : Option sm_V} {l3 : Option sm_V} {l4 : Option sm_V} {rs0 : Nat} {s1 : Int} {Z : Nat → Nat → Int} {Rf : Nat → Nat → Option Nat} {K : Nat → Nat × Nat} {n z : Nat} {Q : Option sm_V → sm_S → Prop} : sm_wp d 30 155 [l0, l1, l2, l3, l4] [.inl s1, .inr (some rs0)] (Z, Rf, K, n, z) Q = ((K rs0).1 = 4 ∧ sm_wp d 30 202 [l0, l1, l2, l3, l4] [] (sm_u Z rs0 0 s1, Rf, K, n, z) Q) := (w_putI t30_155 rfl (by decide)).trans (congrArg (And _) (w_goto t30_158 rfl))
set_option maxRecDepth 10000 in
theorem b30_161 {d : Nat} {r0 : Nat} {l1 : Option sm_V} {l2 : Option sm_V} {l3 : Option sm_V} {l4 : Option sm_V} {Z : Nat → Nat → Int} {Rf : Nat → Nat → Option Nat} {K : Nat → Nat × Nat} {n z : Nat} {Q : Option sm_V → sm_S → Prop} : sm_wp (d + 1) 30 161 [some (.inr (some r0)), l1, l2, l3, l4] [] (Z, Rf, K, n, z) Q = ((K r0).1 = 4 ∧ sm_call d 42 [.inr (some r0)] (Z, Rf, K, n, z) (sm_cont (d + 1) 30 166 [some (.inr (some r0)), l1, l2, l3, l4] [.inr (some r0)] Q)) := (w_aload_n t30_161 rfl rfl).trans ((w_aload_n t30_162 rfl rfl).trans (w_callV t30_163 rfl rfl rfl rfl (Nat.le_of_ble_eq_true rfl) (Nat.le_of_ble_eq_true rfl) rfl (by decide)))
set_option maxRecDepth 10000 in
theorem b30_166 {d : Nat} {l0 : Option sm_V} {l1 : Option sm_V} {l2 : Option sm_V} {l3 : Option sm_V} {l4 : Option sm_V} {rs0 : Nat} {s1 : Int} {Z : Nat → Nat → Int} {Rf : Nat → Nat → Option Nat} {K : Nat → Nat × Nat} {n z : Nat} {Q : Option sm_V → sm_S → Prop} : sm_wp d 30 166 [l0, l1, l2, l3, l4] [.inl s1, .inr (some rs0)] (Z, Rf, K, n, z) Q = ((K rs0).1 = 4 ∧ sm_wp d 30 202 [l0, l1, l2, l3, l4] [] (sm_u Z rs0 0 s1, Rf, K, n, z) Q) := (w_putI t30_166 rfl (by decide)).trans (congrArg (And _) (w_goto t30_169 rfl))
set_option maxRecDepth 10000 in
theorem b30_172 {d : Nat} {r0 : Nat} {l1 : Option sm_V} {l2 : Option sm_V} {l3 : Option sm_V} {l4 : Option sm_V} {Z : Nat → Nat → Int} {Rf : Nat → Nat → Option Nat} {K : Nat → Nat × Nat} {n z : Nat} {Q : Option sm_V → sm_S → Prop} : sm_wp (d + 1) 30 172 [some (.inr (some r0)), l1, l2, l3, l4] [] (Z, Rf, K, n, z) Q = ((K r0).1 = 4 ∧ sm_call d 43 [.inr (some r0)] (Z, Rf, K, n, z) (sm_cont (d + 1) 30 177 [some (.inr (some r0)), l1, l2, l3, l4] [.inr (some r0)] Q)) := (w_aload_n t30_172 rfl rfl).trans ((w_aload_n t30_173 rfl rfl).trans (w_callV t30_174 rfl rfl rfl rfl (Nat.le_of_ble_eq_true rfl) (Nat.le_of_ble_eq_true rfl) rfl (by decide)))
set_option maxRecDepth 10000 in
theorem b30_177 {d : Nat} {l0 : Option sm_V} {l1 : Option sm_V} {l2 : Option sm_V} {l3 : Option sm_V} {l4 : Option sm_V} {rs0 : Nat} {s1 : Int} {Z : Nat → Nat → Int} {Rf : Nat → Nat → Option Nat} {K : Nat → Nat × Nat} {n z : Nat} {Q : Option sm_V → sm_S → Prop} : sm_wp d 30 177 [l0, l1, l2, l3, l4] [.inl s1, .inr (some rs0)] (Z, Rf, K, n, z) Q = ((K rs0).1 = 4 ∧ sm_wp d 30 202 [l0, l1, l2, l3, l4] [] (sm_u Z rs0 0 s1, Rf, K, n, z) Q) := (w_putI t30_177 rfl (by decide)).trans (congrArg (And _) (w_goto t30_180 rfl))
set_option maxRecDepth 10000 in
theorem b30_183 {d : Nat} {r0 : Nat} {l1 : Option sm_V} {l2 : Option sm_V} {l3 : Option sm_V} {l4 : Option sm_V} {Z : Nat → Nat → Int} {Rf : Nat → Nat → Option Nat} {K : Nat → Nat × Nat} {n z : Nat} {Q : Option sm_V → sm_S → Prop} : sm_wp (d + 1) 30 183 [some (.inr (some r0)), l1, l2, l3, l4] [] (Z, Rf, K, n, z) Q = ((K r0).1 = 4 ∧ sm_call d 44 [.inr (some r0)] (Z, Rf, K, n, z) (sm_cont (d + 1) 30 188 [some (.inr (some r0)), l1, l2, l3, l4] [.inr (some r0)] Q)) := (w_aload_n t30_183 rfl rfl).trans ((w_aload_n t30_184 rfl rfl).trans (w_callV t30_185 rfl rfl rfl rfl (Nat.le_of_ble_eq_true rfl) (Nat.le_of_ble_eq_true rfl) rfl (by decide)))
set_option maxRecDepth 10000 in
theorem b30_188 {d : Nat} {l0 : Option sm_V} {l1 : Option sm_V} {l2 : Option sm_V} {l3 : Option sm_V} {l4 : Option sm_V} {rs0 : Nat} {s1 : Int} {Z : Nat → Nat → Int} {Rf : Nat → Nat → Option Nat} {K : Nat → Nat × Nat} {n z : Nat} {Q : Option sm_V → sm_S → Prop} : sm_wp d 30 188 [l0, l1, l2, l3, l4] [.inl s1, .inr (some rs0)] (Z, Rf, K, n, z) Q = ((K rs0).1 = 4 ∧ sm_wp d 30 202 [l0, l1, l2, l3, l4] [] (sm_u Z rs0 0 s1, Rf, K, n, z) Q) := (w_putI t30_188 rfl (by decide)).trans (congrArg (And _) (w_goto t30_191 rfl))
set_option maxRecDepth 10000 in
theorem b30_194 {d : Nat} {r0 : Nat} {l1 : Option sm_V} {l2 : Option sm_V} {l3 : Option sm_V} {l4 : Option sm_V} {Z : Nat → Nat → Int} {Rf : Nat → Nat → Option Nat} {K : Nat → Nat × Nat} {n z : Nat} {Q : Option sm_V → sm_S → Prop} : sm_wp (d + 1) 30 194 [some (.inr (some r0)), l1, l2, l3, l4] [] (Z, Rf, K, n, z) Q = ((K r0).1 = 4 ∧ sm_call d 46 [.inr (some r0)] (Z, Rf, K, n, z) (sm_cont (d + 1) 30 199 [some (.inr (some r0)), l1, l2, l3, l4] [.inr (some r0)] Q)) := (w_aload_n t30_194 rfl rfl).trans ((w_aload_n t30_195 rfl rfl).trans (w_callV t30_196 rfl rfl rfl rfl (Nat.le_of_ble_eq_true rfl) (Nat.le_of_ble_eq_true rfl) rfl (by decide)))
set_option maxRecDepth 10000 in
theorem b30_199 {d : Nat} {l0 : Option sm_V} {l1 : Option sm_V} {l2 : Option sm_V} {l3 : Option sm_V} {l4 : Option sm_V} {rs0 : Nat} {s1 : Int} {Z : Nat → Nat → Int} {Rf : Nat → Nat → Option Nat} {K : Nat → Nat × Nat} {n z : Nat} {Q : Option sm_V → sm_S → Prop} : sm_wp d 30 199 [l0, l1, l2, l3, l4] [.inl s1, .inr (some rs0)] (Z, Rf, K, n, z) Q = ((K rs0).1 = 4 ∧ sm_wp d 30 202 [l0, l1, l2, l3, l4] [] (sm_u Z rs0 0 s1, Rf, K, n, z) Q) := (w_putI t30_199 rfl (by decide)).trans (congrArg (And _) rfl)
set_option maxRecDepth 10000 in
theorem b30_202 {d : Nat} {l0 : Option sm_V} {l1 : Option sm_V} {l2 : Option sm_V} {l3 : Option sm_V} {x4 : Int} {Z : Nat → Nat → Int} {Rf : Nat → Nat → Option Nat} {K : Nat → Nat × Nat} {n z : Nat} {Q : Option sm_V → sm_S → Prop} : sm_wp d 30 202 [l0, l1, l2, l3, some (.inl x4)] [] (Z, Rf, K, n, z) Q = (sm_wp d 30 14 [l0, l1, l2, l3, some (.inl (x4 + 1))] [] (Z, Rf, K, n, z) Q) := (w_iinc t30_202 rfl rfl (Nat.le_of_ble_eq_true rfl) rfl).trans (w_goto t30_205 rfl)
set_option maxRecDepth 10000 in
theorem b30_208 {d : Nat} {l0 : Option sm_V} {l1 : Option sm_V} {l2 : Option sm_V} {l3 : Option sm_V} {l4 : Option sm_V} {Z : Nat → Nat → Int} {Rf : Nat → Nat → Option Nat} {K : Nat → Nat × Nat} {n z : Nat} {Q : Option sm_V → sm_S → Prop} : sm_wp d 30 208 [l0, l1, l2, l3, l4] [] (Z, Rf, K, n, z) Q = (Q (some (.inr none)) (Z, Rf, K, n, z)) := (w_null t30_208 rfl).trans (w_aret t30_209)
theorem t31_0 : sm_at 31 0 = some (1, .aload_n 0, 0, 0, 0) := rfl
theorem t31_1 : sm_at 31 1 = some (1, .iconst 0, 0, 0, 0) := rfl
theorem t31_2 : sm_at 31 2 = some (3, .putfield 55, 4, 3, 0) := rfl
theorem t31_5 : sm_at 31 5 = some (1, .aload_n 0, 0, 0, 0) := rfl
theorem t31_6 : sm_at 31 6 = some (1, .iconst 0, 0, 0, 0) := rfl
theorem t31_7 : sm_at 31 7 = some (3, .putfield 89, 4, 5, 0) := rfl
theorem t31_10 : sm_at 31 10 = some (1, .aload_n 0, 0, 0, 0) := rfl
theorem t31_11 : sm_at 31 11 = some (1, .iconst 0, 0, 0, 0) := rfl
theorem t31_12 : sm_at 31 12 = some (3, .putfield 47, 4, 6, 0) := rfl
theorem t31_15 : sm_at 31 15 = some (1, .aload_n 0, 0, 0, 0) := rfl
theorem t31_16 : sm_at 31 16 = some (1, .iconst 0, 0, 0, 0) := rfl
theorem t31_17 : sm_at 31 17 = some (3, .putfield 52, 4, 7, 0) := rfl
theorem t31_20 : sm_at 31 20 = some (1, .aload_n 0, 0, 0, 0) := rfl
theorem t31_21 : sm_at 31 21 = some (1, .iconst 0, 0, 0, 0) := rfl
theorem t31_22 : sm_at 31 22 = some (3, .putfield 92, 4, 9, 0) := rfl
theorem t31_25 : sm_at 31 25 = some (1, .aload_n 0, 0, 0, 0) := rfl
theorem t31_26 : sm_at 31 26 = some (1, .iconst 0, 0, 0, 0) := rfl
theorem t31_27 : sm_at 31 27 = some (3, .putfield 95, 4, 10, 0) := rfl
theorem t31_30 : sm_at 31 30 = some (1, .aload_n 0, 0, 0, 0) := rfl
theorem t31_31 : sm_at 31 31 = some (1, .iconst 0, 0, 0, 0) := rfl
theorem t31_32 : sm_at 31 32 = some (3, .putfield 35, 4, 14, 0) := rfl
theorem t31_35 : sm_at 31 35 = some (1, .aload_n 0, 0, 0, 0) := rfl
theorem t31_36 : sm_at 31 36 = some (1, .iconst 0, 0, 0, 0) := rfl
theorem t31_37 : sm_at 31 37 = some (3, .putfield 27, 4, 0, 0) := rfl
theorem t31_40 : sm_at 31 40 = some (1, .return_, 0, 0, 0) := rfl
set_option maxRecDepth 10000 in
theorem b31_0 {d : Nat} {r0 : Nat} {Z : Nat → Nat → Int} {Rf : Nat → Nat → Option Nat} {K : Nat → Nat × Nat} {n z : Nat} {Q : Option sm_V → sm_S → Prop} : sm_wp d 31 0 [some (.inr (some r0))] [] (Z, Rf, K, n, z) Q = ((K r0).1 = 4 ∧ (K r0).1 = 4 ∧ (K r0).1 = 4 ∧ (K r0).1 = 4 ∧ (K r0).1 = 4 ∧ (K r0).1 = 4 ∧ (K r0).1 = 4 ∧ (K r0).1 = 4 ∧ Q none (sm_u (sm_u (sm_u (sm_u (sm_u (sm_u (sm_u (sm_u Z r0 3 0) r0 5 0) r0 6 0) r0 7 0) r0 9 0) r0 10 0) r0 14 0) r0 0 0, Rf, K, n, z)) := (w_aload_n t31_0 rfl rfl).trans ((w_iconst t31_1 rfl).trans ((w_putI t31_2 rfl (by decide)).trans (congrArg (And _) ((w_aload_n t31_5 rfl rfl).trans ((w_iconst t31_6 rfl).trans ((w_putI t31_7 rfl (by decide)).trans (congrArg (And _) ((w_aload_n t31_10 rfl rfl).trans ((w_iconst t31_11 rfl).trans ((w_putI t31_12 rfl (by decide)).trans (congrArg (And _) ((w_aload_n t31_15 rfl rfl).trans ((w_iconst t31_16 rfl).trans ((w_putI t31_17 rfl (by decide)).trans (congrArg (And _) ((w_aload_n t31_20 rfl rfl).trans ((w_iconst t31_21 rfl).trans ((w_putI t31_22 rfl (by decide)).trans (congrArg (And _) ((w_aload_n t31_25 rfl rfl).trans ((w_iconst t31_26 rfl).trans ((w_putI t31_27 rfl (by decide)).trans (congrArg (And _) ((w_aload_n t31_30 rfl rfl).trans ((w_iconst t31_31 rfl).trans ((w_putI t31_32 rfl (by decide)).trans (congrArg (And _) ((w_aload_n t31_35 rfl rfl).trans ((w_iconst t31_36 rfl).trans ((w_putI t31_37 rfl (by decide)).trans (congrArg (And _) (w_vret t31_40))))))))))))))))))))))))))))))))
theorem t32_0 : sm_at 32 0 = some (1, .aload_n 0, 0, 0, 0) := rfl
theorem t32_1 : sm_at 32 1 = some (3, .getfield 35, 4, 14, 0) := rfl
theorem t32_4 : sm_at 32 4 = some (1, .iload_n 2, 0, 0, 0) := rfl
theorem t32_5 : sm_at 32 5 = some (3, .if_icmp .ge 38, 0, 0, 0) := rfl
theorem t32_8 : sm_at 32 8 = some (1, .aload_n 1, 0, 0, 0) := rfl
theorem t32_9 : sm_at 32 9 = some (1, .aload_n 0, 0, 0, 0) := rfl
theorem t32_10 : sm_at 32 10 = some (3, .getfield 35, 4, 14, 0) := rfl
theorem t32_13 : sm_at 32 13 = some (1, .iaload, 0, 0, 0) := rfl
theorem t32_14 : sm_at 32 14 = some (2, .bipush 32, 0, 0, 0) := rfl
theorem t32_16 : sm_at 32 16 = some (3, .if_icmp .eq 14, 0, 0, 0) := rfl
theorem t32_19 : sm_at 32 19 = some (1, .aload_n 1, 0, 0, 0) := rfl
theorem t32_20 : sm_at 32 20 = some (1, .aload_n 0, 0, 0, 0) := rfl
theorem t32_21 : sm_at 32 21 = some (3, .getfield 35, 4, 14, 0) := rfl
theorem t32_24 : sm_at 32 24 = some (1, .iaload, 0, 0, 0) := rfl
theorem t32_25 : sm_at 32 25 = some (2, .bipush 10, 0, 0, 0) := rfl
theorem t32_27 : sm_at 32 27 = some (3, .if_icmp .ne 16, 0, 0, 0) := rfl
theorem t32_30 : sm_at 32 30 = some (1, .aload_n 0, 0, 0, 0) := rfl
theorem t32_31 : sm_at 32 31 = some (1, .dup, 0, 0, 0) := rfl
theorem t32_32 : sm_at 32 32 = some (3, .getfield 35, 4, 14, 0) := rfl
theorem t32_35 : sm_at 32 35 = some (1, .iconst 1, 0, 0, 0) := rfl
theorem t32_36 : sm_at 32 36 = some (1, .iadd, 0, 0, 0) := rfl
theorem t32_37 : sm_at 32 37 = some (3, .putfield 35, 4, 14, 0) := rfl
theorem t32_40 : sm_at 32 40 = some (3, .goto (-40), 0, 0, 0) := rfl
theorem t32_43 : sm_at 32 43 = some (1, .return_, 0, 0, 0) := rfl
set_option maxRecDepth 10000 in
theorem b32_0 {d : Nat} {r0 : Nat} {l1 : Option sm_V} {x2 : Int} {Z : Nat → Nat → Int} {Rf : Nat → Nat → Option Nat} {K : Nat → Nat × Nat} {n z : Nat} {Q : Option sm_V → sm_S → Prop} : sm_wp d 32 0 [some (.inr (some r0)), l1, some (.inl x2)] [] (Z, Rf, K, n, z) Q = ((K r0).1 = 4 ∧ (if wr x2 ≤ wr (Z r0 14) then sm_wp d 32 43 [some (.inr (some r0)), l1, some (.inl x2)] [] (Z, Rf, K, n, z) Q else sm_wp d 32 8 [some (.inr (some r0)), l1, some (.inl x2)] [] (Z, Rf, K, n, z) Q)) := (w_aload_n t32_0 rfl rfl).trans ((w_getI t32_1 rfl (by decide)).trans (congrArg (And _) ((w_iload_n t32_4 rfl rfl).trans (w_icge t32_5 rfl rfl rfl rfl))))
set_option maxRecDepth 10000 in
theorem b32_8 {d : Nat} {r0 : Nat} {r1 : Nat} {l2 : Option sm_V} {Z : Nat → Nat → Int} {Rf : Nat → Nat → Option Nat} {K : Nat → Nat × Nat} {n z : Nat} {Q : Option sm_V → sm_S → Prop} : sm_wp d 32 8 [some (.inr (some r0)), some (.inr (some r1)), l2] [] (Z, Rf, K, n, z) Q = ((K r0).1 = 4 ∧ sm_rd (K r1) (wr (Z r0 14)) ∧ (if wr (Z r1 ((wr (Z r0 14)).toNat)) = (32 : Int) then sm_wp d 32 30 [some (.inr (some r0)), some (.inr (some r1)), l2] [] (Z, Rf, K, n, z) Q else sm_wp d 32 19 [some (.inr (some r0)), some (.inr (some r1)), l2] [] (Z, Rf, K, n, z) Q)) := (w_aload_n t32_8 rfl rfl).trans ((w_aload_n t32_9 rfl rfl).trans ((w_getI t32_10 rfl (by decide)).trans (congrArg (And _) ((w_iald t32_13 rfl rfl).trans (congrArg (And _) ((w_bipush t32_14 rfl).trans (w_iceq t32_16 rfl wl_32 rfl rfl)))))))
set_option maxRecDepth 10000 in
theorem b32_19 {d : Nat} {r0 : Nat} {r1 : Nat} {l2 : Option sm_V} {Z : Nat → Nat → Int} {Rf : Nat → Nat → Option Nat} {K : Nat → Nat × Nat} {n z : Nat} {Q : Option sm_V → sm_S → Prop} : sm_wp d 32 19 [some (.inr (some r0)), some (.inr (some r1)), l2] [] (Z, Rf, K, n, z) Q = ((K r0).1 = 4 ∧ sm_rd (K r1) (wr (Z r0 14)) ∧ (if wr (Z r1 ((wr (Z r0 14)).toNat)) = (10 : Int) then sm_wp d 32 30 [some (.inr (some r0)), some (.inr (some r1)), l2] [] (Z, Rf, K, n, z) Q else sm_wp d 32 43 [some (.inr (some r0)), some (.inr (some r1)), l2] [] (Z, Rf, K, n, z) Q)) := (w_aload_n t32_19 rfl rfl).trans ((w_aload_n t32_20 rfl rfl).trans ((w_getI t32_21 rfl (by decide)).trans (congrArg (And _) ((w_iald t32_24 rfl rfl).trans (congrArg (And _) ((w_bipush t32_25 rfl).trans (w_icne t32_27 rfl wl_10 rfl rfl)))))))
set_option maxRecDepth 10000 in
theorem b32_30 {d : Nat} {r0 : Nat} {l1 : Option sm_V} {l2 : Option sm_V} {Z : Nat → Nat → Int} {Rf : Nat → Nat → Option Nat} {K : Nat → Nat × Nat} {n z : Nat} {Q : Option sm_V → sm_S → Prop} : sm_wp d 32 30 [some (.inr (some r0)), l1, l2] [] (Z, Rf, K, n, z) Q = ((K r0).1 = 4 ∧ (K r0).1 = 4 ∧ sm_wp d 32 0 [some (.inr (some r0)), l1, l2] [] (sm_u Z r0 14 ((Z r0 14) + 1), Rf, K, n, z) Q) := (w_aload_n t32_30 rfl rfl).trans ((w_dup t32_31 rfl).trans ((w_getI t32_32 rfl (by decide)).trans (congrArg (And _) ((w_iconst t32_35 rfl).trans ((w_iadd t32_36 rfl).trans ((w_putI t32_37 rfl (by decide)).trans (congrArg (And _) (w_goto t32_40 rfl))))))))
set_option maxRecDepth 10000 in
theorem b32_43 {d : Nat} {l0 : Option sm_V} {l1 : Option sm_V} {l2 : Option sm_V} {Z : Nat → Nat → Int} {Rf : Nat → Nat → Option Nat} {K : Nat → Nat × Nat} {n z : Nat} {Q : Option sm_V → sm_S → Prop} : sm_wp d 32 43 [l0, l1, l2] [] (Z, Rf, K, n, z) Q = (Q none (Z, Rf, K, n, z)) := w_vret t32_43
theorem t33_0 : sm_at 33 0 = some (1, .aload_n 0, 0, 0, 0) := rfl
theorem t33_1 : sm_at 33 1 = some (3, .getfield 35, 4, 14, 0) := rfl
theorem t33_4 : sm_at 33 4 = some (1, .istore_n 3, 0, 0, 0) := rfl
theorem t33_5 : sm_at 33 5 = some (1, .iload_n 3, 0, 0, 0) := rfl
theorem t33_6 : sm_at 33 6 = some (1, .iload_n 2, 0, 0, 0) := rfl
theorem t33_7 : sm_at 33 7 = some (3, .if_icmp .lt 11, 0, 0, 0) := rfl
theorem t33_10 : sm_at 33 10 = some (1, .aload_n 0, 0, 0, 0) := rfl
theorem t33_11 : sm_at 33 11 = some (1, .iconst 1, 0, 0, 0) := rfl
theorem t33_12 : sm_at 33 12 = some (3, .putfield 44, 4, 12, 0) := rfl
theorem t33_15 : sm_at 33 15 = some (3, .goto 200, 0, 0, 0) := rfl
theorem t33_18 : sm_at 33 18 = some (1, .aload_n 1, 0, 0, 0) := rfl
theorem t33_19 : sm_at 33 19 = some (1, .iload_n 3, 0, 0, 0) := rfl
theorem t33_20 : sm_at 33 20 = some (1, .iaload, 0, 0, 0) := rfl
theorem t33_21 : sm_at 33 21 = some (3, .invokestatic 98, 34, 1, 0) := rfl
theorem t33_24 : sm_at 33 24 = some (3, .ifCond .eq 71, 0, 0, 0) := rfl
theorem t33_27 : sm_at 33 27 = some (1, .aload_n 0, 0, 0, 0) := rfl
theorem t33_28 : sm_at 33 28 = some (3, .getfield 35, 4, 14, 0) := rfl
theorem t33_31 : sm_at 33 31 = some (1, .iload_n 2, 0, 0, 0) := rfl
theorem t33_32 : sm_at 33 32 = some (3, .if_icmp .ge 28, 0, 0, 0) := rfl
theorem t33_35 : sm_at 33 35 = some (1, .aload_n 1, 0, 0, 0) := rfl
theorem t33_36 : sm_at 33 36 = some (1, .aload_n 0, 0, 0, 0) := rfl
theorem t33_37 : sm_at 33 37 = some (3, .getfield 35, 4, 14, 0) := rfl
theorem t33_40 : sm_at 33 40 = some (1, .iaload, 0, 0, 0) := rfl
theorem t33_41 : sm_at 33 41 = some (3, .invokestatic 98, 34, 1, 0) := rfl
theorem t33_44 : sm_at 33 44 = some (3, .ifCond .eq 16, 0, 0, 0) := rfl
theorem t33_47 : sm_at 33 47 = some (1, .aload_n 0, 0, 0, 0) := rfl
theorem t33_48 : sm_at 33 48 = some (1, .dup, 0, 0, 0) := rfl
theorem t33_49 : sm_at 33 49 = some (3, .getfield 35, 4, 14, 0) := rfl
theorem t33_52 : sm_at 33 52 = some (1, .iconst 1, 0, 0, 0) := rfl
theorem t33_53 : sm_at 33 53 = some (1, .iadd, 0, 0, 0) := rfl
theorem t33_54 : sm_at 33 54 = some (3, .putfield 35, 4, 14, 0) := rfl
theorem t33_57 : sm_at 33 57 = some (3, .goto (-30), 0, 0, 0) := rfl
theorem t33_60 : sm_at 33 60 = some (1, .aload_n 0, 0, 0, 0) := rfl
theorem t33_61 : sm_at 33 61 = some (1, .aload_n 1, 0, 0, 0) := rfl
theorem t33_62 : sm_at 33 62 = some (1, .iload_n 3, 0, 0, 0) := rfl
theorem t33_63 : sm_at 33 63 = some (1, .aload_n 0, 0, 0, 0) := rfl
theorem t33_64 : sm_at 33 64 = some (3, .getfield 35, 4, 14, 0) := rfl
theorem t33_67 : sm_at 33 67 = some (1, .iload_n 3, 0, 0, 0) := rfl
theorem t33_68 : sm_at 33 68 = some (1, .isub, 0, 0, 0) := rfl
theorem t33_69 : sm_at 33 69 = some (3, .invokestatic 102, 37, 3, 0) := rfl
theorem t33_72 : sm_at 33 72 = some (3, .putfield 106, 4, 13, 0) := rfl
theorem t33_75 : sm_at 33 75 = some (1, .aload_n 0, 0, 0, 0) := rfl
theorem t33_76 : sm_at 33 76 = some (1, .aload_n 0, 0, 0, 0) := rfl
theorem t33_77 : sm_at 33 77 = some (3, .getfield 106, 4, 13, 0) := rfl
theorem t33_80 : sm_at 33 80 = some (1, .iconst (-1), 0, 0, 0) := rfl
theorem t33_81 : sm_at 33 81 = some (3, .if_icmp .ne 7, 0, 0, 0) := rfl
theorem t33_84 : sm_at 33 84 = some (1, .iconst 0, 0, 0, 0) := rfl
theorem t33_85 : sm_at 33 85 = some (3, .goto 4, 0, 0, 0) := rfl
theorem t33_88 : sm_at 33 88 = some (1, .iconst 3, 0, 0, 0) := rfl
theorem t33_89 : sm_at 33 89 = some (3, .putfield 44, 4, 12, 0) := rfl
theorem t33_92 : sm_at 33 92 = some (3, .goto 123, 0, 0, 0) := rfl
theorem t33_95 : sm_at 33 95 = some (1, .aload_n 1, 0, 0, 0) := rfl
theorem t33_96 : sm_at 33 96 = some (1, .iload_n 3, 0, 0, 0) := rfl
theorem t33_97 : sm_at 33 97 = some (1, .iaload, 0, 0, 0) := rfl
theorem t33_98 : sm_at 33 98 = some (3, .invokestatic 109, 35, 1, 0) := rfl
theorem t33_101 : sm_at 33 101 = some (3, .ifCond .eq 84, 0, 0, 0) := rfl
theorem t33_104 : sm_at 33 104 = some (1, .aload_n 0, 0, 0, 0) := rfl
theorem t33_105 : sm_at 33 105 = some (1, .iconst 0, 0, 0, 0) := rfl
theorem t33_106 : sm_at 33 106 = some (3, .putfield 106, 4, 13, 0) := rfl
theorem t33_109 : sm_at 33 109 = some (1, .aload_n 0, 0, 0, 0) := rfl
set_option maxRecDepth 100000 in
theorem t33_110 : sm_at 33 110 = some (3, .getfield 35, 4, 14, 0) := rfl
set_option maxRecDepth 100000 in
theorem t33_113 : sm_at 33 113 = some (1, .iload_n 2, 0, 0, 0) := rfl
set_option maxRecDepth 100000 in
theorem t33_114 : sm_at 33 114 = some (3, .if_icmp .ge 49, 0, 0, 0) := rfl
set_option maxRecDepth 100000 in
theorem t33_117 : sm_at 33 117 = some (1, .aload_n 1, 0, 0, 0) := rfl
set_option maxRecDepth 100000 in
theorem t33_118 : sm_at 33 118 = some (1, .aload_n 0, 0, 0, 0) := rfl
set_option maxRecDepth 100000 in
theorem t33_119 : sm_at 33 119 = some (3, .getfield 35, 4, 14, 0) := rfl
set_option maxRecDepth 100000 in
theorem t33_122 : sm_at 33 122 = some (1, .iaload, 0, 0, 0) := rfl
set_option maxRecDepth 100000 in
theorem t33_123 : sm_at 33 123 = some (3, .invokestatic 109, 35, 1, 0) := rfl
set_option maxRecDepth 100000 in
theorem t33_126 : sm_at 33 126 = some (3, .ifCond .eq 37, 0, 0, 0) := rfl
set_option maxRecDepth 100000 in
theorem t33_129 : sm_at 33 129 = some (1, .aload_n 0, 0, 0, 0) := rfl
set_option maxRecDepth 100000 in
theorem t33_130 : sm_at 33 130 = some (1, .aload_n 0, 0, 0, 0) := rfl
set_option maxRecDepth 100000 in
theorem t33_131 : sm_at 33 131 = some (3, .getfield 106, 4, 13, 0) := rfl
set_option maxRecDepth 100000 in
theorem t33_134 : sm_at 33 134 = some (2, .bipush 10, 0, 0, 0) := rfl
set_option maxRecDepth 100000 in
theorem t33_136 : sm_at 33 136 = some (1, .imul, 0, 0, 0) := rfl
set_option maxRecDepth 100000 in
theorem t33_137 : sm_at 33 137 = some (1, .aload_n 1, 0, 0, 0) := rfl
set_option maxRecDepth 100000 in
theorem t33_138 : sm_at 33 138 = some (1, .aload_n 0, 0, 0, 0) := rfl
set_option maxRecDepth 100000 in
theorem t33_139 : sm_at 33 139 = some (3, .getfield 35, 4, 14, 0) := rfl
set_option maxRecDepth 100000 in
theorem t33_142 : sm_at 33 142 = some (1, .iaload, 0, 0, 0) := rfl
set_option maxRecDepth 100000 in
theorem t33_143 : sm_at 33 143 = some (1, .iadd, 0, 0, 0) := rfl
set_option maxRecDepth 100000 in
theorem t33_144 : sm_at 33 144 = some (2, .bipush 48, 0, 0, 0) := rfl
set_option maxRecDepth 100000 in
theorem t33_146 : sm_at 33 146 = some (1, .isub, 0, 0, 0) := rfl
set_option maxRecDepth 100000 in
theorem t33_147 : sm_at 33 147 = some (3, .putfield 106, 4, 13, 0) := rfl
set_option maxRecDepth 100000 in
theorem t33_150 : sm_at 33 150 = some (1, .aload_n 0, 0, 0, 0) := rfl
set_option maxRecDepth 100000 in
theorem t33_151 : sm_at 33 151 = some (1, .dup, 0, 0, 0) := rfl
set_option maxRecDepth 100000 in
theorem t33_152 : sm_at 33 152 = some (3, .getfield 35, 4, 14, 0) := rfl
set_option maxRecDepth 100000 in
theorem t33_155 : sm_at 33 155 = some (1, .iconst 1, 0, 0, 0) := rfl
set_option maxRecDepth 100000 in
theorem t33_156 : sm_at 33 156 = some (1, .iadd, 0, 0, 0) := rfl
set_option maxRecDepth 100000 in
theorem t33_157 : sm_at 33 157 = some (3, .putfield 35, 4, 14, 0) := rfl
set_option maxRecDepth 100000 in
theorem t33_160 : sm_at 33 160 = some (3, .goto (-51), 0, 0, 0) := rfl
set_option maxRecDepth 100000 in
theorem t33_163 : sm_at 33 163 = some (1, .aload_n 0, 0, 0, 0) := rfl
set_option maxRecDepth 100000 in
theorem t33_164 : sm_at 33 164 = some (1, .aload_n 0, 0, 0, 0) := rfl
set_option maxRecDepth 100000 in
theorem t33_165 : sm_at 33 165 = some (3, .getfield 35, 4, 14, 0) := rfl
set_option maxRecDepth 100000 in
theorem t33_168 : sm_at 33 168 = some (1, .iload_n 3, 0, 0, 0) := rfl
set_option maxRecDepth 100000 in
theorem t33_169 : sm_at 33 169 = some (1, .isub, 0, 0, 0) := rfl
set_option maxRecDepth 100000 in
theorem t33_170 : sm_at 33 170 = some (1, .iconst 4, 0, 0, 0) := rfl
set_option maxRecDepth 100000 in
theorem t33_171 : sm_at 33 171 = some (3, .if_icmp .le 7, 0, 0, 0) := rfl
set_option maxRecDepth 100000 in
theorem t33_174 : sm_at 33 174 = some (1, .iconst 0, 0, 0, 0) := rfl
set_option maxRecDepth 100000 in
theorem t33_175 : sm_at 33 175 = some (3, .goto 4, 0, 0, 0) := rfl
set_option maxRecDepth 100000 in
theorem t33_178 : sm_at 33 178 = some (1, .iconst 2, 0, 0, 0) := rfl
set_option maxRecDepth 100000 in
theorem t33_179 : sm_at 33 179 = some (3, .putfield 44, 4, 12, 0) := rfl
set_option maxRecDepth 100000 in
theorem t33_182 : sm_at 33 182 = some (3, .goto 33, 0, 0, 0) := rfl
set_option maxRecDepth 100000 in
theorem t33_185 : sm_at 33 185 = some (1, .aload_n 0, 0, 0, 0) := rfl
set_option maxRecDepth 100000 in
theorem t33_186 : sm_at 33 186 = some (1, .aload_n 1, 0, 0, 0) := rfl
set_option maxRecDepth 100000 in
theorem t33_187 : sm_at 33 187 = some (1, .iload_n 3, 0, 0, 0) := rfl
set_option maxRecDepth 100000 in
theorem t33_188 : sm_at 33 188 = some (1, .iaload, 0, 0, 0) := rfl
set_option maxRecDepth 100000 in
theorem t33_189 : sm_at 33 189 = some (3, .invokestatic 112, 36, 1, 0) := rfl
set_option maxRecDepth 100000 in
theorem t33_192 : sm_at 33 192 = some (3, .ifCond .eq 9, 0, 0, 0) := rfl
set_option maxRecDepth 100000 in
theorem t33_195 : sm_at 33 195 = some (1, .aload_n 1, 0, 0, 0) := rfl
set_option maxRecDepth 100000 in
theorem t33_196 : sm_at 33 196 = some (1, .iload_n 3, 0, 0, 0) := rfl
set_option maxRecDepth 100000 in
theorem t33_197 : sm_at 33 197 = some (1, .iaload, 0, 0, 0) := rfl
set_option maxRecDepth 100000 in
theorem t33_198 : sm_at 33 198 = some (3, .goto 4, 0, 0, 0) := rfl
set_option maxRecDepth 100000 in
theorem t33_201 : sm_at 33 201 = some (1, .iconst 0, 0, 0, 0) := rfl
set_option maxRecDepth 100000 in
theorem t33_202 : sm_at 33 202 = some (3, .putfield 44, 4, 12, 0) := rfl
set_option maxRecDepth 100000 in
theorem t33_205 : sm_at 33 205 = some (1, .aload_n 0, 0, 0, 0) := rfl
set_option maxRecDepth 100000 in
theorem t33_206 : sm_at 33 206 = some (1, .dup, 0, 0, 0) := rfl
set_option maxRecDepth 100000 in
theorem t33_207 : sm_at 33 207 = some (3, .getfield 35, 4, 14, 0) := rfl
set_option maxRecDepth 100000 in
theorem t33_210 : sm_at 33 210 = some (1, .iconst 1, 0, 0, 0) := rfl
set_option maxRecDepth 100000 in
theorem t33_211 : sm_at 33 211 = some (1, .iadd, 0, 0, 0) := rfl
set_option maxRecDepth 100000 in
theorem t33_212 : sm_at 33 212 = some (3, .putfield 35, 4, 14, 0) := rfl
set_option maxRecDepth 100000 in
theorem t33_215 : sm_at 33 215 = some (1, .return_, 0, 0, 0) := rfl
set_option maxRecDepth 10000 in
theorem b33_0 {d : Nat} {r0 : Nat} {l1 : Option sm_V} {x2 : Int} {l3 : Option sm_V} {Z : Nat → Nat → Int} {Rf : Nat → Nat → Option Nat} {K : Nat → Nat × Nat} {n z : Nat} {Q : Option sm_V → sm_S → Prop} : sm_wp d 33 0 [some (.inr (some r0)), l1, some (.inl x2), l3] [] (Z, Rf, K, n, z) Q = ((K r0).1 = 4 ∧ (if wr (Z r0 14) < wr x2 then sm_wp d 33 18 [some (.inr (some r0)), l1, some (.inl x2), some (.inl (Z r0 14))] [] (Z, Rf, K, n, z) Q else sm_wp d 33 10 [some (.inr (some r0)), l1, some (.inl x2), some (.inl (Z r0 14))] [] (Z, Rf, K, n, z) Q)) := (w_aload_n t33_0 rfl rfl).trans ((w_getI t33_1 rfl (by decide)).trans (congrArg (And _) ((w_istore_n t33_4 rfl (Nat.le_of_ble_eq_true rfl) rfl).trans ((w_iload_n t33_5 rfl rfl).trans ((w_iload_n t33_6 rfl rfl).trans (w_iclt t33_7 rfl rfl rfl rfl))))))
set_option maxRecDepth 10000 in
theorem b33_10 {d : Nat} {r0 : Nat} {l1 : Option sm_V} {l2 : Option sm_V} {l3 : Option sm_V} {Z : Nat → Nat → Int} {Rf : Nat → Nat → Option Nat} {K : Nat → Nat × Nat} {n z : Nat} {Q : Option sm_V → sm_S → Prop} : sm_wp d 33 10 [some (.inr (some r0)), l1, l2, l3] [] (Z, Rf, K, n, z) Q = ((K r0).1 = 4 ∧ sm_wp d 33 215 [some (.inr (some r0)), l1, l2, l3] [] (sm_u Z r0 12 1, Rf, K, n, z) Q) := (w_aload_n t33_10 rfl rfl).trans ((w_iconst t33_11 rfl).trans ((w_putI t33_12 rfl (by decide)).trans (congrArg (And _) (w_goto t33_15 rfl))))
set_option maxRecDepth 10000 in
theorem b33_18 {d : Nat} {l0 : Option sm_V} {r1 : Nat} {l2 : Option sm_V} {x3 : Int} {Z : Nat → Nat → Int} {Rf : Nat → Nat → Option Nat} {K : Nat → Nat × Nat} {n z : Nat} {Q : Option sm_V → sm_S → Prop} : sm_wp (d + 1) 33 18 [l0, some (.inr (some r1)), l2, some (.inl x3)] [] (Z, Rf, K, n, z) Q = (sm_rd (K r1) (wr x3) ∧ sm_call d 34 [.inl (Z r1 ((wr x3).toNat))] (Z, Rf, K, n, z) (sm_cont (d + 1) 33 24 [l0, some (.inr (some r1)), l2, some (.inl x3)] [] Q)) := (w_aload_n t33_18 rfl rfl).trans ((w_iload_n t33_19 rfl rfl).trans ((w_iald t33_20 rfl rfl).trans (congrArg (And _) (w_callS t33_21 rfl rfl rfl rfl (Nat.le_of_ble_eq_true rfl) (Nat.le_of_ble_eq_true rfl) rfl))))
set_option maxRecDepth 10000 in
theorem b33_24 {d : Nat} {l0 : Option sm_V} {l1 : Option sm_V} {l2 : Option sm_V} {l3 : Option sm_V} {s0 : Int} {Z : Nat → Nat → Int} {Rf : Nat → Nat → Option Nat} {K : Nat → Nat × Nat} {n z : Nat} {Q : Option sm_V → sm_S → Prop} : sm_wp d 33 24 [l0, l1, l2, l3] [.inl s0] (Z, Rf, K, n, z) Q = (if wr s0 = 0 then sm_wp d 33 95 [l0, l1, l2, l3] [] (Z, Rf, K, n, z) Q else sm_wp d 33 27 [l0, l1, l2, l3] [] (Z, Rf, K, n, z) Q) := w_ifeq t33_24 rfl rfl rfl
set_option maxRecDepth 10000 in
theorem b33_27 {d : Nat} {r0 : Nat} {l1 : Option sm_V} {x2 : Int} {l3 : Option sm_V} {Z : Nat → Nat → Int} {Rf : Nat → Nat → Option Nat} {K : Nat → Nat × Nat} {n z : Nat} {Q : Option sm_V → sm_S → Prop} : sm_wp d 33 27 [some (.inr (some r0)), l1, some (.inl x2), l3] [] (Z, Rf, K, n, z) Q = ((K r0).1 = 4 ∧ (if wr x2 ≤ wr (Z r0 14) then sm_wp d 33 60 [some (.inr (some r0)), l1, some (.inl x2), l3] [] (Z, Rf, K, n, z) Q else sm_wp d 33 35 [some (.inr (some r0)), l1, some (.inl x2), l3] [] (Z, Rf, K, n, z) Q)) := (w_aload_n t33_27 rfl rfl).trans ((w_getI t33_28 rfl (by decide)).trans (congrArg (And _) ((w_iload_n t33_31 rfl rfl).trans (w_icge t33_32 rfl rfl rfl rfl))))
set_option maxRecDepth 10000 in
theorem b33_35 {d : Nat} {r0 : Nat} {r1 : Nat} {l2 : Option sm_V} {l3 : Option sm_V} {Z : Nat → Nat → Int} {Rf : Nat → Nat → Option Nat} {K : Nat → Nat × Nat} {n z : Nat} {Q : Option sm_V → sm_S → Prop} : sm_wp (d + 1) 33 35 [some (.inr (some r0)), some (.inr (some r1)), l2, l3] [] (Z, Rf, K, n, z) Q = ((K r0).1 = 4 ∧ sm_rd (K r1) (wr (Z r0 14)) ∧ sm_call d 34 [.inl (Z r1 ((wr (Z r0 14)).toNat))] (Z, Rf, K, n, z) (sm_cont (d + 1) 33 44 [some (.inr (some r0)), some (.inr (some r1)), l2, l3] [] Q)) := (w_aload_n t33_35 rfl rfl).trans ((w_aload_n t33_36 rfl rfl).trans ((w_getI t33_37 rfl (by decide)).trans (congrArg (And _) ((w_iald t33_40 rfl rfl).trans (congrArg (And _) (w_callS t33_41 rfl rfl rfl rfl (Nat.le_of_ble_eq_true rfl) (Nat.le_of_ble_eq_true rfl) rfl))))))
set_option maxRecDepth 10000 in
theorem b33_44 {d : Nat} {l0 : Option sm_V} {l1 : Option sm_V} {l2 : Option sm_V} {l3 : Option sm_V} {s0 : Int} {Z : Nat → Nat → Int} {Rf : Nat → Nat → Option Nat} {K : Nat → Nat × Nat} {n z : Nat} {Q : Option sm_V → sm_S → Prop} : sm_wp d 33 44 [l0, l1, l2, l3] [.inl s0] (Z, Rf, K, n, z) Q = (if wr s0 = 0 then sm_wp d 33 60 [l0, l1, l2, l3] [] (Z, Rf, K, n, z) Q else sm_wp d 33 47 [l0, l1, l2, l3] [] (Z, Rf, K, n, z) Q) := w_ifeq t33_44 rfl rfl rfl
set_option maxRecDepth 10000 in
theorem b33_47 {d : Nat} {r0 : Nat} {l1 : Option sm_V} {l2 : Option sm_V} {l3 : Option sm_V} {Z : Nat → Nat → Int} {Rf : Nat → Nat → Option Nat} {K : Nat → Nat × Nat} {n z : Nat} {Q : Option sm_V → sm_S → Prop} : sm_wp d 33 47 [some (.inr (some r0)), l1, l2, l3] [] (Z, Rf, K, n, z) Q = ((K r0).1 = 4 ∧ (K r0).1 = 4 ∧ sm_wp d 33 27 [some (.inr (some r0)), l1, l2, l3] [] (sm_u Z r0 14 ((Z r0 14) + 1), Rf, K, n, z) Q) := (w_aload_n t33_47 rfl rfl).trans ((w_dup t33_48 rfl).trans ((w_getI t33_49 rfl (by decide)).trans (congrArg (And _) ((w_iconst t33_52 rfl).trans ((w_iadd t33_53 rfl).trans ((w_putI t33_54 rfl (by decide)).trans (congrArg (And _) (w_goto t33_57 rfl))))))))
set_option maxRecDepth 10000 in
theorem b33_60 {d : Nat} {r0 : Nat} {q1 : Option Nat} {l2 : Option sm_V} {x3 : Int} {Z : Nat → Nat → Int} {Rf : Nat → Nat → Option Nat} {K : Nat → Nat × Nat} {n z : Nat} {Q : Option sm_V → sm_S → Prop} : sm_wp (d + 1) 33 60 [some (.inr (some r0)), some (.inr q1), l2, some (.inl x3)] [] (Z, Rf, K, n, z) Q = ((K r0).1 = 4 ∧ sm_call d 37 [.inr q1, .inl x3, .inl ((Z r0 14) - x3)] (Z, Rf, K, n, z) (sm_cont (d + 1) 33 72 [some (.inr (some r0)), some (.inr q1), l2, some (.inl x3)] [.inr (some r0)] Q)) := (w_aload_n t33_60 rfl rfl).trans ((w_aload_n t33_61 rfl rfl).trans ((w_iload_n t33_62 rfl rfl).trans ((w_aload_n t33_63 rfl rfl).trans ((w_getI t33_64 rfl (by decide)).trans (congrArg (And _) ((w_iload_n t33_67 rfl rfl).trans ((w_isub t33_68 rfl).trans (w_callS t33_69 rfl rfl rfl rfl (Nat.le_of_ble_eq_true rfl) (Nat.le_of_ble_eq_true rfl) rfl))))))))
set_option maxRecDepth 10000 in
theorem b33_72 {d : Nat} {r0 : Nat} {l1 : Option sm_V} {l2 : Option sm_V} {l3 : Option sm_V} {rs0 : Nat} {s1 : Int} {Z : Nat → Nat → Int} {Rf : Nat → Nat → Option Nat} {K : Nat → Nat × Nat} {n z : Nat} {Q : Option sm_V → sm_S → Prop} : sm_wp d 33 72 [some (.inr (some r0)), l1, l2, l3] [.inl s1, .inr (some rs0)] (Z, Rf, K, n, z) Q = ((K rs0).1 = 4 ∧ (K r0).1 = 4 ∧ (if wr ((sm_u Z rs0 13 s1) r0 13) = (-1 : Int) then sm_wp d 33 84 [some (.inr (some r0)), l1, l2, l3] [.inr (some r0)] (sm_u Z rs0 13 s1, Rf, K, n, z) Q else sm_wp d 33 88 [some (.inr (some r0)), l1, l2, l3] [.inr (some r0)] (sm_u Z rs0 13 s1, Rf, K, n, z) Q)) := (w_putI t33_72 rfl (by decide)).trans (congrArg (And _) ((w_aload_n t33_75 rfl rfl).trans ((w_aload_n t33_76 rfl rfl).trans ((w_getI t33_77 rfl (by decide)).trans (congrArg (And _) ((w_iconst t33_80 rfl).trans (w_icne t33_81 rfl wl_m1 rfl rfl)))))))
set_option maxRecDepth 10000 in
theorem b33_84 {d : Nat} {l0 : Option sm_V} {l1 : Option sm_V} {l2 : Option sm_V} {l3 : Option sm_V} {qs0 : Option Nat} {Z : Nat → Nat → Int} {Rf : Nat → Nat → Option Nat} {K : Nat → Nat × Nat} {n z : Nat} {Q : Option sm_V → sm_S → Prop} : sm_wp d 33 84 [l0, l1, l2, l3] [.inr qs0] (Z, Rf, K, n, z) Q = (sm_wp d 33 89 [l0, l1, l2, l3] [.inl 0, .inr qs0] (Z, Rf, K, n, z) Q) := (w_iconst t33_84 rfl).trans (w_goto t33_85 rfl)
set_option maxRecDepth 10000 in
theorem b33_88 {d : Nat} {l0 : Option sm_V} {l1 : Option sm_V} {l2 : Option sm_V} {l3 : Option sm_V} {qs0 : Option Nat} {Z : Nat → Nat → Int} {Rf : Nat → Nat → Option Nat} {K : Nat → Nat × Nat} {n z : Nat} {Q : Option sm_V → sm_S → Prop} : sm_wp d 33 88 [l0, l1, l2, l3] [.inr qs0] (Z, Rf, K, n, z) Q = (sm_wp d 33 89 [l0, l1, l2, l3] [.inl 3, .inr qs0] (Z, Rf, K, n, z) Q) := w_iconst t33_88 rfl
set_option maxRecDepth 10000 in
theorem b33_89 {d : Nat} {l0 : Option sm_V} {l1 : Option sm_V} {l2 : Option sm_V} {l3 : Option sm_V} {rs0 : Nat} {s1 : Int} {Z : Nat → Nat → Int} {Rf : Nat → Nat → Option Nat} {K : Nat → Nat × Nat} {n z : Nat} {Q : Option sm_V → sm_S → Prop} : sm_wp d 33 89 [l0, l1, l2, l3] [.inl s1, .inr (some rs0)] (Z, Rf, K, n, z) Q = ((K rs0).1 = 4 ∧ sm_wp d 33 215 [l0, l1, l2, l3] [] (sm_u Z rs0 12 s1, Rf, K, n, z) Q) := (w_putI t33_89 rfl (by decide)).trans (congrArg (And _) (w_goto t33_92 rfl))
set_option maxRecDepth 10000 in
theorem b33_95 {d : Nat} {l0 : Option sm_V} {r1 : Nat} {l2 : Option sm_V} {x3 : Int} {Z : Nat → Nat → Int} {Rf : Nat → Nat → Option Nat} {K : Nat → Nat × Nat} {n z : Nat} {Q : Option sm_V → sm_S → Prop} : sm_wp (d + 1) 33 95 [l0, some (.inr (some r1)), l2, some (.inl x3)] [] (Z, Rf, K, n, z) Q = (sm_rd (K r1) (wr x3) ∧ sm_call d 35 [.inl (Z r1 ((wr x3).toNat))] (Z, Rf, K, n, z) (sm_cont (d + 1) 33 101 [l0, some (.inr (some r1)), l2, some (.inl x3)] [] Q)) := (w_aload_n t33_95 rfl rfl).trans ((w_iload_n t33_96 rfl rfl).trans ((w_iald t33_97 rfl rfl).trans (congrArg (And _) (w_callS t33_98 rfl rfl rfl rfl (Nat.le_of_ble_eq_true rfl) (Nat.le_of_ble_eq_true rfl) rfl))))
set_option maxRecDepth 10000 in
theorem b33_101 {d : Nat} {l0 : Option sm_V} {l1 : Option sm_V} {l2 : Option sm_V} {l3 : Option sm_V} {s0 : Int} {Z : Nat → Nat → Int} {Rf : Nat → Nat → Option Nat} {K : Nat → Nat × Nat} {n z : Nat} {Q : Option sm_V → sm_S → Prop} : sm_wp d 33 101 [l0, l1, l2, l3] [.inl s0] (Z, Rf, K, n, z) Q = (if wr s0 = 0 then sm_wp d 33 185 [l0, l1, l2, l3] [] (Z, Rf, K, n, z) Q else sm_wp d 33 104 [l0, l1, l2, l3] [] (Z, Rf, K, n, z) Q) := w_ifeq t33_101 rfl rfl rfl
set_option maxRecDepth 10000 in
theorem b33_104 {d : Nat} {r0 : Nat} {l1 : Option sm_V} {l2 : Option sm_V} {l3 : Option sm_V} {Z : Nat → Nat → Int} {Rf : Nat → Nat → Option Nat} {K : Nat → Nat × Nat} {n z : Nat} {Q : Option sm_V → sm_S → Prop} : sm_wp d 33 104 [some (.inr (some r0)), l1, l2, l3] [] (Z, Rf, K, n, z) Q = ((K r0).1 = 4 ∧ sm_wp d 33 109 [some (.inr (some r0)), l1, l2, l3] [] (sm_u Z r0 13 0, Rf, K, n, z) Q) := (w_aload_n t33_104 rfl rfl).trans ((w_iconst t33_105 rfl).trans ((w_putI t33_106 rfl (by decide)).trans (congrArg (And _) rfl)))
set_option maxRecDepth 10000 in
theorem b33_109 {d : Nat} {r0 : Nat} {l1 : Option sm_V} {x2 : Int} {l3 : Option sm_V} {Z : Nat → Nat → Int} {Rf : Nat → Nat → Option Nat} {K : Nat → Nat × Nat} {n z : Nat} {Q : Option sm_V → sm_S → Prop} : sm_wp d 33 109 [some (.inr (some r0)), l1, some (.inl x2), l3] [] (Z, Rf, K, n, z) Q = ((K r0).1 = 4 ∧ (if wr x2 ≤ wr (Z r0 14) then sm_wp d 33 163 [some (.inr (some r0)), l1, some (.inl x2), l3] [] (Z, Rf, K, n, z) Q else sm_wp d 33 117 [some (.inr (some r0)), l1, some (.inl x2), l3] [] (Z, Rf, K, n, z) Q)) := (w_aload_n t33_109 rfl rfl).trans ((w_getI t33_110 rfl (by decide)).trans (congrArg (And _) ((w_iload_n t33_113 rfl rfl).trans (w_icge t33_114 rfl rfl rfl rfl))))
set_option maxRecDepth 10000 in
theorem b33_117 {d : Nat} {r0 : Nat} {r1 : Nat} {l2 : Option sm_V} {l3 : Option sm_V} {Z : Nat → Nat → Int} {Rf : Nat → Nat → Option Nat} {K : Nat → Nat × Nat} {n z : Nat} {Q : Option sm_V → sm_S → Prop} : sm_wp (d + 1) 33 117 [some (.inr (some r0)), some (.inr (some r1)), l2, l3] [] (Z, Rf, K, n, z) Q = ((K r0).1 = 4 ∧ sm_rd (K r1) (wr (Z r0 14)) ∧ sm_call d 35 [.inl (Z r1 ((wr (Z r0 14)).toNat))] (Z, Rf, K, n, z) (sm_cont (d + 1) 33 126 [some (.inr (some r0)), some (.inr (some r1)), l2, l3] [] Q)) := (w_aload_n t33_117 rfl rfl).trans ((w_aload_n t33_118 rfl rfl).trans ((w_getI t33_119 rfl (by decide)).trans (congrArg (And _) ((w_iald t33_122 rfl rfl).trans (congrArg (And _) (w_callS t33_123 rfl rfl rfl rfl (Nat.le_of_ble_eq_true rfl) (Nat.le_of_ble_eq_true rfl) rfl))))))
set_option maxRecDepth 10000 in
theorem b33_126 {d : Nat} {l0 : Option sm_V} {l1 : Option sm_V} {l2 : Option sm_V} {l3 : Option sm_V} {s0 : Int} {Z : Nat → Nat → Int} {Rf : Nat → Nat → Option Nat} {K : Nat → Nat × Nat} {n z : Nat} {Q : Option sm_V → sm_S → Prop} : sm_wp d 33 126 [l0, l1, l2, l3] [.inl s0] (Z, Rf, K, n, z) Q = (if wr s0 = 0 then sm_wp d 33 163 [l0, l1, l2, l3] [] (Z, Rf, K, n, z) Q else sm_wp d 33 129 [l0, l1, l2, l3] [] (Z, Rf, K, n, z) Q) := w_ifeq t33_126 rfl rfl rfl
set_option maxRecDepth 10000 in
theorem b33_129 {d : Nat} {r0 : Nat} {r1 : Nat} {l2 : Option sm_V} {l3 : Option sm_V} {Z : Nat → Nat → Int} {Rf : Nat → Nat → Option Nat} {K : Nat → Nat × Nat} {n z : Nat} {Q : Option sm_V → sm_S → Prop} : sm_wp d 33 129 [some (.inr (some r0)), some (.inr (some r1)), l2, l3] [] (Z, Rf, K, n, z) Q = ((K r0).1 = 4 ∧ (K r0).1 = 4 ∧ sm_rd (K r1) (wr (Z r0 14)) ∧ (K r0).1 = 4 ∧ (K r0).1 = 4 ∧ (K r0).1 = 4 ∧ sm_wp d 33 109 [some (.inr (some r0)), some (.inr (some r1)), l2, l3] [] (sm_u (sm_u Z r0 13 ((((Z r0 13) * 10) + (Z r1 ((wr (Z r0 14)).toNat))) - 48)) r0 14 (((sm_u Z r0 13 ((((Z r0 13) * 10) + (Z r1 ((wr (Z r0 14)).toNat))) - 48)) r0 14) + 1), Rf, K, n, z) Q) := (w_aload_n t33_129 rfl rfl).trans ((w_aload_n t33_130 rfl rfl).trans ((w_getI t33_131 rfl (by decide)).trans (congrArg (And _) ((w_bipush t33_134 rfl).trans ((w_imul t33_136 rfl).trans ((w_aload_n t33_137 rfl rfl).trans ((w_aload_n t33_138 rfl rfl).trans ((w_getI t33_139 rfl (by decide)).trans (congrArg (And _) ((w_iald t33_142 rfl rfl).trans (congrArg (And _) ((w_iadd t33_143 rfl).trans ((w_bipush t33_144 rfl).trans ((w_isub t33_146 rfl).trans ((w_putI t33_147 rfl (by decide)).trans (congrArg (And _) ((w_aload_n t33_150 rfl rfl).trans ((w_dup t33_151 rfl).trans ((w_getI t33_152 rfl (by decide)).trans (congrArg (And _) ((w_iconst t33_155 rfl).trans ((w_iadd t33_156 rfl).trans ((w_putI t33_157 rfl (by decide)).trans (congrArg (And _) (w_goto t33_160 rfl)))))))))))))))))))))))))
set_option maxRecDepth 10000 in
theorem b33_163 {d : Nat} {r0 : Nat} {l1 : Option sm_V} {l2 : Option sm_V} {x3 : Int} {Z : Nat → Nat → Int} {Rf : Nat → Nat → Option Nat} {K : Nat → Nat × Nat} {n z : Nat} {Q : Option sm_V → sm_S → Prop} : sm_wp d 33 163 [some (.inr (some r0)), l1, l2, some (.inl x3)] [] (Z, Rf, K, n, z) Q = ((K r0).1 = 4 ∧ (if wr ((Z r0 14) - x3) ≤ (4 : Int) then sm_wp d 33 178 [some (.inr (some r0)), l1, l2, some (.inl x3)] [.inr (some r0)] (Z, Rf, K, n, z) Q else sm_wp d 33 174 [some (.inr (some r0)), l1, l2, some (.inl x3)] [.inr (some r0)] (Z, Rf, K, n, z) Q)) := (w_aload_n t33_163 rfl rfl).trans ((w_aload_n t33_164 rfl rfl).trans ((w_getI t33_165 rfl (by decide)).trans (congrArg (And _) ((w_iload_n t33_168 rfl rfl).trans ((w_isub t33_169 rfl).trans ((w_iconst t33_170 rfl).trans (w_icle t33_171 rfl wl_4 rfl rfl)))))))
set_option maxRecDepth 10000 in
theorem b33_174 {d : Nat} {l0 : Option sm_V} {l1 : Option sm_V} {l2 : Option sm_V} {l3 : Option sm_V} {qs0 : Option Nat} {Z : Nat → Nat → Int} {Rf : Nat → Nat → Option Nat} {K : Nat → Nat × Nat} {n z : Nat} {Q : Option sm_V → sm_S → Prop} : sm_wp d 33 174 [l0, l1, l2, l3] [.inr qs0] (Z, Rf, K, n, z) Q = (sm_wp d 33 179 [l0, l1, l2, l3] [.inl 0, .inr qs0] (Z, Rf, K, n, z) Q) := (w_iconst t33_174 rfl).trans (w_goto t33_175 rfl)
set_option maxRecDepth 10000 in
theorem b33_178 {d : Nat} {l0 : Option sm_V} {l1 : Option sm_V} {l2 : Option sm_V} {l3 : Option sm_V} {qs0 : Option Nat} {Z : Nat → Nat → Int} {Rf : Nat → Nat → Option Nat} {K : Nat → Nat × Nat} {n z : Nat} {Q : Option sm_V → sm_S → Prop} : sm_wp d 33 178 [l0, l1, l2, l3] [.inr qs0] (Z, Rf, K, n, z) Q = (sm_wp d 33 179 [l0, l1, l2, l3] [.inl 2, .inr qs0] (Z, Rf, K, n, z) Q) := w_iconst t33_178 rfl
set_option maxRecDepth 10000 in
theorem b33_179 {d : Nat} {l0 : Option sm_V} {l1 : Option sm_V} {l2 : Option sm_V} {l3 : Option sm_V} {rs0 : Nat} {s1 : Int} {Z : Nat → Nat → Int} {Rf : Nat → Nat → Option Nat} {K : Nat → Nat × Nat} {n z : Nat} {Q : Option sm_V → sm_S → Prop} : sm_wp d 33 179 [l0, l1, l2, l3] [.inl s1, .inr (some rs0)] (Z, Rf, K, n, z) Q = ((K rs0).1 = 4 ∧ sm_wp d 33 215 [l0, l1, l2, l3] [] (sm_u Z rs0 12 s1, Rf, K, n, z) Q) := (w_putI t33_179 rfl (by decide)).trans (congrArg (And _) (w_goto t33_182 rfl))
set_option maxRecDepth 10000 in
theorem b33_185 {d : Nat} {q0 : Option Nat} {r1 : Nat} {l2 : Option sm_V} {x3 : Int} {Z : Nat → Nat → Int} {Rf : Nat → Nat → Option Nat} {K : Nat → Nat × Nat} {n z : Nat} {Q : Option sm_V → sm_S → Prop} : sm_wp (d + 1) 33 185 [some (.inr q0), some (.inr (some r1)), l2, some (.inl x3)] [] (Z, Rf, K, n, z) Q = (sm_rd (K r1) (wr x3) ∧ sm_call d 36 [.inl (Z r1 ((wr x3).toNat))] (Z, Rf, K, n, z) (sm_cont (d + 1) 33 192 [some (.inr q0), some (.inr (some r1)), l2, some (.inl x3)] [.inr q0] Q)) := (w_aload_n t33_185 rfl rfl).trans ((w_aload_n t33_186 rfl rfl).trans ((w_iload_n t33_187 rfl rfl).trans ((w_iald t33_188 rfl rfl).trans (congrArg (And _) (w_callS t33_189 rfl rfl rfl rfl (Nat.le_of_ble_eq_true rfl) (Nat.le_of_ble_eq_true rfl) rfl)))))
set_option maxRecDepth 10000 in
theorem b33_192 {d : Nat} {l0 : Option sm_V} {l1 : Option sm_V} {l2 : Option sm_V} {l3 : Option sm_V} {qs0 : Option Nat} {s1 : Int} {Z : Nat → Nat → Int} {Rf : Nat → Nat → Option Nat} {K : Nat → Nat × Nat} {n z : Nat} {Q : Option sm_V → sm_S → Prop} : sm_wp d 33 192 [l0, l1, l2, l3] [.inl s1, .inr qs0] (Z, Rf, K, n, z) Q = (if wr s1 = 0 then sm_wp d 33 201 [l0, l1, l2, l3] [.inr qs0] (Z, Rf, K, n, z) Q else sm_wp d 33 195 [l0, l1, l2, l3] [.inr qs0] (Z, Rf, K, n, z) Q) := w_ifeq t33_192 rfl rfl rfl
set_option maxRecDepth 10000 in
theorem b33_195 {d : Nat} {l0 : Option sm_V} {r1 : Nat} {l2 : Option sm_V} {x3 : Int} {qs0 : Option Nat} {Z : Nat → Nat → Int} {Rf : Nat → Nat → Option Nat} {K : Nat → Nat × Nat} {n z : Nat} {Q : Option sm_V → sm_S → Prop} : sm_wp d 33 195 [l0, some (.inr (some r1)), l2, some (.inl x3)] [.inr qs0] (Z, Rf, K, n, z) Q = (sm_rd (K r1) (wr x3) ∧ sm_wp d 33 202 [l0, some (.inr (some r1)), l2, some (.inl x3)] [.inl (Z r1 ((wr x3).toNat)), .inr qs0] (Z, Rf, K, n, z) Q) := (w_aload_n t33_195 rfl rfl).trans ((w_iload_n t33_196 rfl rfl).trans ((w_iald t33_197 rfl rfl).trans (congrArg (And _) (w_goto t33_198 rfl))))
set_option maxRecDepth 10000 in
theorem b33_201 {d : Nat} {l0 : Option sm_V} {l1 : Option sm_V} {l2 : Option sm_V} {l3 : Option sm_V} {qs0 : Option Nat} {Z : Nat → Nat → Int} {Rf : Nat → Nat → Option Nat} {K : Nat → Nat × Nat} {n z : Nat} {Q : Option sm_V → sm_S → Prop} : sm_wp d 33 201 [l0, l1, l2, l3] [.inr qs0] (Z, Rf, K, n, z) Q = (sm_wp d 33 202 [l0, l1, l2, l3] [.inl 0, .inr qs0] (Z, Rf, K, n, z) Q) := w_iconst t33_201 rfl
set_option maxRecDepth 10000 in
theorem b33_202 {d : Nat} {r0 : Nat} {l1 : Option sm_V} {l2 : Option sm_V} {l3 : Option sm_V} {rs0 : Nat} {s1 : Int} {Z : Nat → Nat → Int} {Rf : Nat → Nat → Option Nat} {K : Nat → Nat × Nat} {n z : Nat} {Q : Option sm_V → sm_S → Prop} : sm_wp d 33 202 [some (.inr (some r0)), l1, l2, l3] [.inl s1, .inr (some rs0)] (Z, Rf, K, n, z) Q = ((K rs0).1 = 4 ∧ (K r0).1 = 4 ∧ (K r0).1 = 4 ∧ sm_wp d 33 215 [some (.inr (some r0)), l1, l2, l3] [] (sm_u (sm_u Z rs0 12 s1) r0 14 (((sm_u Z rs0 12 s1) r0 14) + 1), Rf, K, n, z) Q) := (w_putI t33_202 rfl (by decide)).trans (congrArg (And _) ((w_aload_n t33_205 rfl rfl).trans ((w_dup t33_206 rfl).trans ((w_getI t33_207 rfl (by decide)).trans (congrArg (And _) ((w_iconst t33_210 rfl).trans ((w_iadd t33_211 rfl).trans ((w_putI t33_212 rfl (by decide)).trans (congrArg (And _) rfl)))))))))
set_option maxRecDepth 10000 in
theorem b33_215 {d : Nat} {l0 : Option sm_V} {l1 : Option sm_V} {l2 : Option sm_V} {l3 : Option sm_V} {Z : Nat → Nat → Int} {Rf : Nat → Nat → Option Nat} {K : Nat → Nat × Nat} {n z : Nat} {Q : Option sm_V → sm_S → Prop} : sm_wp d 33 215 [l0, l1, l2, l3] [] (Z, Rf, K, n, z) Q = (Q none (Z, Rf, K, n, z)) := w_vret t33_215
theorem t34_0 : sm_at 34 0 = some (1, .iload_n 0, 0, 0, 0) := rfl
theorem t34_1 : sm_at 34 1 = some (2, .bipush 97, 0, 0, 0) := rfl
theorem t34_3 : sm_at 34 3 = some (3, .if_icmp .lt 9, 0, 0, 0) := rfl
theorem t34_6 : sm_at 34 6 = some (1, .iload_n 0, 0, 0, 0) := rfl
theorem t34_7 : sm_at 34 7 = some (2, .bipush 122, 0, 0, 0) := rfl
theorem t34_9 : sm_at 34 9 = some (3, .if_icmp .le 15, 0, 0, 0) := rfl
theorem t34_12 : sm_at 34 12 = some (1, .iload_n 0, 0, 0, 0) := rfl
theorem t34_13 : sm_at 34 13 = some (2, .bipush 65, 0, 0, 0) := rfl
theorem t34_15 : sm_at 34 15 = some (3, .if_icmp .lt 13, 0, 0, 0) := rfl
theorem t34_18 : sm_at 34 18 = some (1, .iload_n 0, 0, 0, 0) := rfl
theorem t34_19 : sm_at 34 19 = some (2, .bipush 90, 0, 0, 0) := rfl
theorem t34_21 : sm_at 34 21 = some (3, .if_icmp .gt 7, 0, 0, 0) := rfl
theorem t34_24 : sm_at 34 24 = some (1, .iconst 1, 0, 0, 0) := rfl
theorem t34_25 : sm_at 34 25 = some (3, .goto 4, 0, 0, 0) := rfl
theorem t34_28 : sm_at 34 28 = some (1, .iconst 0, 0, 0, 0) := rfl
theorem t34_29 : sm_at 34 29 = some (1, .ireturn, 1, 0, 0) := rfl
set_option maxRecDepth 10000 in
theorem b34_0 {d : Nat} {x0 : Int} {Z : Nat → Nat → Int} {Rf : Nat → Nat → Option Nat} {K : Nat → Nat × Nat} {n z : Nat} {Q : Option sm_V → sm_S → Prop} : sm_wp d 34 0 [some (.inl x0)] [] (Z, Rf, K, n, z) Q = (if wr x0 < (97 : Int) then sm_wp d 34 12 [some (.inl x0)] [] (Z, Rf, K, n, z) Q else sm_wp d 34 6 [some (.inl x0)] [] (Z, Rf, K, n, z) Q) := (w_iload_n t34_0 rfl rfl).trans ((w_bipush t34_1 rfl).trans (w_iclt t34_3 rfl wl_97 rfl rfl))
set_option maxRecDepth 10000 in
theorem b34_6 {d : Nat} {x0 : Int} {Z : Nat → Nat → Int} {Rf : Nat → Nat → Option Nat} {K : Nat → Nat × Nat} {n z : Nat} {Q : Option sm_V → sm_S → Prop} : sm_wp d 34 6 [some (.inl x0)] [] (Z, Rf, K, n, z) Q = (if wr x0 ≤ (122 : Int) then sm_wp d 34 24 [some (.inl x0)] [] (Z, Rf, K, n, z) Q else sm_wp d 34 12 [some (.inl x0)] [] (Z, Rf, K, n, z) Q) := (w_iload_n t34_6 rfl rfl).trans ((w_bipush t34_7 rfl).trans (w_icle t34_9 rfl wl_122 rfl rfl))
set_option maxRecDepth 10000 in
theorem b34_12 {d : Nat} {x0 : Int} {Z : Nat → Nat → Int} {Rf : Nat → Nat → Option Nat} {K : Nat → Nat × Nat} {n z : Nat} {Q : Option sm_V → sm_S → Prop} : sm_wp d 34 12 [some (.inl x0)] [] (Z, Rf, K, n, z) Q = (if wr x0 < (65 : Int) then sm_wp d 34 28 [some (.inl x0)] [] (Z, Rf, K, n, z) Q else sm_wp d 34 18 [some (.inl x0)] [] (Z, Rf, K, n, z) Q) := (w_iload_n t34_12 rfl rfl).trans ((w_bipush t34_13 rfl).trans (w_iclt t34_15 rfl wl_65 rfl rfl))
set_option maxRecDepth 10000 in
theorem b34_18 {d : Nat} {x0 : Int} {Z : Nat → Nat → Int} {Rf : Nat → Nat → Option Nat} {K : Nat → Nat × Nat} {n z : Nat} {Q : Option sm_V → sm_S → Prop} : sm_wp d 34 18 [some (.inl x0)] [] (Z, Rf, K, n, z) Q = (if (90 : Int) < wr x0 then sm_wp d 34 28 [some (.inl x0)] [] (Z, Rf, K, n, z) Q else sm_wp d 34 24 [some (.inl x0)] [] (Z, Rf, K, n, z) Q) := (w_iload_n t34_18 rfl rfl).trans ((w_bipush t34_19 rfl).trans (w_icgt t34_21 rfl wl_90 rfl rfl))
set_option maxRecDepth 10000 in
theorem b34_24 {d : Nat} {l0 : Option sm_V} {Z : Nat → Nat → Int} {Rf : Nat → Nat → Option Nat} {K : Nat → Nat × Nat} {n z : Nat} {Q : Option sm_V → sm_S → Prop} : sm_wp d 34 24 [l0] [] (Z, Rf, K, n, z) Q = (sm_wp d 34 29 [l0] [.inl 1] (Z, Rf, K, n, z) Q) := (w_iconst t34_24 rfl).trans (w_goto t34_25 rfl)
set_option maxRecDepth 10000 in
theorem b34_28 {d : Nat} {l0 : Option sm_V} {Z : Nat → Nat → Int} {Rf : Nat → Nat → Option Nat} {K : Nat → Nat × Nat} {n z : Nat} {Q : Option sm_V → sm_S → Prop} : sm_wp d 34 28 [l0] [] (Z, Rf, K, n, z) Q = (sm_wp d 34 29 [l0] [.inl 0] (Z, Rf, K, n, z) Q) := w_iconst t34_28 rfl
set_option maxRecDepth 10000 in
theorem b34_29 {d : Nat} {l0 : Option sm_V} {s0 : Int} {Z : Nat → Nat → Int} {Rf : Nat → Nat → Option Nat} {K : Nat → Nat × Nat} {n z : Nat} {Q : Option sm_V → sm_S → Prop} : sm_wp d 34 29 [l0] [.inl s0] (Z, Rf, K, n, z) Q = ((wr s0 = 0 ∨ wr s0 = 1) ∧ Q (some (.inl s0)) (Z, Rf, K, n, z)) := w_zret t34_29 rfl
theorem t35_0 : sm_at 35 0 = some (1, .iload_n 0, 0, 0, 0) := rfl
theorem t35_1 : sm_at 35 1 = some (2, .bipush 48, 0, 0, 0) := rfl
theorem t35_3 : sm_at 35 3 = some (3, .if_icmp .lt 13, 0, 0, 0) := rfl
theorem t35_6 : sm_at 35 6 = some (1, .iload_n 0, 0, 0, 0) := rfl
theorem t35_7 : sm_at 35 7 = some (2, .bipush 57, 0, 0, 0) := rfl
theorem t35_9 : sm_at 35 9 = some (3, .if_icmp .gt 7, 0, 0, 0) := rfl
theorem t35_12 : sm_at 35 12 = some (1, .iconst 1, 0, 0, 0) := rfl
theorem t35_13 : sm_at 35 13 = some (3, .goto 4, 0, 0, 0) := rfl
theorem t35_16 : sm_at 35 16 = some (1, .iconst 0, 0, 0, 0) := rfl
theorem t35_17 : sm_at 35 17 = some (1, .ireturn, 1, 0, 0) := rfl
set_option maxRecDepth 10000 in
theorem b35_0 {d : Nat} {x0 : Int} {Z : Nat → Nat → Int} {Rf : Nat → Nat → Option Nat} {K : Nat → Nat × Nat} {n z : Nat} {Q : Option sm_V → sm_S → Prop} : sm_wp d 35 0 [some (.inl x0)] [] (Z, Rf, K, n, z) Q = (if wr x0 < (48 : Int) then sm_wp d 35 16 [some (.inl x0)] [] (Z, Rf, K, n, z) Q else sm_wp d 35 6 [some (.inl x0)] [] (Z, Rf, K, n, z) Q) := (w_iload_n t35_0 rfl rfl).trans ((w_bipush t35_1 rfl).trans (w_iclt t35_3 rfl wl_48 rfl rfl))
set_option maxRecDepth 10000 in
theorem b35_6 {d : Nat} {x0 : Int} {Z : Nat → Nat → Int} {Rf : Nat → Nat → Option Nat} {K : Nat → Nat × Nat} {n z : Nat} {Q : Option sm_V → sm_S → Prop} : sm_wp d 35 6 [some (.inl x0)] [] (Z, Rf, K, n, z) Q = (if (57 : Int) < wr x0 then sm_wp d 35 16 [some (.inl x0)] [] (Z, Rf, K, n, z) Q else sm_wp d 35 12 [some (.inl x0)] [] (Z, Rf, K, n, z) Q) := (w_iload_n t35_6 rfl rfl).trans ((w_bipush t35_7 rfl).trans (w_icgt t35_9 rfl wl_57 rfl rfl))
set_option maxRecDepth 10000 in
theorem b35_12 {d : Nat} {l0 : Option sm_V} {Z : Nat → Nat → Int} {Rf : Nat → Nat → Option Nat} {K : Nat → Nat × Nat} {n z : Nat} {Q : Option sm_V → sm_S → Prop} : sm_wp d 35 12 [l0] [] (Z, Rf, K, n, z) Q = (sm_wp d 35 17 [l0] [.inl 1] (Z, Rf, K, n, z) Q) := (w_iconst t35_12 rfl).trans (w_goto t35_13 rfl)
set_option maxRecDepth 10000 in
theorem b35_16 {d : Nat} {l0 : Option sm_V} {Z : Nat → Nat → Int} {Rf : Nat → Nat → Option Nat} {K : Nat → Nat × Nat} {n z : Nat} {Q : Option sm_V → sm_S → Prop} : sm_wp d 35 16 [l0] [] (Z, Rf, K, n, z) Q = (sm_wp d 35 17 [l0] [.inl 0] (Z, Rf, K, n, z) Q) := w_iconst t35_16 rfl
set_option maxRecDepth 10000 in
theorem b35_17 {d : Nat} {l0 : Option sm_V} {s0 : Int} {Z : Nat → Nat → Int} {Rf : Nat → Nat → Option Nat} {K : Nat → Nat × Nat} {n z : Nat} {Q : Option sm_V → sm_S → Prop} : sm_wp d 35 17 [l0] [.inl s0] (Z, Rf, K, n, z) Q = ((wr s0 = 0 ∨ wr s0 = 1) ∧ Q (some (.inl s0)) (Z, Rf, K, n, z)) := w_zret t35_17 rfl
