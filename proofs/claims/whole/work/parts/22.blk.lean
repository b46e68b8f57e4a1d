theorem t79_0 : sm_at 79 0 = some (1, .aload_n 0, 0, 0, 0) := rfl
theorem t79_1 : sm_at 79 1 = some (3, .getfield 23, 9, 2, 0) := rfl
theorem t79_4 : sm_at 79 4 = some (3, .invokevirtual 47, 53, 1, 0) := rfl
theorem t79_7 : sm_at 79 7 = some (3, .ifCond .eq 4, 0, 0, 0) := rfl
theorem t79_10 : sm_at 79 10 = some (1, .return_, 0, 0, 0) := rfl
theorem t79_11 : sm_at 79 11 = some (1, .iconst (-1), 0, 0, 0) := rfl
theorem t79_12 : sm_at 79 12 = some (2, .istore 6, 0, 0, 0) := rfl
theorem t79_14 : sm_at 79 14 = some (1, .iconst 0, 0, 0, 0) := rfl
theorem t79_15 : sm_at 79 15 = some (2, .istore 7, 0, 0, 0) := rfl
theorem t79_17 : sm_at 79 17 = some (2, .iload 7, 0, 0, 0) := rfl
theorem t79_19 : sm_at 79 19 = some (1, .iconst 4, 0, 0, 0) := rfl
theorem t79_20 : sm_at 79 20 = some (3, .if_icmp .ge 68, 0, 0, 0) := rfl
theorem t79_23 : sm_at 79 23 = some (1, .aload_n 1, 0, 0, 0) := rfl
theorem t79_24 : sm_at 79 24 = some (1, .iload_n 3, 0, 0, 0) := rfl
theorem t79_25 : sm_at 79 25 = some (2, .iload 4, 0, 0, 0) := rfl
theorem t79_27 : sm_at 79 27 = some (2, .iload 7, 0, 0, 0) := rfl
theorem t79_29 : sm_at 79 29 = some (3, .invokevirtual 51, 11, 4, 0) := rfl
theorem t79_32 : sm_at 79 32 = some (2, .istore 8, 0, 0, 0) := rfl
theorem t79_34 : sm_at 79 34 = some (2, .iload 8, 0, 0, 0) := rfl
theorem t79_36 : sm_at 79 36 = some (1, .iconst (-1), 0, 0, 0) := rfl
theorem t79_37 : sm_at 79 37 = some (3, .if_icmp .ne 7, 0, 0, 0) := rfl
theorem t79_40 : sm_at 79 40 = some (1, .iconst (-1), 0, 0, 0) := rfl
theorem t79_41 : sm_at 79 41 = some (3, .goto 10, 0, 0, 0) := rfl
theorem t79_44 : sm_at 79 44 = some (1, .aload_n 0, 0, 0, 0) := rfl
theorem t79_45 : sm_at 79 45 = some (3, .getfield 9, 9, 0, 0) := rfl
theorem t79_48 : sm_at 79 48 = some (2, .iload 8, 0, 0, 0) := rfl
theorem t79_50 : sm_at 79 50 = some (1, .iaload, 0, 0, 0) := rfl
theorem t79_51 : sm_at 79 51 = some (2, .istore 9, 0, 0, 0) := rfl
theorem t79_53 : sm_at 79 53 = some (2, .iload 9, 0, 0, 0) := rfl
theorem t79_55 : sm_at 79 55 = some (1, .iconst (-1), 0, 0, 0) := rfl
theorem t79_56 : sm_at 79 56 = some (3, .if_icmp .eq 26, 0, 0, 0) := rfl
theorem t79_59 : sm_at 79 59 = some (2, .iload 9, 0, 0, 0) := rfl
theorem t79_61 : sm_at 79 61 = some (1, .iload_n 2, 0, 0, 0) := rfl
theorem t79_62 : sm_at 79 62 = some (3, .if_icmp .eq 20, 0, 0, 0) := rfl
theorem t79_65 : sm_at 79 65 = some (2, .iload 6, 0, 0, 0) := rfl
theorem t79_67 : sm_at 79 67 = some (1, .iconst (-1), 0, 0, 0) := rfl
theorem t79_68 : sm_at 79 68 = some (3, .if_icmp .eq 10, 0, 0, 0) := rfl
theorem t79_71 : sm_at 79 71 = some (2, .iload 9, 0, 0, 0) := rfl
theorem t79_73 : sm_at 79 73 = some (2, .iload 6, 0, 0, 0) := rfl
theorem t79_75 : sm_at 79 75 = some (3, .if_icmp .ge 7, 0, 0, 0) := rfl
theorem t79_78 : sm_at 79 78 = some (2, .iload 9, 0, 0, 0) := rfl
theorem t79_80 : sm_at 79 80 = some (2, .istore 6, 0, 0, 0) := rfl
theorem t79_82 : sm_at 79 82 = some (3, .iinc 7 1, 0, 0, 0) := rfl
theorem t79_85 : sm_at 79 85 = some (3, .goto (-68), 0, 0, 0) := rfl
theorem t79_88 : sm_at 79 88 = some (2, .iload 6, 0, 0, 0) := rfl
theorem t79_90 : sm_at 79 90 = some (1, .iconst (-1), 0, 0, 0) := rfl
theorem t79_91 : sm_at 79 91 = some (3, .if_icmp .eq 19, 0, 0, 0) := rfl
theorem t79_94 : sm_at 79 94 = some (1, .aload_n 0, 0, 0, 0) := rfl
theorem t79_95 : sm_at 79 95 = some (3, .getfield 23, 9, 2, 0) := rfl
theorem t79_98 : sm_at 79 98 = some (1, .iload_n 2, 0, 0, 0) := rfl
theorem t79_99 : sm_at 79 99 = some (2, .iload 6, 0, 0, 0) := rfl
theorem t79_101 : sm_at 79 101 = some (1, .iload_n 3, 0, 0, 0) := rfl
theorem t79_102 : sm_at 79 102 = some (2, .iload 4, 0, 0, 0) := rfl
theorem t79_104 : sm_at 79 104 = some (2, .iload 5, 0, 0, 0) := rfl
theorem t79_106 : sm_at 79 106 = some (3, .invokevirtual 57, 52, 6, 0) := rfl
theorem t79_109 : sm_at 79 109 = some (1, .pop, 0, 0, 0) := rfl
theorem t79_110 : sm_at 79 110 = some (1, .return_, 0, 0, 0) := rfl
set_option maxRecDepth 10000 in
theorem b79_0 {d : Nat} {r0 : Nat} {l1 : Option sm_V} {l2 : Option sm_V} {l3 : Option sm_V} {l4 : Option sm_V} {l5 : Option sm_V} {l6 : Option sm_V} {l7 : Option sm_V} {l8 : Option sm_V} {l9 : Option sm_V} {Z : Nat → Nat → Int} {Rf : Nat → Nat → Option Nat} {K : Nat → Nat × Nat} {n z : Nat} {Q : Option sm_V → sm_S → Prop} : sm_wp (d + 1) 79 0 [some (.inr (some r0)), l1, l2, l3, l4, l5, l6, l7, l8, l9] [] (Z, Rf, K, n, z) Q = ((K r0).1 = 9 ∧ (Rf r0 2).isSome = true ∧ (K (((Rf r0 2).getD 0))).1 = 5 ∧ sm_call d 53 [.inr (some ((Rf r0 2).getD 0))] (Z, Rf, K, n, z) (sm_cont (d + 1) 79 7 [some (.inr (some r0)), l1, l2, l3, l4, l5, l6, l7, l8, l9] [] Q)) := (w_aload_n t79_0 rfl rfl).trans ((w_getR t79_1 rfl (by decide)).trans (congrArg (And _) (congrArg (And _) (w_callV t79_4 rfl rfl rfl rfl (Nat.le_of_ble_eq_true rfl) (Nat.le_of_ble_eq_true rfl) rfl (by decide)))))
set_option maxRecDepth 10000 in
theorem b79_7 {d : Nat} {l0 : Option sm_V} {l1 : Option sm_V} {l2 : Option sm_V} {l3 : Option sm_V} {l4 : Option sm_V} {l5 : Option sm_V} {l6 : Option sm_V} {l7 : Option sm_V} {l8 : Option sm_V} {l9 : Option sm_V} {s0 : Int} {Z : Nat → Nat → Int} {Rf : Nat → Nat → Option Nat} {K : Nat → Nat × Nat} {n z : Nat} {Q : Option sm_V → sm_S → Prop} : sm_wp d 79 7 [l0, l1, l2, l3, l4, l5, l6, l7, l8, l9] [.inl s0] (Z, Rf, K, n, z) Q = (if wr s0 = 0 then sm_wp d 79 11 [l0, l1, l2, l3, l4, l5, l6, l7, l8, l9] [] (Z, Rf, K, n, z) Q else sm_wp d 79 10 [l0, l1, l2, l3, l4, l5, l6, l7, l8, l9] [] (Z, Rf, K, n, z) Q) := w_ifeq t79_7 rfl rfl rfl
set_option maxRecDepth 10000 in
theorem b79_10 {d : Nat} {l0 : Option sm_V} {l1 : Option sm_V} {l2 : Option sm_V} {l3 : Option sm_V} {l4 : Option sm_V} {l5 : Option sm_V} {l6 : Option sm_V} {l7 : Option sm_V} {l8 : Option sm_V} {l9 : Option sm_V} {Z : Nat → Nat → Int} {Rf : Nat → Nat → Option Nat} {K : Nat → Nat × Nat} {n z : Nat} {Q : Option sm_V → sm_S → Prop} : sm_wp d 79 10 [l0, l1, l2, l3, l4, l5, l6, l7, l8, l9] [] (Z, Rf, K, n, z) Q = (Q none (Z, Rf, K, n, z)) := w_vret t79_10
set_option maxRecDepth 10000 in
theorem b79_11 {d : Nat} {l0 : Option sm_V} {l1 : Option sm_V} {l2 : Option sm_V} {l3 : Option sm_V} {l4 : Option sm_V} {l5 : Option sm_V} {l6 : Option sm_V} {l7 : Option sm_V} {l8 : Option sm_V} {l9 : Option sm_V} {Z : Nat → Nat → Int} {Rf : Nat → Nat → Option Nat} {K : Nat → Nat × Nat} {n z : Nat} {Q : Option sm_V → sm_S → Prop} : sm_wp d 79 11 [l0, l1, l2, l3, l4, l5, l6, l7, l8, l9] [] (Z, Rf, K, n, z) Q = (sm_wp d 79 17 [l0, l1, l2, l3, l4, l5, some (.inl ((-1))), some (.inl 0), l8, l9] [] (Z, Rf, K, n, z) Q) := (w_iconst t79_11 rfl).trans ((w_istore t79_12 rfl (Nat.le_of_ble_eq_true rfl) rfl).trans ((w_iconst t79_14 rfl).trans (w_istore t79_15 rfl (Nat.le_of_ble_eq_true rfl) rfl)))
set_option maxRecDepth 10000 in
theorem b79_17 {d : Nat} {l0 : Option sm_V} {l1 : Option sm_V} {l2 : Option sm_V} {l3 : Option sm_V} {l4 : Option sm_V} {l5 : Option sm_V} {l6 : Option sm_V} {x7 : Int} {l8 : Option sm_V} {l9 : Option sm_V} {Z : Nat → Nat → Int} {Rf : Nat → Nat → Option Nat} {K : Nat → Nat × Nat} {n z : Nat} {Q : Option sm_V → sm_S → Prop} : sm_wp d 79 17 [l0, l1, l2, l3, l4, l5, l6, some (.inl x7), l8, l9] [] (Z, Rf, K, n, z) Q = (if (4 : Int) ≤ wr x7 then sm_wp d 79 88 [l0, l1, l2, l3, l4, l5, l6, some (.inl x7), l8, l9] [] (Z, Rf, K, n, z) Q else sm_wp d 79 23 [l0, l1, l2, l3, l4, l5, l6, some (.inl x7), l8, l9] [] (Z, Rf, K, n, z) Q) := (w_iload t79_17 rfl rfl).trans ((w_iconst t79_19 rfl).trans (w_icge t79_20 rfl wl_4 rfl rfl))
set_option maxRecDepth 10000 in
theorem b79_23 {d : Nat} {l0 : Option sm_V} {r1 : Nat} {l2 : Option sm_V} {x3 : Int} {x4 : Int} {l5 : Option sm_V} {l6 : Option sm_V} {x7 : Int} {l8 : Option sm_V} {l9 : Option sm_V} {Z : Nat → Nat → Int} {Rf : Nat → Nat → Option Nat} {K : Nat → Nat × Nat} {n z : Nat} {Q : Option sm_V → sm_S → Prop} : sm_wp (d + 1) 79 23 [l0, some (.inr (some r1)), l2, some (.inl x3), some (.inl x4), l5, l6, some (.inl x7), l8, l9] [] (Z, Rf, K, n, z) Q = ((K r1).1 = 1 ∧ sm_call d 11 [.inr (some r1), .inl x3, .inl x4, .inl x7] (Z, Rf, K, n, z) (sm_cont (d + 1) 79 32 [l0, some (.inr (some r1)), l2, some (.inl x3), some (.inl x4), l5, l6, some (.inl x7), l8, l9] [] Q)) := (w_aload_n t79_23 rfl rfl).trans ((w_iload_n t79_24 rfl rfl).trans ((w_iload t79_25 rfl rfl).trans ((w_iload t79_27 rfl rfl).trans (w_callV t79_29 rfl rfl rfl rfl (Nat.le_of_ble_eq_true rfl) (Nat.le_of_ble_eq_true rfl) rfl (by decide)))))
set_option maxRecDepth 10000 in
theorem b79_32 {d : Nat} {l0 : Option sm_V} {l1 : Option sm_V} {l2 : Option sm_V} {l3 : Option sm_V} {l4 : Option sm_V} {l5 : Option sm_V} {l6 : Option sm_V} {l7 : Option sm_V} {l8 : Option sm_V} {l9 : Option sm_V} {s0 : Int} {Z : Nat → Nat → Int} {Rf : Nat → Nat → Option Nat} {K : Nat → Nat × Nat} {n z : Nat} {Q : Option sm_V → sm_S → Prop} : sm_wp d 79 32 [l0, l1, l2, l3, l4, l5, l6, l7, l8, l9] [.inl s0] (Z, Rf, K, n, z) Q = (if wr s0 = (-1 : Int) then sm_wp d 79 40 [l0, l1, l2, l3, l4, l5, l6, l7, some (.inl s0), l9] [] (Z, Rf, K, n, z) Q else sm_wp d 79 44 [l0, l1, l2, l3, l4, l5, l6, l7, some (.inl s0), l9] [] (Z, Rf, K, n, z) Q) := (w_istore t79_32 rfl (Nat.le_of_ble_eq_true rfl) rfl).trans ((w_iload t79_34 rfl rfl).trans ((w_iconst t79_36 rfl).trans (w_icne t79_37 rfl wl_m1 rfl rfl)))
set_option maxRecDepth 10000 in
theorem b79_40 {d : Nat} {l0 : Option sm_V} {l1 : Option sm_V} {l2 : Option sm_V} {l3 : Option sm_V} {l4 : Option sm_V} {l5 : Option sm_V} {l6 : Option sm_V} {l7 : Option sm_V} {l8 : Option sm_V} {l9 : Option sm_V} {Z : Nat → Nat → Int} {Rf : Nat → Nat → Option Nat} {K : Nat → Nat × Nat} {n z : Nat} {Q : Option sm_V → sm_S → Prop} : sm_wp d 79 40 [l0, l1, l2, l3, l4, l5, l6, l7, l8, l9] [] (Z, Rf, K, n, z) Q = (sm_wp d 79 51 [l0, l1, l2, l3, l4, l5, l6, l7, l8, l9] [.inl ((-1))] (Z, Rf, K, n, z) Q) := (w_iconst t79_40 rfl).trans (w_goto t79_41 rfl)
set_option maxRecDepth 10000 in
theorem b79_44 {d : Nat} {r0 : Nat} {l1 : Option sm_V} {l2 : Option sm_V} {l3 : Option sm_V} {l4 : Option sm_V} {l5 : Option sm_V} {l6 : Option sm_V} {l7 : Option sm_V} {x8 : Int} {l9 : Option sm_V} {Z : Nat → Nat → Int} {Rf : Nat → Nat → Option Nat} {K : Nat → Nat × Nat} {n z : Nat} {Q : Option sm_V → sm_S → Prop} : sm_wp d 79 44 [some (.inr (some r0)), l1, l2, l3, l4, l5, l6, l7, some (.inl x8), l9] [] (Z, Rf, K, n, z) Q = ((K r0).1 = 9 ∧ (Rf r0 0).isSome = true ∧ sm_rd (K (((Rf r0 0).getD 0))) (wr x8) ∧ sm_wp d 79 51 [some (.inr (some r0)), l1, l2, l3, l4, l5, l6, l7, some (.inl x8), l9] [.inl (Z (((Rf r0 0).getD 0)) ((wr x8).toNat))] (Z, Rf, K, n, z) Q) := (w_aload_n t79_44 rfl rfl).trans ((w_getR t79_45 rfl (by decide)).trans (congrArg (And _) (congrArg (And _) ((w_iload t79_48 rfl rfl).trans ((w_iald t79_50 rfl rfl).trans (congrArg (And _) rfl))))))
set_option maxRecDepth 10000 in
theorem b79_51 {d : Nat} {l0 : Option sm_V} {l1 : Option sm_V} {l2 : Option sm_V} {l3 : Option sm_V} {l4 : Option sm_V} {l5 : Option sm_V} {l6 : Option sm_V} {l7 : Option sm_V} {l8 : Option sm_V} {l9 : Option sm_V} {s0 : Int} {Z : Nat → Nat → Int} {Rf : Nat → Nat → Option Nat} {K : Nat → Nat × Nat} {n z : Nat} {Q : Option sm_V → sm_S → Prop} : sm_wp d 79 51 [l0, l1, l2, l3, l4, l5, l6, l7, l8, l9] [.inl s0] (Z, Rf, K, n, z) Q = (if wr s0 = (-1 : Int) then sm_wp d 79 82 [l0, l1, l2, l3, l4, l5, l6, l7, l8, some (.inl s0)] [] (Z, Rf, K, n, z) Q else sm_wp d 79 59 [l0, l1, l2, l3, l4, l5, l6, l7, l8, some (.inl s0)] [] (Z, Rf, K, n, z) Q) := (w_istore t79_51 rfl (Nat.le_of_ble_eq_true rfl) rfl).trans ((w_iload t79_53 rfl rfl).trans ((w_iconst t79_55 rfl).trans (w_iceq t79_56 rfl wl_m1 rfl rfl)))
set_option maxRecDepth 10000 in
theorem b79_59 {d : Nat} {l0 : Option sm_V} {l1 : Option sm_V} {x2 : Int} {l3 : Option sm_V} {l4 : Option sm_V} {l5 : Option sm_V} {l6 : Option sm_V} {l7 : Option sm_V} {l8 : Option sm_V} {x9 : Int} {Z : Nat → Nat → Int} {Rf : Nat → Nat → Option Nat} {K : Nat → Nat × Nat} {n z : Nat} {Q : Option sm_V → sm_S → Prop} : sm_wp d 79 59 [l0, l1, some (.inl x2), l3, l4, l5, l6, l7, l8, some (.inl x9)] [] (Z, Rf, K, n, z) Q = (if wr x9 = wr x2 then sm_wp d 79 82 [l0, l1, some (.inl x2), l3, l4, l5, l6, l7, l8, some (.inl x9)] [] (Z, Rf, K, n, z) Q else sm_wp d 79 65 [l0, l1, some (.inl x2), l3, l4, l5, l6, l7, l8, some (.inl x9)] [] (Z, Rf, K, n, z) Q) := (w_iload t79_59 rfl rfl).trans ((w_iload_n t79_61 rfl rfl).trans (w_iceq t79_62 rfl rfl rfl rfl))
set_option maxRecDepth 10000 in
theorem b79_65 {d : Nat} {l0 : Option sm_V} {l1 : Option sm_V} {l2 : Option sm_V} {l3 : Option sm_V} {l4 : Option sm_V} {l5 : Option sm_V} {x6 : Int} {l7 : Option sm_V} {l8 : Option sm_V} {l9 : Option sm_V} {Z : Nat → Nat → Int} {Rf : Nat → Nat → Option Nat} {K : Nat → Nat × Nat} {n z : Nat} {Q : Option sm_V → sm_S → Prop} : sm_wp d 79 65 [l0, l1, l2, l3, l4, l5, some (.inl x6), l7, l8, l9] [] (Z, Rf, K, n, z) Q = (if wr x6 = (-1 : Int) then sm_wp d 79 78 [l0, l1, l2, l3, l4, l5, some (.inl x6), l7, l8, l9] [] (Z, Rf, K, n, z) Q else sm_wp d 79 71 [l0, l1, l2, l3, l4, l5, some (.inl x6), l7, l8, l9] [] (Z, Rf, K, n, z) Q) := (w_iload t79_65 rfl rfl).trans ((w_iconst t79_67 rfl).trans (w_iceq t79_68 rfl wl_m1 rfl rfl))
set_option maxRecDepth 10000 in
theorem b79_71 {d : Nat} {l0 : Option sm_V} {l1 : Option sm_V} {l2 : Option sm_V} {l3 : Option sm_V} {l4 : Option sm_V} {l5 : Option sm_V} {x6 : Int} {l7 : Option sm_V} {l8 : Option sm_V} {x9 : Int} {Z : Nat → Nat → Int} {Rf : Nat → Nat → Option Nat} {K : Nat → Nat × Nat} {n z : Nat} {Q : Option sm_V → sm_S → Prop} : sm_wp d 79 71 [l0, l1, l2, l3, l4, l5, some (.inl x6), l7, l8, some (.inl x9)] [] (Z, Rf, K, n, z) Q = (if wr x6 ≤ wr x9 then sm_wp d 79 82 [l0, l1, l2, l3, l4, l5, some (.inl x6), l7, l8, some (.inl x9)] [] (Z, Rf, K, n, z) Q else sm_wp d 79 78 [l0, l1, l2, l3, l4, l5, some (.inl x6), l7, l8, some (.inl x9)] [] (Z, Rf, K, n, z) Q) := (w_iload t79_71 rfl rfl).trans ((w_iload t79_73 rfl rfl).trans (w_icge t79_75 rfl rfl rfl rfl))
set_option maxRecDepth 10000 in
theorem b79_78 {d : Nat} {l0 : Option sm_V} {l1 : Option sm_V} {l2 : Option sm_V} {l3 : Option sm_V} {l4 : Option sm_V} {l5 : Option sm_V} {l6 : Option sm_V} {l7 : Option sm_V} {l8 : Option sm_V} {x9 : Int} {Z : Nat → Nat → Int} {Rf : Nat → Nat → Option Nat} {K : Nat → Nat × Nat} {n z : Nat} {Q : Option sm_V → sm_S → Prop} : sm_wp d 79 78 [l0, l1, l2, l3, l4, l5, l6, l7, l8, some (.inl x9)] [] (Z, Rf, K, n, z) Q = (sm_wp d 79 82 [l0, l1, l2, l3, l4, l5, some (.inl x9), l7, l8, some (.inl x9)] [] (Z, Rf, K, n, z) Q) := (w_iload t79_78 rfl rfl).trans (w_istore t79_80 rfl (Nat.le_of_ble_eq_true rfl) rfl)
set_option maxRecDepth 10000 in
theorem b79_82 {d : Nat} {l0 : Option sm_V} {l1 : Option sm_V} {l2 : Option sm_V} {l3 : Option sm_V} {l4 : Option sm_V} {l5 : Option sm_V} {l6 : Option sm_V} {x7 : Int} {l8 : Option sm_V} {l9 : Option sm_V} {Z : Nat → Nat → Int} {Rf : Nat → Nat → Option Nat} {K : Nat → Nat × Nat} {n z : Nat} {Q : Option sm_V → sm_S → Prop} : sm_wp d 79 82 [l0, l1, l2, l3, l4, l5, l6, some (.inl x7), l8, l9] [] (Z, Rf, K, n, z) Q = (sm_wp d 79 17 [l0, l1, l2, l3, l4, l5, l6, some (.inl (x7 + 1)), l8, l9] [] (Z, Rf, K, n, z) Q) := (w_iinc t79_82 rfl rfl (Nat.le_of_ble_eq_true rfl) rfl).trans (w_goto t79_85 rfl)
set_option maxRecDepth 10000 in
theorem b79_88 {d : Nat} {l0 : Option sm_V} {l1 : Option sm_V} {l2 : Option sm_V} {l3 : Option sm_V} {l4 : Option sm_V} {l5 : Option sm_V} {x6 : Int} {l7 : Option sm_V} {l8 : Option sm_V} {l9 : Option sm_V} {Z : Nat → Nat → Int} {Rf : Nat → Nat → Option Nat} {K : Nat → Nat × Nat} {n z : Nat} {Q : Option sm_V → sm_S → Prop} : sm_wp d 79 88 [l0, l1, l2, l3, l4, l5, some (.inl x6), l7, l8, l9] [] (Z, Rf, K, n, z) Q = (if wr x6 = (-1 : Int) then sm_wp d 79 110 [l0, l1, l2, l3, l4, l5, some (.inl x6), l7, l8, l9] [] (Z, Rf, K, n, z) Q else sm_wp d 79 94 [l0, l1, l2, l3, l4, l5, some (.inl x6), l7, l8, l9] [] (Z, Rf, K, n, z) Q) := (w_iload t79_88 rfl rfl).trans ((w_iconst t79_90 rfl).trans (w_iceq t79_91 rfl wl_m1 rfl rfl))
set_option maxRecDepth 10000 in
theorem b79_94 {d : Nat} {r0 : Nat} {l1 : Option sm_V} {x2 : Int} {x3 : Int} {x4 : Int} {x5 : Int} {x6 : Int} {l7 : Option sm_V} {l8 : Option sm_V} {l9 : Option sm_V} {Z : Nat → Nat → Int} {Rf : Nat → Nat → Option Nat} {K : Nat → Nat × Nat} {n z : Nat} {Q : Option sm_V → sm_S → Prop} : sm_wp (d + 1) 79 94 [some (.inr (some r0)), l1, some (.inl x2), some (.inl x3), some (.inl x4), some (.inl x5), some (.inl x6), l7, l8, l9] [] (Z, Rf, K, n, z) Q = ((K r0).1 = 9 ∧ (Rf r0 2).isSome = true ∧ (K (((Rf r0 2).getD 0))).1 = 5 ∧ sm_call d 52 [.inr (some ((Rf r0 2).getD 0)), .inl x2, .inl x6, .inl x3, .inl x4, .inl x5] (Z, Rf, K, n, z) (sm_cont (d + 1) 79 109 [some (.inr (some r0)), l1, some (.inl x2), some (.inl x3), some (.inl x4), some (.inl x5), some (.inl x6), l7, l8, l9] [] Q)) := (w_aload_n t79_94 rfl rfl).trans ((w_getR t79_95 rfl (by decide)).trans (congrArg (And _) (congrArg (And _) ((w_iload_n t79_98 rfl rfl).trans ((w_iload t79_99 rfl rfl).trans ((w_iload_n t79_101 rfl rfl).trans ((w_iload t79_102 rfl rfl).trans ((w_iload t79_104 rfl rfl).trans (w_callV t79_106 rfl rfl rfl rfl (Nat.le_of_ble_eq_true rfl) (Nat.le_of_ble_eq_true rfl) rfl (by decide))))))))))
set_option maxRecDepth 10000 in
theorem b79_109 {d : Nat} {l0 : Option sm_V} {l1 : Option sm_V} {l2 : Option sm_V} {l3 : Option sm_V} {l4 : Option sm_V} {l5 : Option sm_V} {l6 : Option sm_V} {l7 : Option sm_V} {l8 : Option sm_V} {l9 : Option sm_V} {s0 : Int} {Z : Nat → Nat → Int} {Rf : Nat → Nat → Option Nat} {K : Nat → Nat × Nat} {n z : Nat} {Q : Option sm_V → sm_S → Prop} : sm_wp d 79 109 [l0, l1, l2, l3, l4, l5, l6, l7, l8, l9] [.inl s0] (Z, Rf, K, n, z) Q = (sm_wp d 79 110 [l0, l1, l2, l3, l4, l5, l6, l7, l8, l9] [] (Z, Rf, K, n, z) Q) := w_pop t79_109 rfl
set_option maxRecDepth 10000 in
theorem b79_110 {d : Nat} {l0 : Option sm_V} {l1 : Option sm_V} {l2 : Option sm_V} {l3 : Option sm_V} {l4 : Option sm_V} {l5 : Option sm_V} {l6 : Option sm_V} {l7 : Option sm_V} {l8 : Option sm_V} {l9 : Option sm_V} {Z : Nat → Nat → Int} {Rf : Nat → Nat → Option Nat} {K : Nat → Nat × Nat} {n z : Nat} {Q : Option sm_V → sm_S → Prop} : sm_wp d 79 110 [l0, l1, l2, l3, l4, l5, l6, l7, l8, l9] [] (Z, Rf, K, n, z) Q = (Q none (Z, Rf, K, n, z)) := w_vret t79_110
theorem t80_0 : sm_at 80 0 = some (1, .iconst 0, 0, 0, 0) := rfl
theorem t80_1 : sm_at 80 1 = some (2, .istore 4, 0, 0, 0) := rfl
theorem t80_3 : sm_at 80 3 = some (1, .iconst 0, 0, 0, 0) := rfl
theorem t80_4 : sm_at 80 4 = some (2, .istore 5, 0, 0, 0) := rfl
theorem t80_6 : sm_at 80 6 = some (2, .iload 5, 0, 0, 0) := rfl
theorem t80_8 : sm_at 80 8 = some (3, .sipush 242, 0, 0, 0) := rfl
theorem t80_11 : sm_at 80 11 = some (3, .if_icmp .ge 61, 0, 0, 0) := rfl
theorem t80_14 : sm_at 80 14 = some (1, .aload_n 0, 0, 0, 0) := rfl
theorem t80_15 : sm_at 80 15 = some (3, .getfield 9, 9, 0, 0) := rfl
theorem t80_18 : sm_at 80 18 = some (2, .iload 5, 0, 0, 0) := rfl
theorem t80_20 : sm_at 80 20 = some (1, .iaload, 0, 0, 0) := rfl
theorem t80_21 : sm_at 80 21 = some (1, .iload_n 1, 0, 0, 0) := rfl
theorem t80_22 : sm_at 80 22 = some (3, .if_icmp .ne 44, 0, 0, 0) := rfl
theorem t80_25 : sm_at 80 25 = some (1, .aload_n 0, 0, 0, 0) := rfl
theorem t80_26 : sm_at 80 26 = some (3, .getfield 15, 9, 1, 0) := rfl
theorem t80_29 : sm_at 80 29 = some (2, .iload 5, 0, 0, 0) := rfl
theorem t80_31 : sm_at 80 31 = some (1, .iaload, 0, 0, 0) := rfl
theorem t80_32 : sm_at 80 32 = some (1, .iload_n 2, 0, 0, 0) := rfl
theorem t80_33 : sm_at 80 33 = some (3, .if_icmp .lt 33, 0, 0, 0) := rfl
theorem t80_36 : sm_at 80 36 = some (1, .aload_n 0, 0, 0, 0) := rfl
theorem t80_37 : sm_at 80 37 = some (3, .getfield 15, 9, 1, 0) := rfl
theorem t80_40 : sm_at 80 40 = some (2, .iload 5, 0, 0, 0) := rfl
theorem t80_42 : sm_at 80 42 = some (1, .iaload, 0, 0, 0) := rfl
theorem t80_43 : sm_at 80 43 = some (1, .iload_n 3, 0, 0, 0) := rfl
theorem t80_44 : sm_at 80 44 = some (3, .if_icmp .gt 22, 0, 0, 0) := rfl
theorem t80_47 : sm_at 80 47 = some (1, .aload_n 0, 0, 0, 0) := rfl
theorem t80_48 : sm_at 80 48 = some (3, .getfield 9, 9, 0, 0) := rfl
theorem t80_51 : sm_at 80 51 = some (2, .iload 5, 0, 0, 0) := rfl
theorem t80_53 : sm_at 80 53 = some (1, .iconst (-1), 0, 0, 0) := rfl
theorem t80_54 : sm_at 80 54 = some (1, .iastore, 0, 0, 0) := rfl
theorem t80_55 : sm_at 80 55 = some (1, .aload_n 0, 0, 0, 0) := rfl
theorem t80_56 : sm_at 80 56 = some (3, .getfield 15, 9, 1, 0) := rfl
theorem t80_59 : sm_at 80 59 = some (2, .iload 5, 0, 0, 0) := rfl
theorem t80_61 : sm_at 80 61 = some (1, .iconst (-1), 0, 0, 0) := rfl
theorem t80_62 : sm_at 80 62 = some (1, .iastore, 0, 0, 0) := rfl
theorem t80_63 : sm_at 80 63 = some (3, .iinc 4 1, 0, 0, 0) := rfl
theorem t80_66 : sm_at 80 66 = some (3, .iinc 5 1, 0, 0, 0) := rfl
theorem t80_69 : sm_at 80 69 = some (3, .goto (-63), 0, 0, 0) := rfl
theorem t80_72 : sm_at 80 72 = some (2, .iload 4, 0, 0, 0) := rfl
theorem t80_74 : sm_at 80 74 = some (1, .ireturn, 0, 0, 0) := rfl
set_option maxRecDepth 10000 in
theorem b80_0 {d : Nat} {l0 : Option sm_V} {l1 : Option sm_V} {l2 : Option sm_V} {l3 : Option sm_V} {l4 : Option sm_V} {l5 : Option sm_V} {Z : Nat → Nat → Int} {Rf : Nat → Nat → Option Nat} {K : Nat → Nat × Nat} {n z : Nat} {Q : Option sm_V → sm_S → Prop} : sm_wp d 80 0 [l0, l1, l2, l3, l4, l5] [] (Z, Rf, K, n, z) Q = (sm_wp d 80 6 [l0, l1, l2, l3, some (.inl 0), some (.inl 0)] [] (Z, Rf, K, n, z) Q) := (w_iconst t80_0 rfl).trans ((w_istore t80_1 rfl (Nat.le_of_ble_eq_true rfl) rfl).trans ((w_iconst t80_3 rfl).trans (w_istore t80_4 rfl (Nat.le_of_ble_eq_true rfl) rfl)))
set_option maxRecDepth 10000 in
theorem b80_6 {d : Nat} {l0 : Option sm_V} {l1 : Option sm_V} {l2 : Option sm_V} {l3 : Option sm_V} {l4 : Option sm_V} {x5 : Int} {Z : Nat → Nat → Int} {Rf : Nat → Nat → Option Nat} {K : Nat → Nat × Nat} {n z : Nat} {Q : Option sm_V → sm_S → Prop} : sm_wp d 80 6 [l0, l1, l2, l3, l4, some (.inl x5)] [] (Z, Rf, K, n, z) Q = (if (242 : Int) ≤ wr x5 then sm_wp d 80 72 [l0, l1, l2, l3, l4, some (.inl x5)] [] (Z, Rf, K, n, z) Q else sm_wp d 80 14 [l0, l1, l2, l3, l4, some (.inl x5)] [] (Z, Rf, K, n, z) Q) := (w_iload t80_6 rfl rfl).trans ((w_sipush t80_8 rfl).trans (w_icge t80_11 rfl wl_242 rfl rfl))
set_option maxRecDepth 10000 in
theorem b80_14 {d : Nat} {r0 : Nat} {x1 : Int} {l2 : Option sm_V} {l3 : Option sm_V} {l4 : Option sm_V} {x5 : Int} {Z : Nat → Nat → Int} {Rf : Nat → Nat → Option Nat} {K : Nat → Nat × Nat} {n z : Nat} {Q : Option sm_V → sm_S → Prop} : sm_wp d 80 14 [some (.inr (some r0)), some (.inl x1), l2, l3, l4, some (.inl x5)] [] (Z, Rf, K, n, z) Q = ((K r0).1 = 9 ∧ (Rf r0 0).isSome = true ∧ sm_rd (K (((Rf r0 0).getD 0))) (wr x5) ∧ (if wr (Z (((Rf r0 0).getD 0)) ((wr x5).toNat)) = wr x1 then sm_wp d 80 25 [some (.inr (some r0)), some (.inl x1), l2, l3, l4, some (.inl x5)] [] (Z, Rf, K, n, z) Q else sm_wp d 80 66 [some (.inr (some r0)), some (.inl x1), l2, l3, l4, some (.inl x5)] [] (Z, Rf, K, n, z) Q)) := (w_aload_n t80_14 rfl rfl).trans ((w_getR t80_15 rfl (by decide)).trans (congrArg (And _) (congrArg (And _) ((w_iload t80_18 rfl rfl).trans ((w_iald t80_20 rfl rfl).trans (congrArg (And _) ((w_iload_n t80_21 rfl rfl).trans (w_icne t80_22 rfl rfl rfl rfl))))))))
set_option maxRecDepth 10000 in
theorem b80_25 {d : Nat} {r0 : Nat} {l1 : Option sm_V} {x2 : Int} {l3 : Option sm_V} {l4 : Option sm_V} {x5 : Int} {Z : Nat → Nat → Int} {Rf : Nat → Nat → Option Nat} {K : Nat → Nat × Nat} {n z : Nat} {Q : Option sm_V → sm_S → Prop} : sm_wp d 80 25 [some (.inr (some r0)), l1, some (.inl x2), l3, l4, some (.inl x5)] [] (Z, Rf, K, n, z) Q = ((K r0).1 = 9 ∧ (Rf r0 1).isSome = true ∧ sm_rd (K (((Rf r0 1).getD 0))) (wr x5) ∧ (if wr (Z (((Rf r0 1).getD 0)) ((wr x5).toNat)) < wr x2 then sm_wp d 80 66 [some (.inr (some r0)), l1, some (.inl x2), l3, l4, some (.inl x5)] [] (Z, Rf, K, n, z) Q else sm_wp d 80 36 [some (.inr (some r0)), l1, some (.inl x2), l3, l4, some (.inl x5)] [] (Z, Rf, K, n, z) Q)) := (w_aload_n t80_25 rfl rfl).trans ((w_getR t80_26 rfl (by decide)).trans (congrArg (And _) (congrArg (And _) ((w_iload t80_29 rfl rfl).trans ((w_iald t80_31 rfl rfl).trans (congrArg (And _) ((w_iload_n t80_32 rfl rfl).trans (w_iclt t80_33 rfl rfl rfl rfl))))))))
set_option maxRecDepth 10000 in
theorem b80_36 {d : Nat} {r0 : Nat} {l1 : Option sm_V} {l2 : Option sm_V} {x3 : Int} {l4 : Option sm_V} {x5 : Int} {Z : Nat → Nat → Int} {Rf : Nat → Nat → Option Nat} {K : Nat → Nat × Nat} {n z : Nat} {Q : Option sm_V → sm_S → Prop} : sm_wp d 80 36 [some (.inr (some r0)), l1, l2, some (.inl x3), l4, some (.inl x5)] [] (Z, Rf, K, n, z) Q = ((K r0).1 = 9 ∧ (Rf r0 1).isSome = true ∧ sm_rd (K (((Rf r0 1).getD 0))) (wr x5) ∧ (if wr x3 < wr (Z (((Rf r0 1).getD 0)) ((wr x5).toNat)) then sm_wp d 80 66 [some (.inr (some r0)), l1, l2, some (.inl x3), l4, some (.inl x5)] [] (Z, Rf, K, n, z) Q else sm_wp d 80 47 [some (.inr (some r0)), l1, l2, some (.inl x3), l4, some (.inl x5)] [] (Z, Rf, K, n, z) Q)) := (w_aload_n t80_36 rfl rfl).trans ((w_getR t80_37 rfl (by decide)).trans (congrArg (And _) (congrArg (And _) ((w_iload t80_40 rfl rfl).trans ((w_iald t80_42 rfl rfl).trans (congrArg (And _) ((w_iload_n t80_43 rfl rfl).trans (w_icgt t80_44 rfl rfl rfl rfl))))))))
set_option maxRecDepth 10000 in
theorem b80_47 {d : Nat} {r0 : Nat} {l1 : Option sm_V} {l2 : Option sm_V} {l3 : Option sm_V} {x4 : Int} {x5 : Int} {Z : Nat → Nat → Int} {Rf : Nat → Nat → Option Nat} {K : Nat → Nat × Nat} {n z : Nat} {Q : Option sm_V → sm_S → Prop} : sm_wp d 80 47 [some (.inr (some r0)), l1, l2, l3, some (.inl x4), some (.inl x5)] [] (Z, Rf, K, n, z) Q = ((K r0).1 = 9 ∧ (Rf r0 0).isSome = true ∧ sm_wt (K (((Rf r0 0).getD 0))) (wr x5) ∧ (K r0).1 = 9 ∧ (Rf r0 1).isSome = true ∧ sm_wt (K (((Rf r0 1).getD 0))) (wr x5) ∧ sm_wp d 80 66 [some (.inr (some r0)), l1, l2, l3, some (.inl (x4 + 1)), some (.inl x5)] [] (sm_u (sm_u Z (((Rf r0 0).getD 0)) ((wr x5).toNat) ((-1))) (((Rf r0 1).getD 0)) ((wr x5).toNat) ((-1)), Rf, K, n, z) Q) := (w_aload_n t80_47 rfl rfl).trans ((w_getR t80_48 rfl (by decide)).trans (congrArg (And _) (congrArg (And _) ((w_iload t80_51 rfl rfl).trans ((w_iconst t80_53 rfl).trans ((w_iast t80_54 rfl rfl).trans (congrArg (And _) ((w_aload_n t80_55 rfl rfl).trans ((w_getR t80_56 rfl (by decide)).trans (congrArg (And _) (congrArg (And _) ((w_iload t80_59 rfl rfl).trans ((w_iconst t80_61 rfl).trans ((w_iast t80_62 rfl rfl).trans (congrArg (And _) (w_iinc t80_63 rfl rfl (Nat.le_of_ble_eq_true rfl) rfl))))))))))))))))
set_option maxRecDepth 10000 in
theorem b80_66 {d : Nat} {l0 : Option sm_V} {l1 : Option sm_V} {l2 : Option sm_V} {l3 : Option sm_V} {l4 : Option sm_V} {x5 : Int} {Z : Nat → Nat → Int} {Rf : Nat → Nat → Option Nat} {K : Nat → Nat × Nat} {n z : Nat} {Q : Option sm_V → sm_S → Prop} : sm_wp d 80 66 [l0, l1, l2, l3, l4, some (.inl x5)] [] (Z, Rf, K, n, z) Q = (sm_wp d 80 6 [l0, l1, l2, l3, l4, some (.inl (x5 + 1))] [] (Z, Rf, K, n, z) Q) := (w_iinc t80_66 rfl rfl (Nat.le_of_ble_eq_true rfl) rfl).trans (w_goto t80_69 rfl)
set_option maxRecDepth 10000 in
theorem b80_72 {d : Nat} {l0 : Option sm_V} {l1 : Option sm_V} {l2 : Option sm_V} {l3 : Option sm_V} {x4 : Int} {l5 : Option sm_V} {Z : Nat → Nat → Int} {Rf : Nat → Nat → Option Nat} {K : Nat → Nat × Nat} {n z : Nat} {Q : Option sm_V → sm_S → Prop} : sm_wp d 80 72 [l0, l1, l2, l3, some (.inl x4), l5] [] (Z, Rf, K, n, z) Q = (Q (some (.inl x4)) (Z, Rf, K, n, z)) := (w_iload t80_72 rfl rfl).trans (w_iret t80_74)
theorem t81_0 : sm_at 81 0 = some (1, .iconst 0, 0, 0, 0) := rfl
theorem t81_1 : sm_at 81 1 = some (1, .istore_n 1, 0, 0, 0) := rfl
theorem t81_2 : sm_at 81 2 = some (1, .iconst 0, 0, 0, 0) := rfl
theorem t81_3 : sm_at 81 3 = some (1, .istore_n 2, 0, 0, 0) := rfl
theorem t81_4 : sm_at 81 4 = some (1, .iload_n 2, 0, 0, 0) := rfl
theorem t81_5 : sm_at 81 5 = some (3, .sipush 242, 0, 0, 0) := rfl
theorem t81_8 : sm_at 81 8 = some (3, .if_icmp .ge 22, 0, 0, 0) := rfl
theorem t81_11 : sm_at 81 11 = some (1, .aload_n 0, 0, 0, 0) := rfl
theorem t81_12 : sm_at 81 12 = some (3, .getfield 9, 9, 0, 0) := rfl
theorem t81_15 : sm_at 81 15 = some (1, .iload_n 2, 0, 0, 0) := rfl
theorem t81_16 : sm_at 81 16 = some (1, .iaload, 0, 0, 0) := rfl
theorem t81_17 : sm_at 81 17 = some (1, .iconst (-1), 0, 0, 0) := rfl
theorem t81_18 : sm_at 81 18 = some (3, .if_icmp .eq 6, 0, 0, 0) := rfl
theorem t81_21 : sm_at 81 21 = some (3, .iinc 1 1, 0, 0, 0) := rfl
theorem t81_24 : sm_at 81 24 = some (3, .iinc 2 1, 0, 0, 0) := rfl
theorem t81_27 : sm_at 81 27 = some (3, .goto (-23), 0, 0, 0) := rfl
theorem t81_30 : sm_at 81 30 = some (1, .iload_n 1, 0, 0, 0) := rfl
theorem t81_31 : sm_at 81 31 = some (1, .ireturn, 0, 0, 0) := rfl
set_option maxRecDepth 10000 in
theorem b81_0 {d : Nat} {l0 : Option sm_V} {l1 : Option sm_V} {l2 : Option sm_V} {Z : Nat → Nat → Int} {Rf : Nat → Nat → Option Nat} {K : Nat → Nat × Nat} {n z : Nat} {Q : Option sm_V → sm_S → Prop} : sm_wp d 81 0 [l0, l1, l2] [] (Z, Rf, K, n, z) Q = (sm_wp d 81 4 [l0, some (.inl 0), some (.inl 0)] [] (Z, Rf, K, n, z) Q) := (w_iconst t81_0 rfl).trans ((w_istore_n t81_1 rfl (Nat.le_of_ble_eq_true rfl) rfl).trans ((w_iconst t81_2 rfl).trans (w_istore_n t81_3 rfl (Nat.le_of_ble_eq_true rfl) rfl)))
set_option maxRecDepth 10000 in
theorem b81_4 {d : Nat} {l0 : Option sm_V} {l1 : Option sm_V} {x2 : Int} {Z : Nat → Nat → Int} {Rf : Nat → Nat → Option Nat} {K : Nat → Nat × Nat} {n z : Nat} {Q : Option sm_V → sm_S → Prop} : sm_wp d 81 4 [l0, l1, some (.inl x2)] [] (Z, Rf, K, n, z) Q = (if (242 : Int) ≤ wr x2 then sm_wp d 81 30 [l0, l1, some (.inl x2)] [] (Z, Rf, K, n, z) Q else sm_wp d 81 11 [l0, l1, some (.inl x2)] [] (Z, Rf, K, n, z) Q) := (w_iload_n t81_4 rfl rfl).trans ((w_sipush t81_5 rfl).trans (w_icge t81_8 rfl wl_242 rfl rfl))
set_option maxRecDepth 10000 in
theorem b81_11 {d : Nat} {r0 : Nat} {l1 : Option sm_V} {x2 : Int} {Z : Nat → Nat → Int} {Rf : Nat → Nat → Option Nat} {K : Nat → Nat × Nat} {n z : Nat} {Q : Option sm_V → sm_S → Prop} : sm_wp d 81 11 [some (.inr (some r0)), l1, some (.inl x2)] [] (Z, Rf, K, n, z) Q = ((K r0).1 = 9 ∧ (Rf r0 0).isSome = true ∧ sm_rd (K (((Rf r0 0).getD 0))) (wr x2) ∧ (if wr (Z (((Rf r0 0).getD 0)) ((wr x2).toNat)) = (-1 : Int) then sm_wp d 81 24 [some (.inr (some r0)), l1, some (.inl x2)] [] (Z, Rf, K, n, z) Q else sm_wp d 81 21 [some (.inr (some r0)), l1, some (.inl x2)] [] (Z, Rf, K, n, z) Q)) := (w_aload_n t81_11 rfl rfl).trans ((w_getR t81_12 rfl (by decide)).trans (congrArg (And _) (congrArg (And _) ((w_iload_n t81_15 rfl rfl).trans ((w_iald t81_16 rfl rfl).trans (congrArg (And _) ((w_iconst t81_17 rfl).trans (w_iceq t81_18 rfl wl_m1 rfl rfl))))))))
set_option maxRecDepth 10000 in
theorem b81_21 {d : Nat} {l0 : Option sm_V} {x1 : Int} {l2 : Option sm_V} {Z : Nat → Nat → Int} {Rf : Nat → Nat → Option Nat} {K : Nat → Nat × Nat} {n z : Nat} {Q : Option sm_V → sm_S → Prop} : sm_wp d 81 21 [l0, some (.inl x1), l2] [] (Z, Rf, K, n, z) Q = (sm_wp d 81 24 [l0, some (.inl (x1 + 1)), l2] [] (Z, Rf, K, n, z) Q) := w_iinc t81_21 rfl rfl (Nat.le_of_ble_eq_true rfl) rfl
set_option maxRecDepth 10000 in
theorem b81_24 {d : Nat} {l0 : Option sm_V} {l1 : Option sm_V} {x2 : Int} {Z : Nat → Nat → Int} {Rf : Nat → Nat → Option Nat} {K : Nat → Nat × Nat} {n z : Nat} {Q : Option sm_V → sm_S → Prop} : sm_wp d 81 24 [l0, l1, some (.inl x2)] [] (Z, Rf, K, n, z) Q = (sm_wp d 81 4 [l0, l1, some (.inl (x2 + 1))] [] (Z, Rf, K, n, z) Q) := (w_iinc t81_24 rfl rfl (Nat.le_of_ble_eq_true rfl) rfl).trans (w_goto t81_27 rfl)
set_option maxRecDepth 10000 in
theorem b81_30 {d : Nat} {l0 : Option sm_V} {x1 : Int} {l2 : Option sm_V} {Z : Nat → Nat → Int} {Rf : Nat → Nat → Option Nat} {K : Nat → Nat × Nat} {n z : Nat} {Q : Option sm_V → sm_S → Prop} : sm_wp d 81 30 [l0, some (.inl x1), l2] [] (Z, Rf, K, n, z) Q = (Q (some (.inl x1)) (Z, Rf, K, n, z)) := (w_iload_n t81_30 rfl rfl).trans (w_iret t81_31)
theorem t82_0 : sm_at 82 0 = some (1, .aload_n 0, 0, 0, 0) := rfl
theorem t82_1 : sm_at 82 1 = some (3, .invokespecial 1, 1001, 1, 0) := rfl
theorem t82_4 : sm_at 82 4 = some (1, .aload_n 0, 0, 0, 0) := rfl
theorem t82_5 : sm_at 82 5 = some (3, .new 7, 1, 0, 0) := rfl
theorem t82_8 : sm_at 82 8 = some (1, .dup, 0, 0, 0) := rfl
theorem t82_9 : sm_at 82 9 = some (3, .invokespecial 9, 5, 1, 0) := rfl
theorem t82_12 : sm_at 82 12 = some (3, .putfield 10, 10, 0, 0) := rfl
theorem t82_15 : sm_at 82 15 = some (1, .aload_n 0, 0, 0, 0) := rfl
theorem t82_16 : sm_at 82 16 = some (3, .new 7, 1, 0, 0) := rfl
theorem t82_19 : sm_at 82 19 = some (1, .dup, 0, 0, 0) := rfl
theorem t82_20 : sm_at 82 20 = some (3, .invokespecial 9, 5, 1, 0) := rfl
theorem t82_23 : sm_at 82 23 = some (3, .putfield 16, 10, 1, 0) := rfl
theorem t82_26 : sm_at 82 26 = some (1, .aload_n 0, 0, 0, 0) := rfl
theorem t82_27 : sm_at 82 27 = some (3, .new 19, 7, 0, 0) := rfl
theorem t82_30 : sm_at 82 30 = some (1, .dup, 0, 0, 0) := rfl
theorem t82_31 : sm_at 82 31 = some (3, .invokespecial 21, 59, 1, 0) := rfl
theorem t82_34 : sm_at 82 34 = some (3, .putfield 22, 10, 3, 0) := rfl
theorem t82_37 : sm_at 82 37 = some (1, .aload_n 0, 0, 0, 0) := rfl
theorem t82_38 : sm_at 82 38 = some (3, .new 26, 8, 0, 0) := rfl
theorem t82_41 : sm_at 82 41 = some (1, .dup, 0, 0, 0) := rfl
theorem t82_42 : sm_at 82 42 = some (3, .invokespecial 28, 64, 1, 0) := rfl
theorem t82_45 : sm_at 82 45 = some (3, .putfield 29, 10, 4, 0) := rfl
theorem t82_48 : sm_at 82 48 = some (1, .aload_n 0, 0, 0, 0) := rfl
theorem t82_49 : sm_at 82 49 = some (3, .new 33, 3, 0, 0) := rfl
theorem t82_52 : sm_at 82 52 = some (1, .dup, 0, 0, 0) := rfl
theorem t82_53 : sm_at 82 53 = some (3, .invokespecial 35, 24, 1, 0) := rfl
theorem t82_56 : sm_at 82 56 = some (3, .putfield 36, 10, 5, 0) := rfl
theorem t82_59 : sm_at 82 59 = some (1, .aload_n 0, 0, 0, 0) := rfl
theorem t82_60 : sm_at 82 60 = some (3, .new 40, 4, 0, 0) := rfl
theorem t82_63 : sm_at 82 63 = some (1, .dup, 0, 0, 0) := rfl
theorem t82_64 : sm_at 82 64 = some (3, .invokespecial 42, 29, 1, 0) := rfl
theorem t82_67 : sm_at 82 67 = some (3, .putfield 43, 10, 6, 0) := rfl
theorem t82_70 : sm_at 82 70 = some (1, .aload_n 0, 0, 0, 0) := rfl
theorem t82_71 : sm_at 82 71 = some (3, .sipush 400, 0, 0, 0) := rfl
theorem t82_74 : sm_at 82 74 = some (2, .newarray .int, 0, 0, 0) := rfl
theorem t82_76 : sm_at 82 76 = some (3, .putfield 47, 10, 7, 0) := rfl
theorem t82_79 : sm_at 82 79 = some (1, .aload_n 0, 0, 0, 0) := rfl
theorem t82_80 : sm_at 82 80 = some (2, .bipush 10, 0, 0, 0) := rfl
theorem t82_82 : sm_at 82 82 = some (2, .newarray .int, 0, 0, 0) := rfl
theorem t82_84 : sm_at 82 84 = some (3, .putfield 51, 10, 11, 0) := rfl
theorem t82_87 : sm_at 82 87 = some (1, .aload_n 0, 0, 0, 0) := rfl
theorem t82_88 : sm_at 82 88 = some (1, .iconst (-1), 0, 0, 0) := rfl
theorem t82_89 : sm_at 82 89 = some (3, .putfield 54, 10, 10, 0) := rfl
theorem t82_92 : sm_at 82 92 = some (1, .aload_n 0, 0, 0, 0) := rfl
theorem t82_93 : sm_at 82 93 = some (3, .getfield 10, 10, 0, 0) := rfl
theorem t82_96 : sm_at 82 96 = some (2, .bipush 6, 0, 0, 0) := rfl
theorem t82_98 : sm_at 82 98 = some (2, .bipush 6, 0, 0, 0) := rfl
theorem t82_100 : sm_at 82 100 = some (3, .invokevirtual 58, 6, 3, 0) := rfl
theorem t82_103 : sm_at 82 103 = some (1, .return_, 0, 0, 0) := rfl
set_option maxRecDepth 10000 in
theorem b82_0 {d : Nat} {r0 : Nat} {Z : Nat → Nat → Int} {Rf : Nat → Nat → Option Nat} {K : Nat → Nat × Nat} {n z : Nat} {Q : Option sm_V → sm_S → Prop} : sm_wp (d + 1) 82 0 [some (.inr (some r0))] [] (Z, Rf, K, n, z) Q = (n < 1000000 ∧ ((sm_k K n (1, 19)) n).1 = 1 ∧ sm_call d 5 [.inr (some n)] (sm_r Z n (fun _ => 0), sm_r Rf n (fun _ => none), sm_k K n (1, 19), n + 1, z + 19) (sm_cont (d + 1) 82 12 [some (.inr (some r0))] [.inr (some n), .inr (some r0)] Q)) := (w_aload_n t82_0 rfl rfl).trans ((w_oinit t82_1 rfl (Nat.le_of_ble_eq_true rfl)).trans ((w_aload_n t82_4 rfl rfl).trans ((w_new t82_5 rfl (by decide) rfl).trans (congrArg (And _) ((w_dup t82_8 rfl).trans (w_callV t82_9 rfl rfl rfl rfl (Nat.le_of_ble_eq_true rfl) (Nat.le_of_ble_eq_true rfl) rfl (by decide)))))))
set_option maxRecDepth 10000 in
theorem b82_12 {d : Nat} {q0 : Option Nat} {rs0 : Nat} {qs1 : Option Nat} {Z : Nat → Nat → Int} {Rf : Nat → Nat → Option Nat} {K : Nat → Nat × Nat} {n z : Nat} {Q : Option sm_V → sm_S → Prop} : sm_wp (d + 1) 82 12 [some (.inr q0)] [.inr qs1, .inr (some rs0)] (Z, Rf, K, n, z) Q = ((K rs0).1 = 10 ∧ n < 1000000 ∧ ((sm_k K n (1, 19)) n).1 = 1 ∧ sm_call d 5 [.inr (some n)] (sm_r Z n (fun _ => 0), sm_r (sm_u Rf rs0 0 qs1) n (fun _ => none), sm_k K n (1, 19), n + 1, z + 19) (sm_cont (d + 1) 82 23 [some (.inr q0)] [.inr (some n), .inr q0] Q)) := (w_putR t82_12 rfl (by decide)).trans (congrArg (And _) ((w_aload_n t82_15 rfl rfl).trans ((w_new t82_16 rfl (by decide) rfl).trans (congrArg (And _) ((w_dup t82_19 rfl).trans (w_callV t82_20 rfl rfl rfl rfl (Nat.le_of_ble_eq_true rfl) (Nat.le_of_ble_eq_true rfl) rfl (by decide)))))))
set_option maxRecDepth 10000 in
theorem b82_23 {d : Nat} {q0 : Option Nat} {rs0 : Nat} {qs1 : Option Nat} {Z : Nat → Nat → Int} {Rf : Nat → Nat → Option Nat} {K : Nat → Nat × Nat} {n z : Nat} {Q : Option sm_V → sm_S → Prop} : sm_wp (d + 1) 82 23 [some (.inr q0)] [.inr qs1, .inr (some rs0)] (Z, Rf, K, n, z) Q = ((K rs0).1 = 10 ∧ n < 1000000 ∧ ((sm_k K n (7, 8)) n).1 = 7 ∧ sm_call d 59 [.inr (some n)] (sm_r Z n (fun _ => 0), sm_r (sm_u Rf rs0 1 qs1) n (fun _ => none), sm_k K n (7, 8), n + 1, z + 8) (sm_cont (d + 1) 82 34 [some (.inr q0)] [.inr (some n), .inr q0] Q)) := (w_putR t82_23 rfl (by decide)).trans (congrArg (And _) ((w_aload_n t82_26 rfl rfl).trans ((w_new t82_27 rfl (by decide) rfl).trans (congrArg (And _) ((w_dup t82_30 rfl).trans (w_callV t82_31 rfl rfl rfl rfl (Nat.le_of_ble_eq_true rfl) (Nat.le_of_ble_eq_true rfl) rfl (by decide)))))))
set_option maxRecDepth 10000 in
theorem b82_34 {d : Nat} {q0 : Option Nat} {rs0 : Nat} {qs1 : Option Nat} {Z : Nat → Nat → Int} {Rf : Nat → Nat → Option Nat} {K : Nat → Nat × Nat} {n z : Nat} {Q : Option sm_V → sm_S → Prop} : sm_wp (d + 1) 82 34 [some (.inr q0)] [.inr qs1, .inr (some rs0)] (Z, Rf, K, n, z) Q = ((K rs0).1 = 10 ∧ n < 1000000 ∧ ((sm_k K n (8, 11)) n).1 = 8 ∧ sm_call d 64 [.inr (some n)] (sm_r Z n (fun _ => 0), sm_r (sm_u Rf rs0 3 qs1) n (fun _ => none), sm_k K n (8, 11), n + 1, z + 11) (sm_cont (d + 1) 82 45 [some (.inr q0)] [.inr (some n), .inr q0] Q)) := (w_putR t82_34 rfl (by decide)).trans (congrArg (And _) ((w_aload_n t82_37 rfl rfl).trans ((w_new t82_38 rfl (by decide) rfl).trans (congrArg (And _) ((w_dup t82_41 rfl).trans (w_callV t82_42 rfl rfl rfl rfl (Nat.le_of_ble_eq_true rfl) (Nat.le_of_ble_eq_true rfl) rfl (by decide)))))))
set_option maxRecDepth 10000 in
theorem b82_45 {d : Nat} {q0 : Option Nat} {rs0 : Nat} {qs1 : Option Nat} {Z : Nat → Nat → Int} {Rf : Nat → Nat → Option Nat} {K : Nat → Nat × Nat} {n z : Nat} {Q : Option sm_V → sm_S → Prop} : sm_wp (d + 1) 82 45 [some (.inr q0)] [.inr qs1, .inr (some rs0)] (Z, Rf, K, n, z) Q = ((K rs0).1 = 10 ∧ n < 1000000 ∧ ((sm_k K n (3, 3)) n).1 = 3 ∧ sm_call d 24 [.inr (some n)] (sm_r Z n (fun _ => 0), sm_r (sm_u Rf rs0 4 qs1) n (fun _ => none), sm_k K n (3, 3), n + 1, z + 3) (sm_cont (d + 1) 82 56 [some (.inr q0)] [.inr (some n), .inr q0] Q)) := (w_putR t82_45 rfl (by decide)).trans (congrArg (And _) ((w_aload_n t82_48 rfl rfl).trans ((w_new t82_49 rfl (by decide) rfl).trans (congrArg (And _) ((w_dup t82_52 rfl).trans (w_callV t82_53 rfl rfl rfl rfl (Nat.le_of_ble_eq_true rfl) (Nat.le_of_ble_eq_true rfl) rfl (by decide)))))))
set_option maxRecDepth 10000 in
theorem b82_56 {d : Nat} {q0 : Option Nat} {rs0 : Nat} {qs1 : Option Nat} {Z : Nat → Nat → Int} {Rf : Nat → Nat → Option Nat} {K : Nat → Nat × Nat} {n z : Nat} {Q : Option sm_V → sm_S → Prop} : sm_wp (d + 1) 82 56 [some (.inr q0)] [.inr qs1, .inr (some rs0)] (Z, Rf, K, n, z) Q = ((K rs0).1 = 10 ∧ n < 1000000 ∧ ((sm_k K n (4, 15)) n).1 = 4 ∧ sm_call d 29 [.inr (some n)] (sm_r Z n (fun _ => 0), sm_r (sm_u Rf rs0 5 qs1) n (fun _ => none), sm_k K n (4, 15), n + 1, z + 15) (sm_cont (d + 1) 82 67 [some (.inr q0)] [.inr (some n), .inr q0] Q)) := (w_putR t82_56 rfl (by decide)).trans (congrArg (And _) ((w_aload_n t82_59 rfl rfl).trans ((w_new t82_60 rfl (by decide) rfl).trans (congrArg (And _) ((w_dup t82_63 rfl).trans (w_callV t82_64 rfl rfl rfl rfl (Nat.le_of_ble_eq_true rfl) (Nat.le_of_ble_eq_true rfl) rfl (by decide)))))))
set_option maxRecDepth 10000 in
theorem b82_67 {d : Nat} {r0 : Nat} {rs0 : Nat} {qs1 : Option Nat} {Z : Nat → Nat → Int} {Rf : Nat → Nat → Option Nat} {K : Nat → Nat × Nat} {n z : Nat} {Q : Option sm_V → sm_S → Prop} : sm_wp (d + 1) 82 67 [some (.inr (some r0))] [.inr qs1, .inr (some rs0)] (Z, Rf, K, n, z) Q = ((K rs0).1 = 10 ∧ (n < 1000000 ∧ 0 ≤ (400 : Int) ∧ (400 : Int) ≤ 65536) ∧ ((sm_k K n (100, 400)) r0).1 = 10 ∧ (n + 1 < 1000000 ∧ 0 ≤ (10 : Int) ∧ (10 : Int) ≤ 65536) ∧ ((sm_k (sm_k K n (100, 400)) (n + 1) (100, 10)) r0).1 = 10 ∧ ((sm_k (sm_k K n (100, 400)) (n + 1) (100, 10)) r0).1 = 10 ∧ ((sm_k (sm_k K n (100, 400)) (n + 1) (100, 10)) r0).1 = 10 ∧ ((sm_u (sm_r (sm_u (sm_r (sm_u Rf rs0 6 qs1) n (fun _ => none)) r0 7 (some n)) (n + 1) (fun _ => none)) r0 11 (some (n + 1))) r0 0).isSome = true ∧ ((sm_k (sm_k K n (100, 400)) (n + 1) (100, 10)) ((((sm_u (sm_r (sm_u (sm_r (sm_u Rf rs0 6 qs1) n (fun _ => none)) r0 7 (some n)) (n + 1) (fun _ => none)) r0 11 (some (n + 1))) r0 0).getD 0))).1 = 1 ∧ sm_call d 6 [.inr (some (((sm_u (sm_r (sm_u (sm_r (sm_u Rf rs0 6 qs1) n (fun _ => none)) r0 7 (some n)) (n + 1) (fun _ => none)) r0 11 (some (n + 1))) r0 0).getD 0)), .inl 6, .inl 6] (sm_u (sm_r (sm_r Z n (fun _ => 0)) (n + 1) (fun _ => 0)) r0 10 ((-1)), sm_u (sm_r (sm_u (sm_r (sm_u Rf rs0 6 qs1) n (fun _ => none)) r0 7 (some n)) (n + 1) (fun _ => none)) r0 11 (some (n + 1)), sm_k (sm_k K n (100, 400)) (n + 1) (100, 10), n + 1 + 1, z + 400 + 10) (sm_cont (d + 1) 82 103 [some (.inr (some r0))] [] Q)) := (w_putR t82_67 rfl (by decide)).trans (congrArg (And _) ((w_aload_n t82_70 rfl rfl).trans ((w_sipush t82_71 rfl).trans ((w_newa t82_74 rfl wl_400).trans (congrArg (And _) ((w_putR t82_76 rfl (by decide)).trans (congrArg (And _) ((w_aload_n t82_79 rfl rfl).trans ((w_bipush t82_80 rfl).trans ((w_newa t82_82 rfl wl_10).trans (congrArg (And _) ((w_putR t82_84 rfl (by decide)).trans (congrArg (And _) ((w_aload_n t82_87 rfl rfl).trans ((w_iconst t82_88 rfl).trans ((w_putI t82_89 rfl (by decide)).trans (congrArg (And _) ((w_aload_n t82_92 rfl rfl).trans ((w_getR t82_93 rfl (by decide)).trans (congrArg (And _) (congrArg (And _) ((w_bipush t82_96 rfl).trans ((w_bipush t82_98 rfl).trans (w_callV t82_100 rfl rfl rfl rfl (Nat.le_of_ble_eq_true rfl) (Nat.le_of_ble_eq_true rfl) rfl (by decide)))))))))))))))))))))))))
set_option maxRecDepth 10000 in
theorem b82_103 {d : Nat} {l0 : Option sm_V} {Z : Nat → Nat → Int} {Rf : Nat → Nat → Option Nat} {K : Nat → Nat × Nat} {n z : Nat} {Q : Option sm_V → sm_S → Prop} : sm_wp d 82 103 [l0] [] (Z, Rf, K, n, z) Q = (Q none (Z, Rf, K, n, z)) := w_vret t82_103
theorem t83_0 : sm_at 83 0 = some (1, .aload_n 0, 0, 0, 0) := rfl
theorem t83_1 : sm_at 83 1 = some (3, .getfield 10, 10, 0, 0) := rfl
theorem t83_4 : sm_at 83 4 = some (3, .getfield 62, 1, 2, 0) := rfl
theorem t83_7 : sm_at 83 7 = some (1, .istore_n 2, 0, 0, 0) := rfl
theorem t83_8 : sm_at 83 8 = some (1, .aload_n 0, 0, 0, 0) := rfl
theorem t83_9 : sm_at 83 9 = some (3, .getfield 10, 10, 0, 0) := rfl
theorem t83_12 : sm_at 83 12 = some (1, .iload_n 1, 0, 0, 0) := rfl
theorem t83_13 : sm_at 83 13 = some (3, .putfield 62, 1, 2, 0) := rfl
theorem t83_16 : sm_at 83 16 = some (1, .iload_n 2, 0, 0, 0) := rfl
theorem t83_17 : sm_at 83 17 = some (1, .ireturn, 0, 0, 0) := rfl
set_option maxRecDepth 10000 in
theorem b83_0 {d : Nat} {r0 : Nat} {x1 : Int} {l2 : Option sm_V} {Z : Nat → Nat → Int} {Rf : Nat → Nat → Option Nat} {K : Nat → Nat × Nat} {n z : Nat} {Q : Option sm_V → sm_S → Prop} : sm_wp d 83 0 [some (.inr (some r0)), some (.inl x1), l2] [] (Z, Rf, K, n, z) Q = ((K r0).1 = 10 ∧ (Rf r0 0).isSome = true ∧ (K (((Rf r0 0).getD 0))).1 = 1 ∧ (K r0).1 = 10 ∧ (Rf r0 0).isSome = true ∧ (K (((Rf r0 0).getD 0))).1 = 1 ∧ Q (some (.inl (Z (((Rf r0 0).getD 0)) 2))) (sm_u Z (((Rf r0 0).getD 0)) 2 x1, Rf, K, n, z)) := (w_aload_n t83_0 rfl rfl).trans ((w_getR t83_1 rfl (by decide)).trans (congrArg (And _) (congrArg (And _) ((w_getI t83_4 rfl (by decide)).trans (congrArg (And _) ((w_istore_n t83_7 rfl (Nat.le_of_ble_eq_true rfl) rfl).trans ((w_aload_n t83_8 rfl rfl).trans ((w_getR t83_9 rfl (by decide)).trans (congrArg (And _) (congrArg (And _) ((w_iload_n t83_12 rfl rfl).trans ((w_putI t83_13 rfl (by decide)).trans (congrArg (And _) ((w_iload_n t83_16 rfl rfl).trans (w_iret t83_17)))))))))))))))
theorem t84_0 : sm_at 84 0 = some (1, .iload_n 1, 0, 0, 0) := rfl
theorem t84_1 : sm_at 84 1 = some (1, .iconst 2, 0, 0, 0) := rfl
theorem t84_2 : sm_at 84 2 = some (2, .bipush 10, 0, 0, 0) := rfl
theorem t84_4 : sm_at 84 4 = some (3, .invokestatic 65, 112, 3, 0) := rfl
theorem t84_7 : sm_at 84 7 = some (3, .ifCond .eq 13, 0, 0, 0) := rfl
theorem t84_10 : sm_at 84 10 = some (1, .iload_n 2, 0, 0, 0) := rfl
theorem t84_11 : sm_at 84 11 = some (1, .iconst 2, 0, 0, 0) := rfl
theorem t84_12 : sm_at 84 12 = some (2, .bipush 10, 0, 0, 0) := rfl
theorem t84_14 : sm_at 84 14 = some (3, .invokestatic 65, 112, 3, 0) := rfl
theorem t84_17 : sm_at 84 17 = some (3, .ifCond .ne 5, 0, 0, 0) := rfl
theorem t84_20 : sm_at 84 20 = some (1, .iconst 0, 0, 0, 0) := rfl
theorem t84_21 : sm_at 84 21 = some (1, .ireturn, 1, 0, 0) := rfl
theorem t84_22 : sm_at 84 22 = some (1, .aload_n 0, 0, 0, 0) := rfl
theorem t84_23 : sm_at 84 23 = some (3, .getfield 10, 10, 0, 0) := rfl
theorem t84_26 : sm_at 84 26 = some (1, .iload_n 1, 0, 0, 0) := rfl
theorem t84_27 : sm_at 84 27 = some (1, .iload_n 2, 0, 0, 0) := rfl
theorem t84_28 : sm_at 84 28 = some (3, .invokevirtual 58, 6, 3, 0) := rfl
theorem t84_31 : sm_at 84 31 = some (1, .aload_n 0, 0, 0, 0) := rfl
theorem t84_32 : sm_at 84 32 = some (1, .iconst 0, 0, 0, 0) := rfl
theorem t84_33 : sm_at 84 33 = some (3, .putfield 69, 10, 12, 0) := rfl
theorem t84_36 : sm_at 84 36 = some (1, .iconst 1, 0, 0, 0) := rfl
theorem t84_37 : sm_at 84 37 = some (1, .ireturn, 1, 0, 0) := rfl
set_option maxRecDepth 10000 in
theorem b84_0 {d : Nat} {l0 : Option sm_V} {x1 : Int} {l2 : Option sm_V} {Z : Nat → Nat → Int} {Rf : Nat → Nat → Option Nat} {K : Nat → Nat × Nat} {n z : Nat} {Q : Option sm_V → sm_S → Prop} : sm_wp (d + 1) 84 0 [l0, some (.inl x1), l2] [] (Z, Rf, K, n, z) Q = (sm_call d 112 [.inl x1, .inl 2, .inl 10] (Z, Rf, K, n, z) (sm_cont (d + 1) 84 7 [l0, some (.inl x1), l2] [] Q)) := (w_iload_n t84_0 rfl rfl).trans ((w_iconst t84_1 rfl).trans ((w_bipush t84_2 rfl).trans (w_callS t84_4 rfl rfl rfl rfl (Nat.le_of_ble_eq_true rfl) (Nat.le_of_ble_eq_true rfl) rfl)))
set_option maxRecDepth 10000 in
theorem b84_7 {d : Nat} {l0 : Option sm_V} {l1 : Option sm_V} {l2 : Option sm_V} {s0 : Int} {Z : Nat → Nat → Int} {Rf : Nat → Nat → Option Nat} {K : Nat → Nat × Nat} {n z : Nat} {Q : Option sm_V → sm_S → Prop} : sm_wp d 84 7 [l0, l1, l2] [.inl s0] (Z, Rf, K, n, z) Q = (if wr s0 = 0 then sm_wp d 84 20 [l0, l1, l2] [] (Z, Rf, K, n, z) Q else sm_wp d 84 10 [l0, l1, l2] [] (Z, Rf, K, n, z) Q) := w_ifeq t84_7 rfl rfl rfl
set_option maxRecDepth 10000 in
theorem b84_10 {d : Nat} {l0 : Option sm_V} {l1 : Option sm_V} {x2 : Int} {Z : Nat → Nat → Int} {Rf : Nat → Nat → Option Nat} {K : Nat → Nat × Nat} {n z : Nat} {Q : Option sm_V → sm_S → Prop} : sm_wp (d + 1) 84 10 [l0, l1, some (.inl x2)] [] (Z, Rf, K, n, z) Q = (sm_call d 112 [.inl x2, .inl 2, .inl 10] (Z, Rf, K, n, z) (sm_cont (d + 1) 84 17 [l0, l1, some (.inl x2)] [] Q)) := (w_iload_n t84_10 rfl rfl).trans ((w_iconst t84_11 rfl).trans ((w_bipush t84_12 rfl).trans (w_callS t84_14 rfl rfl rfl rfl (Nat.le_of_ble_eq_true rfl) (Nat.le_of_ble_eq_true rfl) rfl)))
set_option maxRecDepth 10000 in
theorem b84_17 {d : Nat} {l0 : Option sm_V} {l1 : Option sm_V} {l2 : Option sm_V} {s0 : Int} {Z : Nat → Nat → Int} {Rf : Nat → Nat → Option Nat} {K : Nat → Nat × Nat} {n z : Nat} {Q : Option sm_V → sm_S → Prop} : sm_wp d 84 17 [l0, l1, l2] [.inl s0] (Z, Rf, K, n, z) Q = (if wr s0 = 0 then sm_wp d 84 20 [l0, l1, l2] [] (Z, Rf, K, n, z) Q else sm_wp d 84 22 [l0, l1, l2] [] (Z, Rf, K, n, z) Q) := w_ifne t84_17 rfl rfl rfl
set_option maxRecDepth 10000 in
theorem b84_20 {d : Nat} {l0 : Option sm_V} {l1 : Option sm_V} {l2 : Option sm_V} {Z : Nat → Nat → Int} {Rf : Nat → Nat → Option Nat} {K : Nat → Nat × Nat} {n z : Nat} {Q : Option sm_V → sm_S → Prop} : sm_wp d 84 20 [l0, l1, l2] [] (Z, Rf, K, n, z) Q = (((0 : Int) = 0 ∨ (0 : Int) = 1) ∧ Q (some (.inl 0)) (Z, Rf, K, n, z)) := (w_iconst t84_20 rfl).trans (w_zret t84_21 wl_0)
set_option maxRecDepth 10000 in
theorem b84_22 {d : Nat} {r0 : Nat} {x1 : Int} {x2 : Int} {Z : Nat → Nat → Int} {Rf : Nat → Nat → Option Nat} {K : Nat → Nat × Nat} {n z : Nat} {Q : Option sm_V → sm_S → Prop} : sm_wp (d + 1) 84 22 [some (.inr (some r0)), some (.inl x1), some (.inl x2)] [] (Z, Rf, K, n, z) Q = ((K r0).1 = 10 ∧ (Rf r0 0).isSome = true ∧ (K (((Rf r0 0).getD 0))).1 = 1 ∧ sm_call d 6 [.inr (some ((Rf r0 0).getD 0)), .inl x1, .inl x2] (Z, Rf, K, n, z) (sm_cont (d + 1) 84 31 [some (.inr (some r0)), some (.inl x1), some (.inl x2)] [] Q)) := (w_aload_n t84_22 rfl rfl).trans ((w_getR t84_23 rfl (by decide)).trans (congrArg (And _) (congrArg (And _) ((w_iload_n t84_26 rfl rfl).trans ((w_iload_n t84_27 rfl rfl).trans (w_callV t84_28 rfl rfl rfl rfl (Nat.le_of_ble_eq_true rfl) (Nat.le_of_ble_eq_true rfl) rfl (by decide)))))))
set_option maxRecDepth 10000 in
theorem b84_31 {d : Nat} {r0 : Nat} {l1 : Option sm_V} {l2 : Option sm_V} {Z : Nat → Nat → Int} {Rf : Nat → Nat → Option Nat} {K : Nat → Nat × Nat} {n z : Nat} {Q : Option sm_V → sm_S → Prop} : sm_wp d 84 31 [some (.inr (some r0)), l1, l2] [] (Z, Rf, K, n, z) Q = ((K r0).1 = 10 ∧ ((1 : Int) = 0 ∨ (1 : Int) = 1) ∧ Q (some (.inl 1)) (sm_u Z r0 12 0, Rf, K, n, z)) := (w_aload_n t84_31 rfl rfl).trans ((w_iconst t84_32 rfl).trans ((w_putI t84_33 rfl (by decide)).trans (congrArg (And _) ((w_iconst t84_36 rfl).trans (w_zret t84_37 wl_1)))))
theorem t85_0 : sm_at 85 0 = some (1, .aload_n 0, 0, 0, 0) := rfl
theorem t85_1 : sm_at 85 1 = some (3, .getfield 10, 10, 0, 0) := rfl
theorem t85_4 : sm_at 85 4 = some (1, .iload_n 1, 0, 0, 0) := rfl
theorem t85_5 : sm_at 85 5 = some (3, .invokevirtual 72, 8, 2, 0) := rfl
theorem t85_8 : sm_at 85 8 = some (3, .ifCond .ne 5, 0, 0, 0) := rfl
theorem t85_11 : sm_at 85 11 = some (1, .iconst 0, 0, 0, 0) := rfl
theorem t85_12 : sm_at 85 12 = some (1, .ireturn, 1, 0, 0) := rfl
theorem t85_13 : sm_at 85 13 = some (1, .iload_n 2, 0, 0, 0) := rfl
theorem t85_14 : sm_at 85 14 = some (26, .tableswitch 70 0 2 #[26, 41, 56], 0, 0, 0) := rfl
theorem t85_40 : sm_at 85 40 = some (1, .aload_n 0, 0, 0, 0) := rfl
theorem t85_41 : sm_at 85 41 = some (3, .getfield 10, 10, 0, 0) := rfl
theorem t85_44 : sm_at 85 44 = some (3, .getfield 76, 1, 4, 0) := rfl
theorem t85_47 : sm_at 85 47 = some (1, .iload_n 1, 0, 0, 0) := rfl
theorem t85_48 : sm_at 85 48 = some (1, .iload_n 3, 0, 0, 0) := rfl
theorem t85_49 : sm_at 85 49 = some (2, .bipush 99, 0, 0, 0) := rfl
theorem t85_51 : sm_at 85 51 = some (3, .invokestatic 79, 113, 4, 0) := rfl
theorem t85_54 : sm_at 85 54 = some (1, .ireturn, 1, 0, 0) := rfl
theorem t85_55 : sm_at 85 55 = some (1, .aload_n 0, 0, 0, 0) := rfl
theorem t85_56 : sm_at 85 56 = some (3, .getfield 10, 10, 0, 0) := rfl
theorem t85_59 : sm_at 85 59 = some (3, .getfield 83, 1, 5, 0) := rfl
theorem t85_62 : sm_at 85 62 = some (1, .iload_n 1, 0, 0, 0) := rfl
theorem t85_63 : sm_at 85 63 = some (1, .iload_n 3, 0, 0, 0) := rfl
theorem t85_64 : sm_at 85 64 = some (2, .bipush 99, 0, 0, 0) := rfl
theorem t85_66 : sm_at 85 66 = some (3, .invokestatic 79, 113, 4, 0) := rfl
theorem t85_69 : sm_at 85 69 = some (1, .ireturn, 1, 0, 0) := rfl
theorem t85_70 : sm_at 85 70 = some (1, .aload_n 0, 0, 0, 0) := rfl
theorem t85_71 : sm_at 85 71 = some (3, .getfield 10, 10, 0, 0) := rfl
theorem t85_74 : sm_at 85 74 = some (3, .getfield 86, 1, 6, 0) := rfl
theorem t85_77 : sm_at 85 77 = some (1, .iload_n 1, 0, 0, 0) := rfl
theorem t85_78 : sm_at 85 78 = some (1, .iload_n 3, 0, 0, 0) := rfl
theorem t85_79 : sm_at 85 79 = some (1, .iconst 1, 0, 0, 0) := rfl
theorem t85_80 : sm_at 85 80 = some (3, .invokestatic 79, 113, 4, 0) := rfl
theorem t85_83 : sm_at 85 83 = some (1, .ireturn, 1, 0, 0) := rfl
theorem t85_84 : sm_at 85 84 = some (1, .iconst 0, 0, 0, 0) := rfl
theorem t85_85 : sm_at 85 85 = some (1, .ireturn, 1, 0, 0) := rfl
set_option maxRecDepth 10000 in
theorem b85_0 {d : Nat} {r0 : Nat} {x1 : Int} {l2 : Option sm_V} {l3 : Option sm_V} {Z : Nat → Nat → Int} {Rf : Nat → Nat → Option Nat} {K : Nat → Nat × Nat} {n z : Nat} {Q : Option sm_V → sm_S → Prop} : sm_wp (d + 1) 85 0 [some (.inr (some r0)), some (.inl x1), l2, l3] [] (Z, Rf, K, n, z) Q = ((K r0).1 = 10 ∧ (Rf r0 0).isSome = true ∧ (K (((Rf r0 0).getD 0))).1 = 1 ∧ sm_call d 8 [.inr (some ((Rf r0 0).getD 0)), .inl x1] (Z, Rf, K, n, z) (sm_cont (d + 1) 85 8 [some (.inr (some r0)), some (.inl x1), l2, l3] [] Q)) := (w_aload_n t85_0 rfl rfl).trans ((w_getR t85_1 rfl (by decide)).trans (congrArg (And _) (congrArg (And _) ((w_iload_n t85_4 rfl rfl).trans (w_callV t85_5 rfl rfl rfl rfl (Nat.le_of_ble_eq_true rfl) (Nat.le_of_ble_eq_true rfl) rfl (by decide))))))
set_option maxRecDepth 10000 in
theorem b85_8 {d : Nat} {l0 : Option sm_V} {l1 : Option sm_V} {l2 : Option sm_V} {l3 : Option sm_V} {s0 : Int} {Z : Nat → Nat → Int} {Rf : Nat → Nat → Option Nat} {K : Nat → Nat × Nat} {n z : Nat} {Q : Option sm_V → sm_S → Prop} : sm_wp d 85 8 [l0, l1, l2, l3] [.inl s0] (Z, Rf, K, n, z) Q = (if wr s0 = 0 then sm_wp d 85 11 [l0, l1, l2, l3] [] (Z, Rf, K, n, z) Q else sm_wp d 85 13 [l0, l1, l2, l3] [] (Z, Rf, K, n, z) Q) := w_ifne t85_8 rfl rfl rfl
set_option maxRecDepth 10000 in
theorem b85_11 {d : Nat} {l0 : Option sm_V} {l1 : Option sm_V} {l2 : Option sm_V} {l3 : Option sm_V} {Z : Nat → Nat → Int} {Rf : Nat → Nat → Option Nat} {K : Nat → Nat × Nat} {n z : Nat} {Q : Option sm_V → sm_S → Prop} : sm_wp d 85 11 [l0, l1, l2, l3] [] (Z, Rf, K, n, z) Q = (((0 : Int) = 0 ∨ (0 : Int) = 1) ∧ Q (some (.inl 0)) (Z, Rf, K, n, z)) := (w_iconst t85_11 rfl).trans (w_zret t85_12 wl_0)
set_option maxRecDepth 10000 in
theorem b85_13 {d : Nat} {l0 : Option sm_V} {l1 : Option sm_V} {x2 : Int} {l3 : Option sm_V} {Z : Nat → Nat → Int} {Rf : Nat → Nat → Option Nat} {K : Nat → Nat × Nat} {n z : Nat} {Q : Option sm_V → sm_S → Prop} : sm_wp d 85 13 [l0, l1, some (.inl x2), l3] [] (Z, Rf, K, n, z) Q = (sm_wp d 85 (sm_sel (wr x2) 84 [(0, 40), (1, 55), (2, 70)]) [l0, l1, some (.inl x2), l3] [] (Z, Rf, K, n, z) Q) := (w_iload_n t85_13 rfl rfl).trans (w_tsw t85_14 rfl rfl rfl (by decide))
set_option maxRecDepth 10000 in
theorem b85_40 {d : Nat} {r0 : Nat} {x1 : Int} {l2 : Option sm_V} {x3 : Int} {Z : Nat → Nat → Int} {Rf : Nat → Nat → Option Nat} {K : Nat → Nat × Nat} {n z : Nat} {Q : Option sm_V → sm_S → Prop} : sm_wp (d + 1) 85 40 [some (.inr (some r0)), some (.inl x1), l2, some (.inl x3)] [] (Z, Rf, K, n, z) Q = ((K r0).1 = 10 ∧ (Rf r0 0).isSome = true ∧ (K (((Rf r0 0).getD 0))).1 = 1 ∧ (Rf (((Rf r0 0).getD 0)) 4).isSome = true ∧ sm_call d 113 [.inr (some ((Rf (((Rf r0 0).getD 0)) 4).getD 0)), .inl x1, .inl x3, .inl 99] (Z, Rf, K, n, z) (sm_cont (d + 1) 85 54 [some (.inr (some r0)), some (.inl x1), l2, some (.inl x3)] [] Q)) := (w_aload_n t85_40 rfl rfl).trans ((w_getR t85_41 rfl (by decide)).trans (congrArg (And _) (congrArg (And _) ((w_getR t85_44 rfl (by decide)).trans (congrArg (And _) (congrArg (And _) ((w_iload_n t85_47 rfl rfl).trans ((w_iload_n t85_48 rfl rfl).trans ((w_bipush t85_49 rfl).trans (w_callS t85_51 rfl rfl rfl rfl (Nat.le_of_ble_eq_true rfl) (Nat.le_of_ble_eq_true rfl) rfl))))))))))
set_option maxRecDepth 10000 in
theorem b85_54 {d : Nat} {l0 : Option sm_V} {l1 : Option sm_V} {l2 : Option sm_V} {l3 : Option sm_V} {s0 : Int} {Z : Nat → Nat → Int} {Rf : Nat → Nat → Option Nat} {K : Nat → Nat × Nat} {n z : Nat} {Q : Option sm_V → sm_S → Prop} : sm_wp d 85 54 [l0, l1, l2, l3] [.inl s0] (Z, Rf, K, n, z) Q = ((wr s0 = 0 ∨ wr s0 = 1) ∧ Q (some (.inl s0)) (Z, Rf, K, n, z)) := w_zret t85_54 rfl
set_option maxRecDepth 10000 in
theorem b85_55 {d : Nat} {r0 : Nat} {x1 : Int} {l2 : Option sm_V} {x3 : Int} {Z : Nat → Nat → Int} {Rf : Nat → Nat → Option Nat} {K : Nat → Nat × Nat} {n z : Nat} {Q : Option sm_V → sm_S → Prop} : sm_wp (d + 1) 85 55 [some (.inr (some r0)), some (.inl x1), l2, some (.inl x3)] [] (Z, Rf, K, n, z) Q = ((K r0).1 = 10 ∧ (Rf r0 0).isSome = true ∧ (K (((Rf r0 0).getD 0))).1 = 1 ∧ (Rf (((Rf r0 0).getD 0)) 5).isSome = true ∧ sm_call d 113 [.inr (some ((Rf (((Rf r0 0).getD 0)) 5).getD 0)), .inl x1, .inl x3, .inl 99] (Z, Rf, K, n, z) (sm_cont (d + 1) 85 69 [some (.inr (some r0)), some (.inl x1), l2, some (.inl x3)] [] Q)) := (w_aload_n t85_55 rfl rfl).trans ((w_getR t85_56 rfl (by decide)).trans (congrArg (And _) (congrArg (And _) ((w_getR t85_59 rfl (by decide)).trans (congrArg (And _) (congrArg (And _) ((w_iload_n t85_62 rfl rfl).trans ((w_iload_n t85_63 rfl rfl).trans ((w_bipush t85_64 rfl).trans (w_callS t85_66 rfl rfl rfl rfl (Nat.le_of_ble_eq_true rfl) (Nat.le_of_ble_eq_true rfl) rfl))))))))))
set_option maxRecDepth 10000 in
theorem b85_69 {d : Nat} {l0 : Option sm_V} {l1 : Option sm_V} {l2 : Option sm_V} {l3 : Option sm_V} {s0 : Int} {Z : Nat → Nat → Int} {Rf : Nat → Nat → Option Nat} {K : Nat → Nat × Nat} {n z : Nat} {Q : Option sm_V → sm_S → Prop} : sm_wp d 85 69 [l0, l1, l2, l3] [.inl s0] (Z, Rf, K, n, z) Q = ((wr s0 = 0 ∨ wr s0 = 1) ∧ Q (some (.inl s0)) (Z, Rf, K, n, z)) := w_zret t85_69 rfl
set_option maxRecDepth 10000 in
theorem b85_70 {d : Nat} {r0 : Nat} {x1 : Int} {l2 : Option sm_V} {x3 : Int} {Z : Nat → Nat → Int} {Rf : Nat → Nat → Option Nat} {K : Nat → Nat × Nat} {n z : Nat} {Q : Option sm_V → sm_S → Prop} : sm_wp (d + 1) 85 70 [some (.inr (some r0)), some (.inl x1), l2, some (.inl x3)] [] (Z, Rf, K, n, z) Q = ((K r0).1 = 10 ∧ (Rf r0 0).isSome = true ∧ (K (((Rf r0 0).getD 0))).1 = 1 ∧ (Rf (((Rf r0 0).getD 0)) 6).isSome = true ∧ sm_call d 113 [.inr (some ((Rf (((Rf r0 0).getD 0)) 6).getD 0)), .inl x1, .inl x3, .inl 1] (Z, Rf, K, n, z) (sm_cont (d + 1) 85 83 [some (.inr (some r0)), some (.inl x1), l2, some (.inl x3)] [] Q)) := (w_aload_n t85_70 rfl rfl).trans ((w_getR t85_71 rfl (by decide)).trans (congrArg (And _) (congrArg (And _) ((w_getR t85_74 rfl (by decide)).trans (congrArg (And _) (congrArg (And _) ((w_iload_n t85_77 rfl rfl).trans ((w_iload_n t85_78 rfl rfl).trans ((w_iconst t85_79 rfl).trans (w_callS t85_80 rfl rfl rfl rfl (Nat.le_of_ble_eq_true rfl) (Nat.le_of_ble_eq_true rfl) rfl))))))))))
set_option maxRecDepth 10000 in
theorem b85_83 {d : Nat} {l0 : Option sm_V} {l1 : Option sm_V} {l2 : Option sm_V} {l3 : Option sm_V} {s0 : Int} {Z : Nat → Nat → Int} {Rf : Nat → Nat → Option Nat} {K : Nat → Nat × Nat} {n z : Nat} {Q : Option sm_V → sm_S → Prop} : sm_wp d 85 83 [l0, l1, l2, l3] [.inl s0] (Z, Rf, K, n, z) Q = ((wr s0 = 0 ∨ wr s0 = 1) ∧ Q (some (.inl s0)) (Z, Rf, K, n, z)) := w_zret t85_83 rfl
set_option maxRecDepth 10000 in
theorem b85_84 {d : Nat} {l0 : Option sm_V} {l1 : Option sm_V} {l2 : Option sm_V} {l3 : Option sm_V} {Z : Nat → Nat → Int} {Rf : Nat → Nat → Option Nat} {K : Nat → Nat × Nat} {n z : Nat} {Q : Option sm_V → sm_S → Prop} : sm_wp d 85 84 [l0, l1, l2, l3] [] (Z, Rf, K, n, z) Q = (((0 : Int) = 0 ∨ (0 : Int) = 1) ∧ Q (some (.inl 0)) (Z, Rf, K, n, z)) := (w_iconst t85_84 rfl).trans (w_zret t85_85 wl_0)
theorem t86_0 : sm_at 86 0 = some (1, .aload_n 0, 0, 0, 0) := rfl
theorem t86_1 : sm_at 86 1 = some (1, .iload_n 1, 0, 0, 0) := rfl
theorem t86_2 : sm_at 86 2 = some (1, .iconst 0, 0, 0, 0) := rfl
theorem t86_3 : sm_at 86 3 = some (3, .invokevirtual 89, 114, 3, 0) := rfl
theorem t86_6 : sm_at 86 6 = some (1, .ireturn, 1, 0, 0) := rfl
set_option maxRecDepth 10000 in
theorem b86_0 {d : Nat} {r0 : Nat} {x1 : Int} {Z : Nat → Nat → Int} {Rf : Nat → Nat → Option Nat} {K : Nat → Nat × Nat} {n z : Nat} {Q : Option sm_V → sm_S → Prop} : sm_wp (d + 1) 86 0 [some (.inr (some r0)), some (.inl x1)] [] (Z, Rf, K, n, z) Q = ((K r0).1 = 10 ∧ sm_call d 114 [.inr (some r0), .inl x1, .inl 0] (Z, Rf, K, n, z) (sm_cont (d + 1) 86 6 [some (.inr (some r0)), some (.inl x1)] [] Q)) := (w_aload_n t86_0 rfl rfl).trans ((w_iload_n t86_1 rfl rfl).trans ((w_iconst t86_2 rfl).trans (w_callV t86_3 rfl rfl rfl rfl (Nat.le_of_ble_eq_true rfl) (Nat.le_of_ble_eq_true rfl) rfl (by decide))))
set_option maxRecDepth 10000 in
theorem b86_6 {d : Nat} {l0 : Option sm_V} {l1 : Option sm_V} {s0 : Int} {Z : Nat → Nat → Int} {Rf : Nat → Nat → Option Nat} {K : Nat → Nat × Nat} {n z : Nat} {Q : Option sm_V → sm_S → Prop} : sm_wp d 86 6 [l0, l1] [.inl s0] (Z, Rf, K, n, z) Q = ((wr s0 = 0 ∨ wr s0 = 1) ∧ Q (some (.inl s0)) (Z, Rf, K, n, z)) := w_zret t86_6 rfl
theorem t87_0 : sm_at 87 0 = some (1, .aload_n 0, 0, 0, 0) := rfl
theorem t87_1 : sm_at 87 1 = some (1, .iload_n 1, 0, 0, 0) := rfl
theorem t87_2 : sm_at 87 2 = some (1, .iconst 1, 0, 0, 0) := rfl
theorem t87_3 : sm_at 87 3 = some (3, .invokevirtual 89, 114, 3, 0) := rfl
theorem t87_6 : sm_at 87 6 = some (1, .ireturn, 1, 0, 0) := rfl
set_option maxRecDepth 10000 in
theorem b87_0 {d : Nat} {r0 : Nat} {x1 : Int} {Z : Nat → Nat → Int} {Rf : Nat → Nat → Option Nat} {K : Nat → Nat × Nat} {n z : Nat} {Q : Option sm_V → sm_S → Prop} : sm_wp (d + 1) 87 0 [some (.inr (some r0)), some (.inl x1)] [] (Z, Rf, K, n, z) Q = ((K r0).1 = 10 ∧ sm_call d 114 [.inr (some r0), .inl x1, .inl 1] (Z, Rf, K, n, z) (sm_cont (d + 1) 87 6 [some (.inr (some r0)), some (.inl x1)] [] Q)) := (w_aload_n t87_0 rfl rfl).trans ((w_iload_n t87_1 rfl rfl).trans ((w_iconst t87_2 rfl).trans (w_callV t87_3 rfl rfl rfl rfl (Nat.le_of_ble_eq_true rfl) (Nat.le_of_ble_eq_true rfl) rfl (by decide))))
set_option maxRecDepth 10000 in
theorem b87_6 {d : Nat} {l0 : Option sm_V} {l1 : Option sm_V} {s0 : Int} {Z : Nat → Nat → Int} {Rf : Nat → Nat → Option Nat} {K : Nat → Nat × Nat} {n z : Nat} {Q : Option sm_V → sm_S → Prop} : sm_wp d 87 6 [l0, l1] [.inl s0] (Z, Rf, K, n, z) Q = ((wr s0 = 0 ∨ wr s0 = 1) ∧ Q (some (.inl s0)) (Z, Rf, K, n, z)) := w_zret t87_6 rfl
theorem t88_0 : sm_at 88 0 = some (1, .aload_n 0, 0, 0, 0) := rfl
theorem t88_1 : sm_at 88 1 = some (3, .getfield 69, 10, 12, 0) := rfl
theorem t88_4 : sm_at 88 4 = some (1, .iconst 1, 0, 0, 0) := rfl
theorem t88_5 : sm_at 88 5 = some (3, .if_icmp .ge 5, 0, 0, 0) := rfl
theorem t88_8 : sm_at 88 8 = some (1, .iconst 0, 0, 0, 0) := rfl
theorem t88_9 : sm_at 88 9 = some (1, .ireturn, 1, 0, 0) := rfl
theorem t88_10 : sm_at 88 10 = some (1, .aload_n 0, 0, 0, 0) := rfl
theorem t88_11 : sm_at 88 11 = some (1, .dup, 0, 0, 0) := rfl
theorem t88_12 : sm_at 88 12 = some (3, .getfield 69, 10, 12, 0) := rfl
theorem t88_15 : sm_at 88 15 = some (1, .iconst 1, 0, 0, 0) := rfl
theorem t88_16 : sm_at 88 16 = some (1, .isub, 0, 0, 0) := rfl
theorem t88_17 : sm_at 88 17 = some (3, .putfield 69, 10, 12, 0) := rfl
theorem t88_20 : sm_at 88 20 = some (1, .aload_n 0, 0, 0, 0) := rfl
theorem t88_21 : sm_at 88 21 = some (3, .getfield 51, 10, 11, 0) := rfl
theorem t88_24 : sm_at 88 24 = some (1, .aload_n 0, 0, 0, 0) := rfl
theorem t88_25 : sm_at 88 25 = some (3, .getfield 69, 10, 12, 0) := rfl
theorem t88_28 : sm_at 88 28 = some (1, .iaload, 0, 0, 0) := rfl
theorem t88_29 : sm_at 88 29 = some (1, .istore_n 1, 0, 0, 0) := rfl
theorem t88_30 : sm_at 88 30 = some (1, .aload_n 0, 0, 0, 0) := rfl
theorem t88_31 : sm_at 88 31 = some (3, .getfield 10, 10, 0, 0) := rfl
theorem t88_34 : sm_at 88 34 = some (1, .iload_n 1, 0, 0, 0) := rfl
theorem t88_35 : sm_at 88 35 = some (3, .invokevirtual 72, 8, 2, 0) := rfl
theorem t88_38 : sm_at 88 38 = some (3, .ifCond .ne 5, 0, 0, 0) := rfl
theorem t88_41 : sm_at 88 41 = some (1, .iconst 0, 0, 0, 0) := rfl
theorem t88_42 : sm_at 88 42 = some (1, .ireturn, 1, 0, 0) := rfl
theorem t88_43 : sm_at 88 43 = some (1, .aload_n 0, 0, 0, 0) := rfl
theorem t88_44 : sm_at 88 44 = some (3, .getfield 10, 10, 0, 0) := rfl
theorem t88_47 : sm_at 88 47 = some (3, .getfield 93, 1, 7, 0) := rfl
theorem t88_50 : sm_at 88 50 = some (1, .iload_n 1, 0, 0, 0) := rfl
theorem t88_51 : sm_at 88 51 = some (1, .iconst 1, 0, 0, 0) := rfl
theorem t88_52 : sm_at 88 52 = some (1, .aload_n 0, 0, 0, 0) := rfl
theorem t88_53 : sm_at 88 53 = some (3, .getfield 10, 10, 0, 0) := rfl
theorem t88_56 : sm_at 88 56 = some (3, .getfield 93, 1, 7, 0) := rfl
theorem t88_59 : sm_at 88 59 = some (1, .iload_n 1, 0, 0, 0) := rfl
theorem t88_60 : sm_at 88 60 = some (1, .iaload, 0, 0, 0) := rfl
theorem t88_61 : sm_at 88 61 = some (1, .isub, 0, 0, 0) := rfl
theorem t88_62 : sm_at 88 62 = some (1, .iastore, 0, 0, 0) := rfl
theorem t88_63 : sm_at 88 63 = some (1, .iconst 1, 0, 0, 0) := rfl
theorem t88_64 : sm_at 88 64 = some (1, .ireturn, 1, 0, 0) := rfl
set_option maxRecDepth 10000 in
theorem b88_0 {d : Nat} {r0 : Nat} {l1 : Option sm_V} {Z : Nat → Nat → Int} {Rf : Nat → Nat → Option Nat} {K : Nat → Nat × Nat} {n z : Nat} {Q : Option sm_V → sm_S → Prop} : sm_wp d 88 0 [some (.inr (some r0)), l1] [] (Z, Rf, K, n, z) Q = ((K r0).1 = 10 ∧ (if (1 : Int) ≤ wr (Z r0 12) then sm_wp d 88 10 [some (.inr (some r0)), l1] [] (Z, Rf, K, n, z) Q else sm_wp d 88 8 [some (.inr (some r0)), l1] [] (Z, Rf, K, n, z) Q)) := (w_aload_n t88_0 rfl rfl).trans ((w_getI t88_1 rfl (by decide)).trans (congrArg (And _) ((w_iconst t88_4 rfl).trans (w_icge t88_5 rfl wl_1 rfl rfl))))
set_option maxRecDepth 10000 in
theorem b88_8 {d : Nat} {l0 : Option sm_V} {l1 : Option sm_V} {Z : Nat → Nat → Int} {Rf : Nat → Nat → Option Nat} {K : Nat → Nat × Nat} {n z : Nat} {Q : Option sm_V → sm_S → Prop} : sm_wp d 88 8 [l0, l1] [] (Z, Rf, K, n, z) Q = (((0 : Int) = 0 ∨ (0 : Int) = 1) ∧ Q (some (.inl 0)) (Z, Rf, K, n, z)) := (w_iconst t88_8 rfl).trans (w_zret t88_9 wl_0)
set_option maxRecDepth 10000 in
theorem b88_10 {d : Nat} {r0 : Nat} {l1 : Option sm_V} {Z : Nat → Nat → Int} {Rf : Nat → Nat → Option Nat} {K : Nat → Nat × Nat} {n z : Nat} {Q : Option sm_V → sm_S → Prop} : sm_wp (d + 1) 88 10 [some (.inr (some r0)), l1] [] (Z, Rf, K, n, z) Q = ((K r0).1 = 10 ∧ (K r0).1 = 10 ∧ (K r0).1 = 10 ∧ (Rf r0 11).isSome = true ∧ (K r0).1 = 10 ∧ sm_rd (K (((Rf r0 11).getD 0))) (wr ((sm_u Z r0 12 ((Z r0 12) - 1)) r0 12)) ∧ (K r0).1 = 10 ∧ (Rf r0 0).isSome = true ∧ (K (((Rf r0 0).getD 0))).1 = 1 ∧ sm_call d 8 [.inr (some ((Rf r0 0).getD 0)), .inl ((sm_u Z r0 12 ((Z r0 12) - 1)) (((Rf r0 11).getD 0)) ((wr ((sm_u Z r0 12 ((Z r0 12) - 1)) r0 12)).toNat))] (sm_u Z r0 12 ((Z r0 12) - 1), Rf, K, n, z) (sm_cont (d + 1) 88 38 [some (.inr (some r0)), some (.inl ((sm_u Z r0 12 ((Z r0 12) - 1)) (((Rf r0 11).getD 0)) ((wr ((sm_u Z r0 12 ((Z r0 12) - 1)) r0 12)).toNat)))] [] Q)) := (w_aload_n t88_10 rfl rfl).trans ((w_dup t88_11 rfl).trans ((w_getI t88_12 rfl (by decide)).trans (congrArg (And _) ((w_iconst t88_15 rfl).trans ((w_isub t88_16 rfl).trans ((w_putI t88_17 rfl (by decide)).trans (congrArg (And _) ((w_aload_n t88_20 rfl rfl).trans ((w_getR t88_21 rfl (by decide)).trans (congrArg (And _) (congrArg (And _) ((w_aload_n t88_24 rfl rfl).trans ((w_getI t88_25 rfl (by decide)).trans (congrArg (And _) ((w_iald t88_28 rfl rfl).trans (congrArg (And _) ((w_istore_n t88_29 rfl (Nat.le_of_ble_eq_true rfl) rfl).trans ((w_aload_n t88_30 rfl rfl).trans ((w_getR t88_31 rfl (by decide)).trans (congrArg (And _) (congrArg (And _) ((w_iload_n t88_34 rfl rfl).trans (w_callV t88_35 rfl rfl rfl rfl (Nat.le_of_ble_eq_true rfl) (Nat.le_of_ble_eq_true rfl) rfl (by decide))))))))))))))))))))))))
set_option maxRecDepth 10000 in
theorem b88_38 {d : Nat} {l0 : Option sm_V} {l1 : Option sm_V} {s0 : Int} {Z : Nat → Nat → Int} {Rf : Nat → Nat → Option Nat} {K : Nat → Nat × Nat} {n z : Nat} {Q : Option sm_V → sm_S → Prop} : sm_wp d 88 38 [l0, l1] [.inl s0] (Z, Rf, K, n, z) Q = (if wr s0 = 0 then sm_wp d 88 41 [l0, l1] [] (Z, Rf, K, n, z) Q else sm_wp d 88 43 [l0, l1] [] (Z, Rf, K, n, z) Q) := w_ifne t88_38 rfl rfl rfl
set_option maxRecDepth 10000 in
theorem b88_41 {d : Nat} {l0 : Option sm_V} {l1 : Option sm_V} {Z : Nat → Nat → Int} {Rf : Nat → Nat → Option Nat} {K : Nat → Nat × Nat} {n z : Nat} {Q : Option sm_V → sm_S → Prop} : sm_wp d 88 41 [l0, l1] [] (Z, Rf, K, n, z) Q = (((0 : Int) = 0 ∨ (0 : Int) = 1) ∧ Q (some (.inl 0)) (Z, Rf, K, n, z)) := (w_iconst t88_41 rfl).trans (w_zret t88_42 wl_0)
set_option maxRecDepth 10000 in
theorem b88_43 {d : Nat} {r0 : Nat} {x1 : Int} {Z : Nat → Nat → Int} {Rf : Nat → Nat → Option Nat} {K : Nat → Nat × Nat} {n z : Nat} {Q : Option sm_V → sm_S → Prop} : sm_wp d 88 43 [some (.inr (some r0)), some (.inl x1)] [] (Z, Rf, K, n, z) Q = ((K r0).1 = 10 ∧ (Rf r0 0).isSome = true ∧ (K (((Rf r0 0).getD 0))).1 = 1 ∧ (Rf (((Rf r0 0).getD 0)) 7).isSome = true ∧ (K r0).1 = 10 ∧ (Rf r0 0).isSome = true ∧ (K (((Rf r0 0).getD 0))).1 = 1 ∧ (Rf (((Rf r0 0).getD 0)) 7).isSome = true ∧ sm_rd (K (((Rf (((Rf r0 0).getD 0)) 7).getD 0))) (wr x1) ∧ sm_wt (K (((Rf (((Rf r0 0).getD 0)) 7).getD 0))) (wr x1) ∧ ((1 : Int) = 0 ∨ (1 : Int) = 1) ∧ Q (some (.inl 1)) (sm_u Z (((Rf (((Rf r0 0).getD 0)) 7).getD 0)) ((wr x1).toNat) (1 - (Z (((Rf (((Rf r0 0).getD 0)) 7).getD 0)) ((wr x1).toNat))), Rf, K, n, z)) := (w_aload_n t88_43 rfl rfl).trans ((w_getR t88_44 rfl (by decide)).trans (congrArg (And _) (congrArg (And _) ((w_getR t88_47 rfl (by decide)).trans (congrArg (And _) (congrArg (And _) ((w_iload_n t88_50 rfl rfl).trans ((w_iconst t88_51 rfl).trans ((w_aload_n t88_52 rfl rfl).trans ((w_getR t88_53 rfl (by decide)).trans (congrArg (And _) (congrArg (And _) ((w_getR t88_56 rfl (by decide)).trans (congrArg (And _) (congrArg (And _) ((w_iload_n t88_59 rfl rfl).trans ((w_iald t88_60 rfl rfl).trans (congrArg (And _) ((w_isub t88_61 rfl).trans ((w_iast t88_62 rfl rfl).trans (congrArg (And _) ((w_iconst t88_63 rfl).trans (w_zret t88_64 wl_1)))))))))))))))))))))))
theorem t89_0 : sm_at 89 0 = some (1, .aload_n 0, 0, 0, 0) := rfl
theorem t89_1 : sm_at 89 1 = some (3, .getfield 10, 10, 0, 0) := rfl
theorem t89_4 : sm_at 89 4 = some (1, .iload_n 1, 0, 0, 0) := rfl
theorem t89_5 : sm_at 89 5 = some (3, .invokevirtual 72, 8, 2, 0) := rfl
theorem t89_8 : sm_at 89 8 = some (3, .ifCond .eq 15, 0, 0, 0) := rfl
theorem t89_11 : sm_at 89 11 = some (1, .aload_n 0, 0, 0, 0) := rfl
theorem t89_12 : sm_at 89 12 = some (3, .getfield 10, 10, 0, 0) := rfl
theorem t89_15 : sm_at 89 15 = some (3, .getfield 96, 1, 8, 0) := rfl
theorem t89_18 : sm_at 89 18 = some (1, .iload_n 1, 0, 0, 0) := rfl
theorem t89_19 : sm_at 89 19 = some (1, .iaload, 0, 0, 0) := rfl
theorem t89_20 : sm_at 89 20 = some (3, .ifCond .eq 5, 0, 0, 0) := rfl
theorem t89_23 : sm_at 89 23 = some (1, .iconst 0, 0, 0, 0) := rfl
theorem t89_24 : sm_at 89 24 = some (1, .ireturn, 1, 0, 0) := rfl
theorem t89_25 : sm_at 89 25 = some (1, .aload_n 0, 0, 0, 0) := rfl
theorem t89_26 : sm_at 89 26 = some (3, .getfield 10, 10, 0, 0) := rfl
theorem t89_29 : sm_at 89 29 = some (3, .getfield 96, 1, 8, 0) := rfl
theorem t89_32 : sm_at 89 32 = some (1, .iload_n 1, 0, 0, 0) := rfl
theorem t89_33 : sm_at 89 33 = some (1, .iconst 1, 0, 0, 0) := rfl
theorem t89_34 : sm_at 89 34 = some (1, .iastore, 0, 0, 0) := rfl
theorem t89_35 : sm_at 89 35 = some (1, .iconst 1, 0, 0, 0) := rfl
theorem t89_36 : sm_at 89 36 = some (1, .ireturn, 1, 0, 0) := rfl
set_option maxRecDepth 10000 in
theorem b89_0 {d : Nat} {r0 : Nat} {x1 : Int} {Z : Nat → Nat → Int} {Rf : Nat → Nat → Option Nat} {K : Nat → Nat × Nat} {n z : Nat} {Q : Option sm_V → sm_S → Prop} : sm_wp (d + 1) 89 0 [some (.inr (some r0)), some (.inl x1)] [] (Z, Rf, K, n, z) Q = ((K r0).1 = 10 ∧ (Rf r0 0).isSome = true ∧ (K (((Rf r0 0).getD 0))).1 = 1 ∧ sm_call d 8 [.inr (some ((Rf r0 0).getD 0)), .inl x1] (Z, Rf, K, n, z) (sm_cont (d + 1) 89 8 [some (.inr (some r0)), some (.inl x1)] [] Q)) := (w_aload_n t89_0 rfl rfl).trans ((w_getR t89_1 rfl (by decide)).trans (congrArg (And _) (congrArg (And _) ((w_iload_n t89_4 rfl rfl).trans (w_callV t89_5 rfl rfl rfl rfl (Nat.le_of_ble_eq_true rfl) (Nat.le_of_ble_eq_true rfl) rfl (by decide))))))
set_option maxRecDepth 10000 in
theorem b89_8 {d : Nat} {l0 : Option sm_V} {l1 : Option sm_V} {s0 : Int} {Z : Nat → Nat → Int} {Rf : Nat → Nat → Option Nat} {K : Nat → Nat × Nat} {n z : Nat} {Q : Option sm_V → sm_S → Prop} : sm_wp d 89 8 [l0, l1] [.inl s0] (Z, Rf, K, n, z) Q = (if wr s0 = 0 then sm_wp d 89 23 [l0, l1] [] (Z, Rf, K, n, z) Q else sm_wp d 89 11 [l0, l1] [] (Z, Rf, K, n, z) Q) := w_ifeq t89_8 rfl rfl rfl
set_option maxRecDepth 10000 in
theorem b89_11 {d : Nat} {r0 : Nat} {x1 : Int} {Z : Nat → Nat → Int} {Rf : Nat → Nat → Option Nat} {K : Nat → Nat × Nat} {n z : Nat} {Q : Option sm_V → sm_S → Prop} : sm_wp d 89 11 [some (.inr (some r0)), some (.inl x1)] [] (Z, Rf, K, n, z) Q = ((K r0).1 = 10 ∧ (Rf r0 0).isSome = true ∧ (K (((Rf r0 0).getD 0))).1 = 1 ∧ (Rf (((Rf r0 0).getD 0)) 8).isSome = true ∧ sm_rd (K (((Rf (((Rf r0 0).getD 0)) 8).getD 0))) (wr x1) ∧ (if wr (Z (((Rf (((Rf r0 0).getD 0)) 8).getD 0)) ((wr x1).toNat)) = 0 then sm_wp d 89 25 [some (.inr (some r0)), some (.inl x1)] [] (Z, Rf, K, n, z) Q else sm_wp d 89 23 [some (.inr (some r0)), some (.inl x1)] [] (Z, Rf, K, n, z) Q)) := (w_aload_n t89_11 rfl rfl).trans ((w_getR t89_12 rfl (by decide)).trans (congrArg (And _) (congrArg (And _) ((w_getR t89_15 rfl (by decide)).trans (congrArg (And _) (congrArg (And _) ((w_iload_n t89_18 rfl rfl).trans ((w_iald t89_19 rfl rfl).trans (congrArg (And _) (w_ifeq t89_20 rfl rfl rfl))))))))))
set_option maxRecDepth 10000 in
theorem b89_23 {d : Nat} {l0 : Option sm_V} {l1 : Option sm_V} {Z : Nat → Nat → Int} {Rf : Nat → Nat → Option Nat} {K : Nat → Nat × Nat} {n z : Nat} {Q : Option sm_V → sm_S → Prop} : sm_wp d 89 23 [l0, l1] [] (Z, Rf, K, n, z) Q = (((0 : Int) = 0 ∨ (0 : Int) = 1) ∧ Q (some (.inl 0)) (Z, Rf, K, n, z)) := (w_iconst t89_23 rfl).trans (w_zret t89_24 wl_0)
set_option maxRecDepth 10000 in
theorem b89_25 {d : Nat} {r0 : Nat} {x1 : Int} {Z : Nat → Nat → Int} {Rf : Nat → Nat → Option Nat} {K : Nat → Nat × Nat} {n z : Nat} {Q : Option sm_V → sm_S → Prop} : sm_wp d 89 25 [some (.inr (some r0)), some (.inl x1)] [] (Z, Rf, K, n, z) Q = ((K r0).1 = 10 ∧ (Rf r0 0).isSome = true ∧ (K (((Rf r0 0).getD 0))).1 = 1 ∧ (Rf (((Rf r0 0).getD 0)) 8).isSome = true ∧ sm_wt (K (((Rf (((Rf r0 0).getD 0)) 8).getD 0))) (wr x1) ∧ ((1 : Int) = 0 ∨ (1 : Int) = 1) ∧ Q (some (.inl 1)) (sm_u Z (((Rf (((Rf r0 0).getD 0)) 8).getD 0)) ((wr x1).toNat) 1, Rf, K, n, z)) := (w_aload_n t89_25 rfl rfl).trans ((w_getR t89_26 rfl (by decide)).trans (congrArg (And _) (congrArg (And _) ((w_getR t89_29 rfl (by decide)).trans (congrArg (And _) (congrArg (And _) ((w_iload_n t89_32 rfl rfl).trans ((w_iconst t89_33 rfl).trans ((w_iast t89_34 rfl rfl).trans (congrArg (And _) ((w_iconst t89_35 rfl).trans (w_zret t89_36 wl_1))))))))))))
theorem t90_0 : sm_at 90 0 = some (1, .aload_n 0, 0, 0, 0) := rfl
theorem t90_1 : sm_at 90 1 = some (3, .getfield 10, 10, 0, 0) := rfl
theorem t90_4 : sm_at 90 4 = some (1, .iload_n 1, 0, 0, 0) := rfl
theorem t90_5 : sm_at 90 5 = some (1, .iload_n 2, 0, 0, 0) := rfl
theorem t90_6 : sm_at 90 6 = some (3, .invokevirtual 99, 10, 3, 0) := rfl
theorem t90_9 : sm_at 90 9 = some (3, .ifCond .ne 5, 0, 0, 0) := rfl
theorem t90_12 : sm_at 90 12 = some (1, .iconst 0, 0, 0, 0) := rfl
theorem t90_13 : sm_at 90 13 = some (1, .ireturn, 1, 0, 0) := rfl
theorem t90_14 : sm_at 90 14 = some (1, .aload_n 0, 0, 0, 0) := rfl
theorem t90_15 : sm_at 90 15 = some (3, .getfield 10, 10, 0, 0) := rfl
theorem t90_18 : sm_at 90 18 = some (3, .getfield 102, 1, 11, 0) := rfl
theorem t90_21 : sm_at 90 21 = some (1, .iload_n 2, 0, 0, 0) := rfl
theorem t90_22 : sm_at 90 22 = some (2, .bipush 11, 0, 0, 0) := rfl
theorem t90_24 : sm_at 90 24 = some (1, .imul, 0, 0, 0) := rfl
theorem t90_25 : sm_at 90 25 = some (1, .iload_n 1, 0, 0, 0) := rfl
theorem t90_26 : sm_at 90 26 = some (1, .iadd, 0, 0, 0) := rfl
theorem t90_27 : sm_at 90 27 = some (1, .iload_n 3, 0, 0, 0) := rfl
theorem t90_28 : sm_at 90 28 = some (3, .ifCond .eq 7, 0, 0, 0) := rfl
theorem t90_31 : sm_at 90 31 = some (1, .iconst 1, 0, 0, 0) := rfl
theorem t90_32 : sm_at 90 32 = some (3, .goto 4, 0, 0, 0) := rfl
theorem t90_35 : sm_at 90 35 = some (1, .iconst 0, 0, 0, 0) := rfl
theorem t90_36 : sm_at 90 36 = some (1, .iastore, 0, 0, 0) := rfl
theorem t90_37 : sm_at 90 37 = some (1, .iconst 1, 0, 0, 0) := rfl
theorem t90_38 : sm_at 90 38 = some (1, .ireturn, 1, 0, 0) := rfl
set_option maxRecDepth 10000 in
theorem b90_0 {d : Nat} {r0 : Nat} {x1 : Int} {x2 : Int} {l3 : Option sm_V} {Z : Nat → Nat → Int} {Rf : Nat → Nat → Option Nat} {K : Nat → Nat × Nat} {n z : Nat} {Q : Option sm_V → sm_S → Prop} : sm_wp (d + 1) 90 0 [some (.inr (some r0)), some (.inl x1), some (.inl x2), l3] [] (Z, Rf, K, n, z) Q = ((K r0).1 = 10 ∧ (Rf r0 0).isSome = true ∧ (K (((Rf r0 0).getD 0))).1 = 1 ∧ sm_call d 10 [.inr (some ((Rf r0 0).getD 0)), .inl x1, .inl x2] (Z, Rf, K, n, z) (sm_cont (d + 1) 90 9 [some (.inr (some r0)), some (.inl x1), some (.inl x2), l3] [] Q)) := (w_aload_n t90_0 rfl rfl).trans ((w_getR t90_1 rfl (by decide)).trans (congrArg (And _) (congrArg (And _) ((w_iload_n t90_4 rfl rfl).trans ((w_iload_n t90_5 rfl rfl).trans (w_callV t90_6 rfl rfl rfl rfl (Nat.le_of_ble_eq_true rfl) (Nat.le_of_ble_eq_true rfl) rfl (by decide)))))))
set_option maxRecDepth 10000 in
theorem b90_9 {d : Nat} {l0 : Option sm_V} {l1 : Option sm_V} {l2 : Option sm_V} {l3 : Option sm_V} {s0 : Int} {Z : Nat → Nat → Int} {Rf : Nat → Nat → Option Nat} {K : Nat → Nat × Nat} {n z : Nat} {Q : Option sm_V → sm_S → Prop} : sm_wp d 90 9 [l0, l1, l2, l3] [.inl s0] (Z, Rf, K, n, z) Q = (if wr s0 = 0 then sm_wp d 90 12 [l0, l1, l2, l3] [] (Z, Rf, K, n, z) Q else sm_wp d 90 14 [l0, l1, l2, l3] [] (Z, Rf, K, n, z) Q) := w_ifne t90_9 rfl rfl rfl
set_option maxRecDepth 10000 in
theorem b90_12 {d : Nat} {l0 : Option sm_V} {l1 : Option sm_V} {l2 : Option sm_V} {l3 : Option sm_V} {Z : Nat → Nat → Int} {Rf : Nat → Nat → Option Nat} {K : Nat → Nat × Nat} {n z : Nat} {Q : Option sm_V → sm_S → Prop} : sm_wp d 90 12 [l0, l1, l2, l3] [] (Z, Rf, K, n, z) Q = (((0 : Int) = 0 ∨ (0 : Int) = 1) ∧ Q (some (.inl 0)) (Z, Rf, K, n, z)) := (w_iconst t90_12 rfl).trans (w_zret t90_13 wl_0)
set_option maxRecDepth 10000 in
theorem b90_14 {d : Nat} {r0 : Nat} {x1 : Int} {x2 : Int} {x3 : Int} {Z : Nat → Nat → Int} {Rf : Nat → Nat → Option Nat} {K : Nat → Nat × Nat} {n z : Nat} {Q : Option sm_V → sm_S → Prop} : sm_wp d 90 14 [some (.inr (some r0)), some (.inl x1), some (.inl x2), some (.inl x3)] [] (Z, Rf, K, n, z) Q = ((K r0).1 = 10 ∧ (Rf r0 0).isSome = true ∧ (K (((Rf r0 0).getD 0))).1 = 1 ∧ (Rf (((Rf r0 0).getD 0)) 11).isSome = true ∧ (if wr x3 = 0 then sm_wp d 90 35 [some (.inr (some r0)), some (.inl x1), some (.inl x2), some (.inl x3)] [.inl ((x2 * 11) + x1), .inr (some ((Rf (((Rf r0 0).getD 0)) 11).getD 0))] (Z, Rf, K, n, z) Q else sm_wp d 90 31 [some (.inr (some r0)), some (.inl x1), some (.inl x2), some (.inl x3)] [.inl ((x2 * 11) + x1), .inr (some ((Rf (((Rf r0 0).getD 0)) 11).getD 0))] (Z, Rf, K, n, z) Q)) := (w_aload_n t90_14 rfl rfl).trans ((w_getR t90_15 rfl (by decide)).trans (congrArg (And _) (congrArg (And _) ((w_getR t90_18 rfl (by decide)).trans (congrArg (And _) (congrArg (And _) ((w_iload_n t90_21 rfl rfl).trans ((w_bipush t90_22 rfl).trans ((w_imul t90_24 rfl).trans ((w_iload_n t90_25 rfl rfl).trans ((w_iadd t90_26 rfl).trans ((w_iload_n t90_27 rfl rfl).trans (w_ifeq t90_28 rfl rfl rfl)))))))))))))
set_option maxRecDepth 10000 in
theorem b90_31 {d : Nat} {l0 : Option sm_V} {l1 : Option sm_V} {l2 : Option sm_V} {l3 : Option sm_V} {qs0 : Option Nat} {s1 : Int} {Z : Nat → Nat → Int} {Rf : Nat → Nat → Option Nat} {K : Nat → Nat × Nat} {n z : Nat} {Q : Option sm_V → sm_S → Prop} : sm_wp d 90 31 [l0, l1, l2, l3] [.inl s1, .inr qs0] (Z, Rf, K, n, z) Q = (sm_wp d 90 36 [l0, l1, l2, l3] [.inl 1, .inl s1, .inr qs0] (Z, Rf, K, n, z) Q) := (w_iconst t90_31 rfl).trans (w_goto t90_32 rfl)
set_option maxRecDepth 10000 in
theorem b90_35 {d : Nat} {l0 : Option sm_V} {l1 : Option sm_V} {l2 : Option sm_V} {l3 : Option sm_V} {qs0 : Option Nat} {s1 : Int} {Z : Nat → Nat → Int} {Rf : Nat → Nat → Option Nat} {K : Nat → Nat × Nat} {n z : Nat} {Q : Option sm_V → sm_S → Prop} : sm_wp d 90 35 [l0, l1, l2, l3] [.inl s1, .inr qs0] (Z, Rf, K, n, z) Q = (sm_wp d 90 36 [l0, l1, l2, l3] [.inl 0, .inl s1, .inr qs0] (Z, Rf, K, n, z) Q) := w_iconst t90_35 rfl
set_option maxRecDepth 10000 in
theorem b90_36 {d : Nat} {l0 : Option sm_V} {l1 : Option sm_V} {l2 : Option sm_V} {l3 : Option sm_V} {rs0 : Nat} {s1 : Int} {s2 : Int} {Z : Nat → Nat → Int} {Rf : Nat → Nat → Option Nat} {K : Nat → Nat × Nat} {n z : Nat} {Q : Option sm_V → sm_S → Prop} : sm_wp d 90 36 [l0, l1, l2, l3] [.inl s2, .inl s1, .inr (some rs0)] (Z, Rf, K, n, z) Q = (sm_wt (K rs0) (wr s1) ∧ ((1 : Int) = 0 ∨ (1 : Int) = 1) ∧ Q (some (.inl 1)) (sm_u Z rs0 ((wr s1).toNat) s2, Rf, K, n, z)) := (w_iast t90_36 rfl rfl).trans (congrArg (And _) ((w_iconst t90_37 rfl).trans (w_zret t90_38 wl_1)))
theorem t91_0 : sm_at 91 0 = some (1, .aload_n 0, 0, 0, 0) := rfl
theorem t91_1 : sm_at 91 1 = some (3, .getfield 10, 10, 0, 0) := rfl
theorem t91_4 : sm_at 91 4 = some (1, .iload_n 1, 0, 0, 0) := rfl
theorem t91_5 : sm_at 91 5 = some (1, .iload_n 2, 0, 0, 0) := rfl
theorem t91_6 : sm_at 91 6 = some (3, .invokevirtual 99, 10, 3, 0) := rfl
theorem t91_9 : sm_at 91 9 = some (3, .ifCond .eq 21, 0, 0, 0) := rfl
theorem t91_12 : sm_at 91 12 = some (1, .aload_n 0, 0, 0, 0) := rfl
theorem t91_13 : sm_at 91 13 = some (3, .getfield 10, 10, 0, 0) := rfl
theorem t91_16 : sm_at 91 16 = some (3, .getfield 105, 1, 12, 0) := rfl
theorem t91_19 : sm_at 91 19 = some (1, .iload_n 1, 0, 0, 0) := rfl
theorem t91_20 : sm_at 91 20 = some (1, .iload_n 2, 0, 0, 0) := rfl
theorem t91_21 : sm_at 91 21 = some (1, .iconst 0, 0, 0, 0) := rfl
theorem t91_22 : sm_at 91 22 = some (1, .iconst 0, 0, 0, 0) := rfl
theorem t91_23 : sm_at 91 23 = some (1, .iconst 0, 0, 0, 0) := rfl
theorem t91_24 : sm_at 91 24 = some (3, .invokevirtual 109, 52, 6, 0) := rfl
theorem t91_27 : sm_at 91 27 = some (3, .goto 4, 0, 0, 0) := rfl
theorem t91_30 : sm_at 91 30 = some (1, .iconst (-1), 0, 0, 0) := rfl
theorem t91_31 : sm_at 91 31 = some (1, .ireturn, 0, 0, 0) := rfl
set_option maxRecDepth 10000 in
theorem b91_0 {d : Nat} {r0 : Nat} {x1 : Int} {x2 : Int} {Z : Nat → Nat → Int} {Rf : Nat → Nat → Option Nat} {K : Nat → Nat × Nat} {n z : Nat} {Q : Option sm_V → sm_S → Prop} : sm_wp (d + 1) 91 0 [some (.inr (some r0)), some (.inl x1), some (.inl x2)] [] (Z, Rf, K, n, z) Q = ((K r0).1 = 10 ∧ (Rf r0 0).isSome = true ∧ (K (((Rf r0 0).getD 0))).1 = 1 ∧ sm_call d 10 [.inr (some ((Rf r0 0).getD 0)), .inl x1, .inl x2] (Z, Rf, K, n, z) (sm_cont (d + 1) 91 9 [some (.inr (some r0)), some (.inl x1), some (.inl x2)] [] Q)) := (w_aload_n t91_0 rfl rfl).trans ((w_getR t91_1 rfl (by decide)).trans (congrArg (And _) (congrArg (And _) ((w_iload_n t91_4 rfl rfl).trans ((w_iload_n t91_5 rfl rfl).trans (w_callV t91_6 rfl rfl rfl rfl (Nat.le_of_ble_eq_true rfl) (Nat.le_of_ble_eq_true rfl) rfl (by decide)))))))
set_option maxRecDepth 10000 in
theorem b91_9 {d : Nat} {l0 : Option sm_V} {l1 : Option sm_V} {l2 : Option sm_V} {s0 : Int} {Z : Nat → Nat → Int} {Rf : Nat → Nat → Option Nat} {K : Nat → Nat × Nat} {n z : Nat} {Q : Option sm_V → sm_S → Prop} : sm_wp d 91 9 [l0, l1, l2] [.inl s0] (Z, Rf, K, n, z) Q = (if wr s0 = 0 then sm_wp d 91 30 [l0, l1, l2] [] (Z, Rf, K, n, z) Q else sm_wp d 91 12 [l0, l1, l2] [] (Z, Rf, K, n, z) Q) := w_ifeq t91_9 rfl rfl rfl
set_option maxRecDepth 10000 in
theorem b91_12 {d : Nat} {r0 : Nat} {x1 : Int} {x2 : Int} {Z : Nat → Nat → Int} {Rf : Nat → Nat → Option Nat} {K : Nat → Nat × Nat} {n z : Nat} {Q : Option sm_V → sm_S → Prop} : sm_wp (d + 1) 91 12 [some (.inr (some r0)), some (.inl x1), some (.inl x2)] [] (Z, Rf, K, n, z) Q = ((K r0).1 = 10 ∧ (Rf r0 0).isSome = true ∧ (K (((Rf r0 0).getD 0))).1 = 1 ∧ (Rf (((Rf r0 0).getD 0)) 12).isSome = true ∧ (K (((Rf (((Rf r0 0).getD 0)) 12).getD 0))).1 = 5 ∧ sm_call d 52 [.inr (some ((Rf (((Rf r0 0).getD 0)) 12).getD 0)), .inl x1, .inl x2, .inl 0, .inl 0, .inl 0] (Z, Rf, K, n, z) (sm_cont (d + 1) 91 27 [some (.inr (some r0)), some (.inl x1), some (.inl x2)] [] Q)) := (w_aload_n t91_12 rfl rfl).trans ((w_getR t91_13 rfl (by decide)).trans (congrArg (And _) (congrArg (And _) ((w_getR t91_16 rfl (by decide)).trans (congrArg (And _) (congrArg (And _) ((w_iload_n t91_19 rfl rfl).trans ((w_iload_n t91_20 rfl rfl).trans ((w_iconst t91_21 rfl).trans ((w_iconst t91_22 rfl).trans ((w_iconst t91_23 rfl).trans (w_callV t91_24 rfl rfl rfl rfl (Nat.le_of_ble_eq_true rfl) (Nat.le_of_ble_eq_true rfl) rfl (by decide)))))))))))))
set_option maxRecDepth 10000 in
theorem b91_27 {d : Nat} {l0 : Option sm_V} {l1 : Option sm_V} {l2 : Option sm_V} {s0 : Int} {Z : Nat → Nat → Int} {Rf : Nat → Nat → Option Nat} {K : Nat → Nat × Nat} {n z : Nat} {Q : Option sm_V → sm_S → Prop} : sm_wp d 91 27 [l0, l1, l2] [.inl s0] (Z, Rf, K, n, z) Q = (sm_wp d 91 31 [l0, l1, l2] [.inl s0] (Z, Rf, K, n, z) Q) := w_goto t91_27 rfl
set_option maxRecDepth 10000 in
theorem b91_30 {d : Nat} {l0 : Option sm_V} {l1 : Option sm_V} {l2 : Option sm_V} {Z : Nat → Nat → Int} {Rf : Nat → Nat → Option Nat} {K : Nat → Nat × Nat} {n z : Nat} {Q : Option sm_V → sm_S → Prop} : sm_wp d 91 30 [l0, l1, l2] [] (Z, Rf, K, n, z) Q = (sm_wp d 91 31 [l0, l1, l2] [.inl ((-1))] (Z, Rf, K, n, z) Q) := w_iconst t91_30 rfl
set_option maxRecDepth 10000 in
theorem b91_31 {d : Nat} {l0 : Option sm_V} {l1 : Option sm_V} {l2 : Option sm_V} {s0 : Int} {Z : Nat → Nat → Int} {Rf : Nat → Nat → Option Nat} {K : Nat → Nat × Nat} {n z : Nat} {Q : Option sm_V → sm_S → Prop} : sm_wp d 91 31 [l0, l1, l2] [.inl s0] (Z, Rf, K, n, z) Q = (Q (some (.inl s0)) (Z, Rf, K, n, z)) := w_iret t91_31
theorem t92_0 : sm_at 92 0 = some (1, .aload_n 0, 0, 0, 0) := rfl
theorem t92_1 : sm_at 92 1 = some (3, .getfield 10, 10, 0, 0) := rfl
theorem t92_4 : sm_at 92 4 = some (1, .iload_n 1, 0, 0, 0) := rfl
theorem t92_5 : sm_at 92 5 = some (1, .iload_n 2, 0, 0, 0) := rfl
theorem t92_6 : sm_at 92 6 = some (3, .invokevirtual 99, 10, 3, 0) := rfl
theorem t92_9 : sm_at 92 9 = some (3, .ifCond .eq 33, 0, 0, 0) := rfl
theorem t92_12 : sm_at 92 12 = some (1, .iload_n 3, 0, 0, 0) := rfl
theorem t92_13 : sm_at 92 13 = some (1, .iconst 0, 0, 0, 0) := rfl
theorem t92_14 : sm_at 92 14 = some (1, .iconst 3, 0, 0, 0) := rfl
theorem t92_15 : sm_at 92 15 = some (3, .invokestatic 65, 112, 3, 0) := rfl
theorem t92_18 : sm_at 92 18 = some (3, .ifCond .eq 24, 0, 0, 0) := rfl
theorem t92_21 : sm_at 92 21 = some (2, .iload 4, 0, 0, 0) := rfl
theorem t92_23 : sm_at 92 23 = some (1, .iconst 0, 0, 0, 0) := rfl
theorem t92_24 : sm_at 92 24 = some (2, .bipush 60, 0, 0, 0) := rfl
theorem t92_26 : sm_at 92 26 = some (3, .invokestatic 65, 112, 3, 0) := rfl
theorem t92_29 : sm_at 92 29 = some (3, .ifCond .eq 13, 0, 0, 0) := rfl
theorem t92_32 : sm_at 92 32 = some (2, .iload 5, 0, 0, 0) := rfl
theorem t92_34 : sm_at 92 34 = some (1, .iconst 0, 0, 0, 0) := rfl
theorem t92_35 : sm_at 92 35 = some (1, .iconst 3, 0, 0, 0) := rfl
theorem t92_36 : sm_at 92 36 = some (3, .invokestatic 65, 112, 3, 0) := rfl
theorem t92_39 : sm_at 92 39 = some (3, .ifCond .ne 5, 0, 0, 0) := rfl
theorem t92_42 : sm_at 92 42 = some (1, .iconst (-1), 0, 0, 0) := rfl
theorem t92_43 : sm_at 92 43 = some (1, .ireturn, 0, 0, 0) := rfl
theorem t92_44 : sm_at 92 44 = some (1, .aload_n 0, 0, 0, 0) := rfl
theorem t92_45 : sm_at 92 45 = some (3, .getfield 10, 10, 0, 0) := rfl
theorem t92_48 : sm_at 92 48 = some (3, .getfield 115, 1, 13, 0) := rfl
theorem t92_51 : sm_at 92 51 = some (1, .iload_n 1, 0, 0, 0) := rfl
theorem t92_52 : sm_at 92 52 = some (1, .iload_n 2, 0, 0, 0) := rfl
theorem t92_53 : sm_at 92 53 = some (1, .iload_n 3, 0, 0, 0) := rfl
theorem t92_54 : sm_at 92 54 = some (2, .iload 4, 0, 0, 0) := rfl
theorem t92_56 : sm_at 92 56 = some (2, .iload 5, 0, 0, 0) := rfl
theorem t92_58 : sm_at 92 58 = some (3, .invokevirtual 109, 52, 6, 0) := rfl
theorem t92_61 : sm_at 92 61 = some (1, .ireturn, 0, 0, 0) := rfl
set_option maxRecDepth 10000 in
theorem b92_0 {d : Nat} {r0 : Nat} {x1 : Int} {x2 : Int} {l3 : Option sm_V} {l4 : Option sm_V} {l5 : Option sm_V} {Z : Nat → Nat → Int} {Rf : Nat → Nat → Option Nat} {K : Nat → Nat × Nat} {n z : Nat} {Q : Option sm_V → sm_S → Prop} : sm_wp (d + 1) 92 0 [some (.inr (some r0)), some (.inl x1), some (.inl x2), l3, l4, l5] [] (Z, Rf, K, n, z) Q = ((K r0).1 = 10 ∧ (Rf r0 0).isSome = true ∧ (K (((Rf r0 0).getD 0))).1 = 1 ∧ sm_call d 10 [.inr (some ((Rf r0 0).getD 0)), .inl x1, .inl x2] (Z, Rf, K, n, z) (sm_cont (d + 1) 92 9 [some (.inr (some r0)), some (.inl x1), some (.inl x2), l3, l4, l5] [] Q)) := (w_aload_n t92_0 rfl rfl).trans ((w_getR t92_1 rfl (by decide)).trans (congrArg (And _) (congrArg (And _) ((w_iload_n t92_4 rfl rfl).trans ((w_iload_n t92_5 rfl rfl).trans (w_callV t92_6 rfl rfl rfl rfl (Nat.le_of_ble_eq_true rfl) (Nat.le_of_ble_eq_true rfl) rfl (by decide)))))))
set_option maxRecDepth 10000 in
theorem b92_9 {d : Nat} {l0 : Option sm_V} {l1 : Option sm_V} {l2 : Option sm_V} {l3 : Option sm_V} {l4 : Option sm_V} {l5 : Option sm_V} {s0 : Int} {Z : Nat → Nat → Int} {Rf : Nat → Nat → Option Nat} {K : Nat → Nat × Nat} {n z : Nat} {Q : Option sm_V → sm_S → Prop} : sm_wp d 92 9 [l0, l1, l2, l3, l4, l5] [.inl s0] (Z, Rf, K, n, z) Q = (if wr s0 = 0 then sm_wp d 92 42 [l0, l1, l2, l3, l4, l5] [] (Z, Rf, K, n, z) Q else sm_wp d 92 12 [l0, l1, l2, l3, l4, l5] [] (Z, Rf, K, n, z) Q) := w_ifeq t92_9 rfl rfl rfl
set_option maxRecDepth 10000 in
theorem b92_12 {d : Nat} {l0 : Option sm_V} {l1 : Option sm_V} {l2 : Option sm_V} {x3 : Int} {l4 : Option sm_V} {l5 : Option sm_V} {Z : Nat → Nat → Int} {Rf : Nat → Nat → Option Nat} {K : Nat → Nat × Nat} {n z : Nat} {Q : Option sm_V → sm_S → Prop} : sm_wp (d + 1) 92 12 [l0, l1, l2, some (.inl x3), l4, l5] [] (Z, Rf, K, n, z) Q = (sm_call d 112 [.inl x3, .inl 0, .inl 3] (Z, Rf, K, n, z) (sm_cont (d + 1) 92 18 [l0, l1, l2, some (.inl x3), l4, l5] [] Q)) := (w_iload_n t92_12 rfl rfl).trans ((w_iconst t92_13 rfl).trans ((w_iconst t92_14 rfl).trans (w_callS t92_15 rfl rfl rfl rfl (Nat.le_of_ble_eq_true rfl) (Nat.le_of_ble_eq_true rfl) rfl)))
set_option maxRecDepth 10000 in
theorem b92_18 {d : Nat} {l0 : Option sm_V} {l1 : Option sm_V} {l2 : Option sm_V} {l3 : Option sm_V} {l4 : Option sm_V} {l5 : Option sm_V} {s0 : Int} {Z : Nat → Nat → Int} {Rf : Nat → Nat → Option Nat} {K : Nat → Nat × Nat} {n z : Nat} {Q : Option sm_V → sm_S → Prop} : sm_wp d 92 18 [l0, l1, l2, l3, l4, l5] [.inl s0] (Z, Rf, K, n, z) Q = (if wr s0 = 0 then sm_wp d 92 42 [l0, l1, l2, l3, l4, l5] [] (Z, Rf, K, n, z) Q else sm_wp d 92 21 [l0, l1, l2, l3, l4, l5] [] (Z, Rf, K, n, z) Q) := w_ifeq t92_18 rfl rfl rfl
set_option maxRecDepth 10000 in
theorem b92_21 {d : Nat} {l0 : Option sm_V} {l1 : Option sm_V} {l2 : Option sm_V} {l3 : Option sm_V} {x4 : Int} {l5 : Option sm_V} {Z : Nat → Nat → Int} {Rf : Nat → Nat → Option Nat} {K : Nat → Nat × Nat} {n z : Nat} {Q : Option sm_V → sm_S → Prop} : sm_wp (d + 1) 92 21 [l0, l1, l2, l3, some (.inl x4), l5] [] (Z, Rf, K, n, z) Q = (sm_call d 112 [.inl x4, .inl 0, .inl 60] (Z, Rf, K, n, z) (sm_cont (d + 1) 92 29 [l0, l1, l2, l3, some (.inl x4), l5] [] Q)) := (w_iload t92_21 rfl rfl).trans ((w_iconst t92_23 rfl).trans ((w_bipush t92_24 rfl).trans (w_callS t92_26 rfl rfl rfl rfl (Nat.le_of_ble_eq_true rfl) (Nat.le_of_ble_eq_true rfl) rfl)))
set_option maxRecDepth 10000 in
theorem b92_29 {d : Nat} {l0 : Option sm_V} {l1 : Option sm_V} {l2 : Option sm_V} {l3 : Option sm_V} {l4 : Option sm_V} {l5 : Option sm_V} {s0 : Int} {Z : Nat → Nat → Int} {Rf : Nat → Nat → Option Nat} {K : Nat → Nat × Nat} {n z : Nat} {Q : Option sm_V → sm_S → Prop} : sm_wp d 92 29 [l0, l1, l2, l3, l4, l5] [.inl s0] (Z, Rf, K, n, z) Q = (if wr s0 = 0 then sm_wp d 92 42 [l0, l1, l2, l3, l4, l5] [] (Z, Rf, K, n, z) Q else sm_wp d 92 32 [l0, l1, l2, l3, l4, l5] [] (Z, Rf, K, n, z) Q) := w_ifeq t92_29 rfl rfl rfl
set_option maxRecDepth 10000 in
theorem b92_32 {d : Nat} {l0 : Option sm_V} {l1 : Option sm_V} {l2 : Option sm_V} {l3 : Option sm_V} {l4 : Option sm_V} {x5 : Int} {Z : Nat → Nat → Int} {Rf : Nat → Nat → Option Nat} {K : Nat → Nat × Nat} {n z : Nat} {Q : Option sm_V → sm_S → Prop} : sm_wp (d + 1) 92 32 [l0, l1, l2, l3, l4, some (.inl x5)] [] (Z, Rf, K, n, z) Q = (sm_call d 112 [.inl x5, .inl 0, .inl 3] (Z, Rf, K, n, z) (sm_cont (d + 1) 92 39 [l0, l1, l2, l3, l4, some (.inl x5)] [] Q)) := (w_iload t92_32 rfl rfl).trans ((w_iconst t92_34 rfl).trans ((w_iconst t92_35 rfl).trans (w_callS t92_36 rfl rfl rfl rfl (Nat.le_of_ble_eq_true rfl) (Nat.le_of_ble_eq_true rfl) rfl)))
set_option maxRecDepth 10000 in
theorem b92_39 {d : Nat} {l0 : Option sm_V} {l1 : Option sm_V} {l2 : Option sm_V} {l3 : Option sm_V} {l4 : Option sm_V} {l5 : Option sm_V} {s0 : Int} {Z : Nat → Nat → Int} {Rf : Nat → Nat → Option Nat} {K : Nat → Nat × Nat} {n z : Nat} {Q : Option sm_V → sm_S → Prop} : sm_wp d 92 39 [l0, l1, l2, l3, l4, l5] [.inl s0] (Z, Rf, K, n, z) Q = (if wr s0 = 0 then sm_wp d 92 42 [l0, l1, l2, l3, l4, l5] [] (Z, Rf, K, n, z) Q else sm_wp d 92 44 [l0, l1, l2, l3, l4, l5] [] (Z, Rf, K, n, z) Q) := w_ifne t92_39 rfl rfl rfl
set_option maxRecDepth 10000 in
theorem b92_42 {d : Nat} {l0 : Option sm_V} {l1 : Option sm_V} {l2 : Option sm_V} {l3 : Option sm_V} {l4 : Option sm_V} {l5 : Option sm_V} {Z : Nat → Nat → Int} {Rf : Nat → Nat → Option Nat} {K : Nat → Nat × Nat} {n z : Nat} {Q : Option sm_V → sm_S → Prop} : sm_wp d 92 42 [l0, l1, l2, l3, l4, l5] [] (Z, Rf, K, n, z) Q = (Q (some (.inl ((-1)))) (Z, Rf, K, n, z)) := (w_iconst t92_42 rfl).trans (w_iret t92_43)
set_option maxRecDepth 10000 in
theorem b92_44 {d : Nat} {r0 : Nat} {x1 : Int} {x2 : Int} {x3 : Int} {x4 : Int} {x5 : Int} {Z : Nat → Nat → Int} {Rf : Nat → Nat → Option Nat} {K : Nat → Nat × Nat} {n z : Nat} {Q : Option sm_V → sm_S → Prop} : sm_wp (d + 1) 92 44 [some (.inr (some r0)), some (.inl x1), some (.inl x2), some (.inl x3), some (.inl x4), some (.inl x5)] [] (Z, Rf, K, n, z) Q = ((K r0).1 = 10 ∧ (Rf r0 0).isSome = true ∧ (K (((Rf r0 0).getD 0))).1 = 1 ∧ (Rf (((Rf r0 0).getD 0)) 13).isSome = true ∧ (K (((Rf (((Rf r0 0).getD 0)) 13).getD 0))).1 = 5 ∧ sm_call d 52 [.inr (some ((Rf (((Rf r0 0).getD 0)) 13).getD 0)), .inl x1, .inl x2, .inl x3, .inl x4, .inl x5] (Z, Rf, K, n, z) (sm_cont (d + 1) 92 61 [some (.inr (some r0)), some (.inl x1), some (.inl x2), some (.inl x3), some (.inl x4), some (.inl x5)] [] Q)) := (w_aload_n t92_44 rfl rfl).trans ((w_getR t92_45 rfl (by decide)).trans (congrArg (And _) (congrArg (And _) ((w_getR t92_48 rfl (by decide)).trans (congrArg (And _) (congrArg (And _) ((w_iload_n t92_51 rfl rfl).trans ((w_iload_n t92_52 rfl rfl).trans ((w_iload_n t92_53 rfl rfl).trans ((w_iload t92_54 rfl rfl).trans ((w_iload t92_56 rfl rfl).trans (w_callV t92_58 rfl rfl rfl rfl (Nat.le_of_ble_eq_true rfl) (Nat.le_of_ble_eq_true rfl) rfl (by decide)))))))))))))
set_option maxRecDepth 10000 in
theorem b92_61 {d : Nat} {l0 : Option sm_V} {l1 : Option sm_V} {l2 : Option sm_V} {l3 : Option sm_V} {l4 : Option sm_V} {l5 : Option sm_V} {s0 : Int} {Z : Nat → Nat → Int} {Rf : Nat → Nat → Option Nat} {K : Nat → Nat × Nat} {n z : Nat} {Q : Option sm_V → sm_S → Prop} : sm_wp d 92 61 [l0, l1, l2, l3, l4, l5] [.inl s0] (Z, Rf, K, n, z) Q = (Q (some (.inl s0)) (Z, Rf, K, n, z)) := w_iret t92_61
theorem t93_0 : sm_at 93 0 = some (1, .aload_n 0, 0, 0, 0) := rfl
theorem t93_1 : sm_at 93 1 = some (3, .getfield 118, 10, 8, 0) := rfl
theorem t93_4 : sm_at 93 4 = some (3, .sipush 380, 0, 0, 0) := rfl
theorem t93_7 : sm_at 93 7 = some (3, .if_icmp .le 5, 0, 0, 0) := rfl
theorem t93_10 : sm_at 93 10 = some (1, .iconst (-1), 0, 0, 0) := rfl
theorem t93_11 : sm_at 93 11 = some (1, .ireturn, 0, 0, 0) := rfl
theorem t93_12 : sm_at 93 12 = some (1, .aload_n 0, 0, 0, 0) := rfl
theorem t93_13 : sm_at 93 13 = some (1, .iload_n 1, 0, 0, 0) := rfl
theorem t93_14 : sm_at 93 14 = some (3, .invokevirtual 121, 115, 2, 0) := rfl
theorem t93_17 : sm_at 93 17 = some (1, .aload_n 0, 0, 0, 0) := rfl
theorem t93_18 : sm_at 93 18 = some (1, .iload_n 2, 0, 0, 0) := rfl
theorem t93_19 : sm_at 93 19 = some (3, .invokevirtual 121, 115, 2, 0) := rfl
theorem t93_22 : sm_at 93 22 = some (1, .aload_n 0, 0, 0, 0) := rfl
theorem t93_23 : sm_at 93 23 = some (1, .iload_n 3, 0, 0, 0) := rfl
theorem t93_24 : sm_at 93 24 = some (3, .invokevirtual 121, 115, 2, 0) := rfl
theorem t93_27 : sm_at 93 27 = some (1, .aload_n 0, 0, 0, 0) := rfl
theorem t93_28 : sm_at 93 28 = some (2, .iload 4, 0, 0, 0) := rfl
theorem t93_30 : sm_at 93 30 = some (3, .invokevirtual 121, 115, 2, 0) := rfl
theorem t93_33 : sm_at 93 33 = some (1, .aload_n 0, 0, 0, 0) := rfl
theorem t93_34 : sm_at 93 34 = some (2, .iload 5, 0, 0, 0) := rfl
theorem t93_36 : sm_at 93 36 = some (3, .invokevirtual 121, 115, 2, 0) := rfl
theorem t93_39 : sm_at 93 39 = some (1, .aload_n 0, 0, 0, 0) := rfl
theorem t93_40 : sm_at 93 40 = some (3, .getfield 118, 10, 8, 0) := rfl
theorem t93_43 : sm_at 93 43 = some (1, .ireturn, 0, 0, 0) := rfl
set_option maxRecDepth 10000 in
theorem b93_0 {d : Nat} {r0 : Nat} {l1 : Option sm_V} {l2 : Option sm_V} {l3 : Option sm_V} {l4 : Option sm_V} {l5 : Option sm_V} {Z : Nat → Nat → Int} {Rf : Nat → Nat → Option Nat} {K : Nat → Nat × Nat} {n z : Nat} {Q : Option sm_V → sm_S → Prop} : sm_wp d 93 0 [some (.inr (some r0)), l1, l2, l3, l4, l5] [] (Z, Rf, K, n, z) Q = ((K r0).1 = 10 ∧ (if wr (Z r0 8) ≤ (380 : Int) then sm_wp d 93 12 [some (.inr (some r0)), l1, l2, l3, l4, l5] [] (Z, Rf, K, n, z) Q else sm_wp d 93 10 [some (.inr (some r0)), l1, l2, l3, l4, l5] [] (Z, Rf, K, n, z) Q)) := (w_aload_n t93_0 rfl rfl).trans ((w_getI t93_1 rfl (by decide)).trans (congrArg (And _) ((w_sipush t93_4 rfl).trans (w_icle t93_7 rfl wl_380 rfl rfl))))
set_option maxRecDepth 10000 in
theorem b93_10 {d : Nat} {l0 : Option sm_V} {l1 : Option sm_V} {l2 : Option sm_V} {l3 : Option sm_V} {l4 : Option sm_V} {l5 : Option sm_V} {Z : Nat → Nat → Int} {Rf : Nat → Nat → Option Nat} {K : Nat → Nat × Nat} {n z : Nat} {Q : Option sm_V → sm_S → Prop} : sm_wp d 93 10 [l0, l1, l2, l3, l4, l5] [] (Z, Rf, K, n, z) Q = (Q (some (.inl ((-1)))) (Z, Rf, K, n, z)) := (w_iconst t93_10 rfl).trans (w_iret t93_11)
set_option maxRecDepth 10000 in
theorem b93_12 {d : Nat} {r0 : Nat} {x1 : Int} {l2 : Option sm_V} {l3 : Option sm_V} {l4 : Option sm_V} {l5 : Option sm_V} {Z : Nat → Nat → Int} {Rf : Nat → Nat → Option Nat} {K : Nat → Nat × Nat} {n z : Nat} {Q : Option sm_V → sm_S → Prop} : sm_wp (d + 1) 93 12 [some (.inr (some r0)), some (.inl x1), l2, l3, l4, l5] [] (Z, Rf, K, n, z) Q = ((K r0).1 = 10 ∧ sm_call d 115 [.inr (some r0), .inl x1] (Z, Rf, K, n, z) (sm_cont (d + 1) 93 17 [some (.inr (some r0)), some (.inl x1), l2, l3, l4, l5] [] Q)) := (w_aload_n t93_12 rfl rfl).trans ((w_iload_n t93_13 rfl rfl).trans (w_callV t93_14 rfl rfl rfl rfl (Nat.le_of_ble_eq_true rfl) (Nat.le_of_ble_eq_true rfl) rfl (by decide)))
set_option maxRecDepth 10000 in
theorem b93_17 {d : Nat} {r0 : Nat} {l1 : Option sm_V} {x2 : Int} {l3 : Option sm_V} {l4 : Option sm_V} {l5 : Option sm_V} {Z : Nat → Nat → Int} {Rf : Nat → Nat → Option Nat} {K : Nat → Nat × Nat} {n z : Nat} {Q : Option sm_V → sm_S → Prop} : sm_wp (d + 1) 93 17 [some (.inr (some r0)), l1, some (.inl x2), l3, l4, l5] [] (Z, Rf, K, n, z) Q = ((K r0).1 = 10 ∧ sm_call d 115 [.inr (some r0), .inl x2] (Z, Rf, K, n, z) (sm_cont (d + 1) 93 22 [some (.inr (some r0)), l1, some (.inl x2), l3, l4, l5] [] Q)) := (w_aload_n t93_17 rfl rfl).trans ((w_iload_n t93_18 rfl rfl).trans (w_callV t93_19 rfl rfl rfl rfl (Nat.le_of_ble_eq_true rfl) (Nat.le_of_ble_eq_true rfl) rfl (by decide)))
set_option maxRecDepth 10000 in
theorem b93_22 {d : Nat} {r0 : Nat} {l1 : Option sm_V} {l2 : Option sm_V} {x3 : Int} {l4 : Option sm_V} {l5 : Option sm_V} {Z : Nat → Nat → Int} {Rf : Nat → Nat → Option Nat} {K : Nat → Nat × Nat} {n z : Nat} {Q : Option sm_V → sm_S → Prop} : sm_wp (d + 1) 93 22 [some (.inr (some r0)), l1, l2, some (.inl x3), l4, l5] [] (Z, Rf, K, n, z) Q = ((K r0).1 = 10 ∧ sm_call d 115 [.inr (some r0), .inl x3] (Z, Rf, K, n, z) (sm_cont (d + 1) 93 27 [some (.inr (some r0)), l1, l2, some (.inl x3), l4, l5] [] Q)) := (w_aload_n t93_22 rfl rfl).trans ((w_iload_n t93_23 rfl rfl).trans (w_callV t93_24 rfl rfl rfl rfl (Nat.le_of_ble_eq_true rfl) (Nat.le_of_ble_eq_true rfl) rfl (by decide)))
set_option maxRecDepth 10000 in
theorem b93_27 {d : Nat} {r0 : Nat} {l1 : Option sm_V} {l2 : Option sm_V} {l3 : Option sm_V} {x4 : Int} {l5 : Option sm_V} {Z : Nat → Nat → Int} {Rf : Nat → Nat → Option Nat} {K : Nat → Nat × Nat} {n z : Nat} {Q : Option sm_V → sm_S → Prop} : sm_wp (d + 1) 93 27 [some (.inr (some r0)), l1, l2, l3, some (.inl x4), l5] [] (Z, Rf, K, n, z) Q = ((K r0).1 = 10 ∧ sm_call d 115 [.inr (some r0), .inl x4] (Z, Rf, K, n, z) (sm_cont (d + 1) 93 33 [some (.inr (some r0)), l1, l2, l3, some (.inl x4), l5] [] Q)) := (w_aload_n t93_27 rfl rfl).trans ((w_iload t93_28 rfl rfl).trans (w_callV t93_30 rfl rfl rfl rfl (Nat.le_of_ble_eq_true rfl) (Nat.le_of_ble_eq_true rfl) rfl (by decide)))
set_option maxRecDepth 10000 in
theorem b93_33 {d : Nat} {r0 : Nat} {l1 : Option sm_V} {l2 : Option sm_V} {l3 : Option sm_V} {l4 : Option sm_V} {x5 : Int} {Z : Nat → Nat → Int} {Rf : Nat → Nat → Option Nat} {K : Nat → Nat × Nat} {n z : Nat} {Q : Option sm_V → sm_S → Prop} : sm_wp (d + 1) 93 33 [some (.inr (some r0)), l1, l2, l3, l4, some (.inl x5)] [] (Z, Rf, K, n, z) Q = ((K r0).1 = 10 ∧ sm_call d 115 [.inr (some r0), .inl x5] (Z, Rf, K, n, z) (sm_cont (d + 1) 93 39 [some (.inr (some r0)), l1, l2, l3, l4, some (.inl x5)] [] Q)) := (w_aload_n t93_33 rfl rfl).trans ((w_iload t93_34 rfl rfl).trans (w_callV t93_36 rfl rfl rfl rfl (Nat.le_of_ble_eq_true rfl) (Nat.le_of_ble_eq_true rfl) rfl (by decide)))
set_option maxRecDepth 10000 in
theorem b93_39 {d : Nat} {r0 : Nat} {l1 : Option sm_V} {l2 : Option sm_V} {l3 : Option sm_V} {l4 : Option sm_V} {l5 : Option sm_V} {Z : Nat → Nat → Int} {Rf : Nat → Nat → Option Nat} {K : Nat → Nat × Nat} {n z : Nat} {Q : Option sm_V → sm_S → Prop} : sm_wp d 93 39 [some (.inr (some r0)), l1, l2, l3, l4, l5] [] (Z, Rf, K, n, z) Q = ((K r0).1 = 10 ∧ Q (some (.inl (Z r0 8))) (Z, Rf, K, n, z)) := (w_aload_n t93_39 rfl rfl).trans ((w_getI t93_40 rfl (by decide)).trans (congrArg (And _) (w_iret t93_43)))
theorem t94_0 : sm_at 94 0 = some (1, .iload_n 1, 0, 0, 0) := rfl
theorem t94_1 : sm_at 94 1 = some (3, .ifCond .lt 11, 0, 0, 0) := rfl
theorem t94_4 : sm_at 94 4 = some (1, .iload_n 1, 0, 0, 0) := rfl
theorem t94_5 : sm_at 94 5 = some (1, .aload_n 0, 0, 0, 0) := rfl
theorem t94_6 : sm_at 94 6 = some (3, .getfield 118, 10, 8, 0) := rfl
theorem t94_9 : sm_at 94 9 = some (3, .if_icmp .le 5, 0, 0, 0) := rfl
theorem t94_12 : sm_at 94 12 = some (1, .iconst 0, 0, 0, 0) := rfl
theorem t94_13 : sm_at 94 13 = some (1, .ireturn, 1, 0, 0) := rfl
theorem t94_14 : sm_at 94 14 = some (1, .aload_n 0, 0, 0, 0) := rfl
theorem t94_15 : sm_at 94 15 = some (1, .iload_n 1, 0, 0, 0) := rfl
theorem t94_16 : sm_at 94 16 = some (3, .putfield 118, 10, 8, 0) := rfl
theorem t94_19 : sm_at 94 19 = some (1, .iconst 1, 0, 0, 0) := rfl
theorem t94_20 : sm_at 94 20 = some (1, .ireturn, 1, 0, 0) := rfl
set_option maxRecDepth 10000 in
theorem b94_0 {d : Nat} {l0 : Option sm_V} {x1 : Int} {Z : Nat → Nat → Int} {Rf : Nat → Nat → Option Nat} {K : Nat → Nat × Nat} {n z : Nat} {Q : Option sm_V → sm_S → Prop} : sm_wp d 94 0 [l0, some (.inl x1)] [] (Z, Rf, K, n, z) Q = (if wr x1 < 0 then sm_wp d 94 12 [l0, some (.inl x1)] [] (Z, Rf, K, n, z) Q else sm_wp d 94 4 [l0, some (.inl x1)] [] (Z, Rf, K, n, z) Q) := (w_iload_n t94_0 rfl rfl).trans (w_iflt t94_1 rfl rfl rfl)
set_option maxRecDepth 10000 in
theorem b94_4 {d : Nat} {r0 : Nat} {x1 : Int} {Z : Nat → Nat → Int} {Rf : Nat → Nat → Option Nat} {K : Nat → Nat × Nat} {n z : Nat} {Q : Option sm_V → sm_S → Prop} : sm_wp d 94 4 [some (.inr (some r0)), some (.inl x1)] [] (Z, Rf, K, n, z) Q = ((K r0).1 = 10 ∧ (if wr x1 ≤ wr (Z r0 8) then sm_wp d 94 14 [some (.inr (some r0)), some (.inl x1)] [] (Z, Rf, K, n, z) Q else sm_wp d 94 12 [some (.inr (some r0)), some (.inl x1)] [] (Z, Rf, K, n, z) Q)) := (w_iload_n t94_4 rfl rfl).trans ((w_aload_n t94_5 rfl rfl).trans ((w_getI t94_6 rfl (by decide)).trans (congrArg (And _) (w_icle t94_9 rfl rfl rfl rfl))))
set_option maxRecDepth 10000 in
theorem b94_12 {d : Nat} {l0 : Option sm_V} {l1 : Option sm_V} {Z : Nat → Nat → Int} {Rf : Nat → Nat → Option Nat} {K : Nat → Nat × Nat} {n z : Nat} {Q : Option sm_V → sm_S → Prop} : sm_wp d 94 12 [l0, l1] [] (Z, Rf, K, n, z) Q = (((0 : Int) = 0 ∨ (0 : Int) = 1) ∧ Q (some (.inl 0)) (Z, Rf, K, n, z)) := (w_iconst t94_12 rfl).trans (w_zret t94_13 wl_0)
set_option maxRecDepth 10000 in
theorem b94_14 {d : Nat} {r0 : Nat} {x1 : Int} {Z : Nat → Nat → Int} {Rf : Nat → Nat → Option Nat} {K : Nat → Nat × Nat} {n z : Nat} {Q : Option sm_V → sm_S → Prop} : sm_wp d 94 14 [some (.inr (some r0)), some (.inl x1)] [] (Z, Rf, K, n, z) Q = ((K r0).1 = 10 ∧ ((1 : Int) = 0 ∨ (1 : Int) = 1) ∧ Q (some (.inl 1)) (sm_u Z r0 8 x1, Rf, K, n, z)) := (w_aload_n t94_14 rfl rfl).trans ((w_iload_n t94_15 rfl rfl).trans ((w_putI t94_16 rfl (by decide)).trans (congrArg (And _) ((w_iconst t94_19 rfl).trans (w_zret t94_20 wl_1)))))
theorem t95_0 : sm_at 95 0 = some (1, .aload_n 0, 0, 0, 0) := rfl
theorem t95_1 : sm_at 95 1 = some (3, .getfield 118, 10, 8, 0) := rfl
theorem t95_4 : sm_at 95 4 = some (1, .istore_n 2, 0, 0, 0) := rfl
theorem t95_5 : sm_at 95 5 = some (1, .aload_n 0, 0, 0, 0) := rfl
theorem t95_6 : sm_at 95 6 = some (1, .iconst 0, 0, 0, 0) := rfl
theorem t95_7 : sm_at 95 7 = some (3, .putfield 118, 10, 8, 0) := rfl
theorem t95_10 : sm_at 95 10 = some (1, .aload_n 0, 0, 0, 0) := rfl
theorem t95_11 : sm_at 95 11 = some (1, .iconst 0, 0, 0, 0) := rfl
theorem t95_12 : sm_at 95 12 = some (3, .putfield 125, 10, 9, 0) := rfl
theorem t95_15 : sm_at 95 15 = some (1, .aload_n 0, 0, 0, 0) := rfl
theorem t95_16 : sm_at 95 16 = some (1, .iconst (-1), 0, 0, 0) := rfl
theorem t95_17 : sm_at 95 17 = some (3, .putfield 54, 10, 10, 0) := rfl
theorem t95_20 : sm_at 95 20 = some (1, .iload_n 1, 0, 0, 0) := rfl
theorem t95_21 : sm_at 95 21 = some (1, .iconst 0, 0, 0, 0) := rfl
theorem t95_22 : sm_at 95 22 = some (1, .iconst 3, 0, 0, 0) := rfl
theorem t95_23 : sm_at 95 23 = some (3, .invokestatic 65, 112, 3, 0) := rfl
theorem t95_26 : sm_at 95 26 = some (3, .ifCond .ne 5, 0, 0, 0) := rfl
theorem t95_29 : sm_at 95 29 = some (1, .iconst (-1), 0, 0, 0) := rfl
theorem t95_30 : sm_at 95 30 = some (1, .ireturn, 0, 0, 0) := rfl
theorem t95_31 : sm_at 95 31 = some (1, .aload_n 0, 0, 0, 0) := rfl
theorem t95_32 : sm_at 95 32 = some (3, .getfield 43, 10, 6, 0) := rfl
theorem t95_35 : sm_at 95 35 = some (1, .aload_n 0, 0, 0, 0) := rfl
theorem t95_36 : sm_at 95 36 = some (3, .getfield 47, 10, 7, 0) := rfl
theorem t95_39 : sm_at 95 39 = some (1, .iload_n 2, 0, 0, 0) := rfl
theorem t95_40 : sm_at 95 40 = some (3, .invokevirtual 128, 30, 3, 0) := rfl
theorem t95_43 : sm_at 95 43 = some (1, .astore_n 3, 0, 0, 0) := rfl
theorem t95_44 : sm_at 95 44 = some (1, .aload_n 3, 0, 0, 0) := rfl
theorem t95_45 : sm_at 95 45 = some (3, .ifnonnull 27, 0, 0, 0) := rfl
theorem t95_48 : sm_at 95 48 = some (1, .aload_n 0, 0, 0, 0) := rfl
theorem t95_49 : sm_at 95 49 = some (1, .aload_n 0, 0, 0, 0) := rfl
theorem t95_50 : sm_at 95 50 = some (3, .getfield 43, 10, 6, 0) := rfl
theorem t95_53 : sm_at 95 53 = some (3, .getfield 132, 4, 0, 0) := rfl
theorem t95_56 : sm_at 95 56 = some (3, .putfield 125, 10, 9, 0) := rfl
theorem t95_59 : sm_at 95 59 = some (1, .aload_n 0, 0, 0, 0) := rfl
theorem t95_60 : sm_at 95 60 = some (1, .aload_n 0, 0, 0, 0) := rfl
theorem t95_61 : sm_at 95 61 = some (3, .getfield 43, 10, 6, 0) := rfl
theorem t95_64 : sm_at 95 64 = some (3, .getfield 135, 4, 1, 0) := rfl
theorem t95_67 : sm_at 95 67 = some (3, .putfield 54, 10, 10, 0) := rfl
theorem t95_70 : sm_at 95 70 = some (1, .iconst (-1), 0, 0, 0) := rfl
theorem t95_71 : sm_at 95 71 = some (1, .ireturn, 0, 0, 0) := rfl
theorem t95_72 : sm_at 95 72 = some (1, .aload_n 0, 0, 0, 0) := rfl
theorem t95_73 : sm_at 95 73 = some (3, .getfield 10, 10, 0, 0) := rfl
theorem t95_76 : sm_at 95 76 = some (3, .getfield 138, 1, 16, 0) := rfl
theorem t95_79 : sm_at 95 79 = some (1, .iload_n 1, 0, 0, 0) := rfl
theorem t95_80 : sm_at 95 80 = some (1, .aload_n 3, 0, 0, 0) := rfl
theorem t95_81 : sm_at 95 81 = some (1, .aastore, 0, 0, 0) := rfl
theorem t95_82 : sm_at 95 82 = some (1, .aload_n 3, 0, 0, 0) := rfl
theorem t95_83 : sm_at 95 83 = some (3, .getfield 142, 2, 0, 0) := rfl
theorem t95_86 : sm_at 95 86 = some (1, .ireturn, 0, 0, 0) := rfl
set_option maxRecDepth 10000 in
theorem b95_0 {d : Nat} {r0 : Nat} {x1 : Int} {l2 : Option sm_V} {l3 : Option sm_V} {Z : Nat → Nat → Int} {Rf : Nat → Nat → Option Nat} {K : Nat → Nat × Nat} {n z : Nat} {Q : Option sm_V → sm_S → Prop} : sm_wp (d + 1) 95 0 [some (.inr (some r0)), some (.inl x1), l2, l3] [] (Z, Rf, K, n, z) Q = ((K r0).1 = 10 ∧ (K r0).1 = 10 ∧ (K r0).1 = 10 ∧ (K r0).1 = 10 ∧ sm_call d 112 [.inl x1, .inl 0, .inl 3] (sm_u (sm_u (sm_u Z r0 8 0) r0 9 0) r0 10 ((-1)), Rf, K, n, z) (sm_cont (d + 1) 95 26 [some (.inr (some r0)), some (.inl x1), some (.inl (Z r0 8)), l3] [] Q)) := (w_aload_n t95_0 rfl rfl).trans ((w_getI t95_1 rfl (by decide)).trans (congrArg (And _) ((w_istore_n t95_4 rfl (Nat.le_of_ble_eq_true rfl) rfl).trans ((w_aload_n t95_5 rfl rfl).trans ((w_iconst t95_6 rfl).trans ((w_putI t95_7 rfl (by decide)).trans (congrArg (And _) ((w_aload_n t95_10 rfl rfl).trans ((w_iconst t95_11 rfl).trans ((w_putI t95_12 rfl (by decide)).trans (congrArg (And _) ((w_aload_n t95_15 rfl rfl).trans ((w_iconst t95_16 rfl).trans ((w_putI t95_17 rfl (by decide)).trans (congrArg (And _) ((w_iload_n t95_20 rfl rfl).trans ((w_iconst t95_21 rfl).trans ((w_iconst t95_22 rfl).trans (w_callS t95_23 rfl rfl rfl rfl (Nat.le_of_ble_eq_true rfl) (Nat.le_of_ble_eq_true rfl) rfl)))))))))))))))))))
set_option maxRecDepth 10000 in
theorem b95_26 {d : Nat} {l0 : Option sm_V} {l1 : Option sm_V} {l2 : Option sm_V} {l3 : Option sm_V} {s0 : Int} {Z : Nat → Nat → Int} {Rf : Nat → Nat → Option Nat} {K : Nat → Nat × Nat} {n z : Nat} {Q : Option sm_V → sm_S → Prop} : sm_wp d 95 26 [l0, l1, l2, l3] [.inl s0] (Z, Rf, K, n, z) Q = (if wr s0 = 0 then sm_wp d 95 29 [l0, l1, l2, l3] [] (Z, Rf, K, n, z) Q else sm_wp d 95 31 [l0, l1, l2, l3] [] (Z, Rf, K, n, z) Q) := w_ifne t95_26 rfl rfl rfl
set_option maxRecDepth 10000 in
theorem b95_29 {d : Nat} {l0 : Option sm_V} {l1 : Option sm_V} {l2 : Option sm_V} {l3 : Option sm_V} {Z : Nat → Nat → Int} {Rf : Nat → Nat → Option Nat} {K : Nat → Nat × Nat} {n z : Nat} {Q : Option sm_V → sm_S → Prop} : sm_wp d 95 29 [l0, l1, l2, l3] [] (Z, Rf, K, n, z) Q = (Q (some (.inl ((-1)))) (Z, Rf, K, n, z)) := (w_iconst t95_29 rfl).trans (w_iret t95_30)
set_option maxRecDepth 10000 in
theorem b95_31 {d : Nat} {r0 : Nat} {l1 : Option sm_V} {x2 : Int} {l3 : Option sm_V} {Z : Nat → Nat → Int} {Rf : Nat → Nat → Option Nat} {K : Nat → Nat × Nat} {n z : Nat} {Q : Option sm_V → sm_S → Prop} : sm_wp (d + 1) 95 31 [some (.inr (some r0)), l1, some (.inl x2), l3] [] (Z, Rf, K, n, z) Q = ((K r0).1 = 10 ∧ (Rf r0 6).isSome = true ∧ (K r0).1 = 10 ∧ (Rf r0 7).isSome = true ∧ (K (((Rf r0 6).getD 0))).1 = 4 ∧ sm_call d 30 [.inr (some ((Rf r0 6).getD 0)), .inr (some ((Rf r0 7).getD 0)), .inl x2] (Z, Rf, K, n, z) (sm_cont (d + 1) 95 43 [some (.inr (some r0)), l1, some (.inl x2), l3] [] Q)) := (w_aload_n t95_31 rfl rfl).trans ((w_getR t95_32 rfl (by decide)).trans (congrArg (And _) (congrArg (And _) ((w_aload_n t95_35 rfl rfl).trans ((w_getR t95_36 rfl (by decide)).trans (congrArg (And _) (congrArg (And _) ((w_iload_n t95_39 rfl rfl).trans (w_callV t95_40 rfl rfl rfl rfl (Nat.le_of_ble_eq_true rfl) (Nat.le_of_ble_eq_true rfl) rfl (by decide))))))))))
set_option maxRecDepth 10000 in
theorem b95_43 {d : Nat} {l0 : Option sm_V} {l1 : Option sm_V} {l2 : Option sm_V} {l3 : Option sm_V} {qs0 : Option Nat} {Z : Nat → Nat → Int} {Rf : Nat → Nat → Option Nat} {K : Nat → Nat × Nat} {n z : Nat} {Q : Option sm_V → sm_S → Prop} : sm_wp d 95 43 [l0, l1, l2, l3] [.inr qs0] (Z, Rf, K, n, z) Q = (if qs0.isSome = true then sm_wp d 95 72 [l0, l1, l2, some (.inr qs0)] [] (Z, Rf, K, n, z) Q else sm_wp d 95 48 [l0, l1, l2, some (.inr qs0)] [] (Z, Rf, K, n, z) Q) := (w_astore_n t95_43 rfl (Nat.le_of_ble_eq_true rfl) rfl).trans ((w_aload_n t95_44 rfl rfl).trans (w_ifnn t95_45 rfl rfl))
set_option maxRecDepth 10000 in
theorem b95_48 {d : Nat} {r0 : Nat} {l1 : Option sm_V} {l2 : Option sm_V} {l3 : Option sm_V} {Z : Nat → Nat → Int} {Rf : Nat → Nat → Option Nat} {K : Nat → Nat × Nat} {n z : Nat} {Q : Option sm_V → sm_S → Prop} : sm_wp d 95 48 [some (.inr (some r0)), l1, l2, l3] [] (Z, Rf, K, n, z) Q = ((K r0).1 = 10 ∧ (Rf r0 6).isSome = true ∧ (K (((Rf r0 6).getD 0))).1 = 4 ∧ (K r0).1 = 10 ∧ (K r0).1 = 10 ∧ (Rf r0 6).isSome = true ∧ (K (((Rf r0 6).getD 0))).1 = 4 ∧ (K r0).1 = 10 ∧ Q (some (.inl ((-1)))) (sm_u (sm_u Z r0 9 (Z (((Rf r0 6).getD 0)) 0)) r0 10 ((sm_u Z r0 9 (Z (((Rf r0 6).getD 0)) 0)) (((Rf r0 6).getD 0)) 1), Rf, K, n, z)) := (w_aload_n t95_48 rfl rfl).trans ((w_aload_n t95_49 rfl rfl).trans ((w_getR t95_50 rfl (by decide)).trans (congrArg (And _) (congrArg (And _) ((w_getI t95_53 rfl (by decide)).trans (congrArg (And _) ((w_putI t95_56 rfl (by decide)).trans (congrArg (And _) ((w_aload_n t95_59 rfl rfl).trans ((w_aload_n t95_60 rfl rfl).trans ((w_getR t95_61 rfl (by decide)).trans (congrArg (And _) (congrArg (And _) ((w_getI t95_64 rfl (by decide)).trans (congrArg (And _) ((w_putI t95_67 rfl (by decide)).trans (congrArg (And _) ((w_iconst t95_70 rfl).trans (w_iret t95_71)))))))))))))))))))
set_option maxRecDepth 10000 in
theorem b95_72 {d : Nat} {r0 : Nat} {x1 : Int} {l2 : Option sm_V} {r3 : Nat} {Z : Nat → Nat → Int} {Rf : Nat → Nat → Option Nat} {K : Nat → Nat × Nat} {n z : Nat} {Q : Option sm_V → sm_S → Prop} : sm_wp d 95 72 [some (.inr (some r0)), some (.inl x1), l2, some (.inr (some r3))] [] (Z, Rf, K, n, z) Q = ((K r0).1 = 10 ∧ (Rf r0 0).isSome = true ∧ (K (((Rf r0 0).getD 0))).1 = 1 ∧ (Rf (((Rf r0 0).getD 0)) 16).isSome = true ∧ ((K (((Rf (((Rf r0 0).getD 0)) 16).getD 0))).1 = 101 ∧ (K r3).1 = 2 ∧ 0 ≤ wr x1 ∧ wr x1 < ((K (((Rf (((Rf r0 0).getD 0)) 16).getD 0))).2 : Int)) ∧ (K r3).1 = 2 ∧ Q (some (.inl (Z r3 0))) (Z, sm_u Rf (((Rf (((Rf r0 0).getD 0)) 16).getD 0)) ((wr x1).toNat) (some r3), K, n, z)) := (w_aload_n t95_72 rfl rfl).trans ((w_getR t95_73 rfl (by decide)).trans (congrArg (And _) (congrArg (And _) ((w_getR t95_76 rfl (by decide)).trans (congrArg (And _) (congrArg (And _) ((w_iload_n t95_79 rfl rfl).trans ((w_aload_n t95_80 rfl rfl).trans ((w_aast t95_81 rfl rfl).trans (congrArg (And _) ((w_aload_n t95_82 rfl rfl).trans ((w_getI t95_83 rfl (by decide)).trans (congrArg (And _) (w_iret t95_86))))))))))))))
theorem t96_0 : sm_at 96 0 = some (1, .iload_n 1, 0, 0, 0) := rfl
theorem t96_1 : sm_at 96 1 = some (27, .lookupswitch 37 #[(0, 27), (1, 32)], 0, 0, 0) := rfl
theorem t96_28 : sm_at 96 28 = some (1, .aload_n 0, 0, 0, 0) := rfl
theorem t96_29 : sm_at 96 29 = some (3, .getfield 125, 10, 9, 0) := rfl
theorem t96_32 : sm_at 96 32 = some (1, .ireturn, 0, 0, 0) := rfl
theorem t96_33 : sm_at 96 33 = some (1, .aload_n 0, 0, 0, 0) := rfl
theorem t96_34 : sm_at 96 34 = some (3, .getfield 54, 10, 10, 0) := rfl
theorem t96_37 : sm_at 96 37 = some (1, .ireturn, 0, 0, 0) := rfl
theorem t96_38 : sm_at 96 38 = some (1, .iconst (-1), 0, 0, 0) := rfl
theorem t96_39 : sm_at 96 39 = some (1, .ireturn, 0, 0, 0) := rfl
set_option maxRecDepth 10000 in
theorem b96_0 {d : Nat} {l0 : Option sm_V} {x1 : Int} {Z : Nat → Nat → Int} {Rf : Nat → Nat → Option Nat} {K : Nat → Nat × Nat} {n z : Nat} {Q : Option sm_V → sm_S → Prop} : sm_wp d 96 0 [l0, some (.inl x1)] [] (Z, Rf, K, n, z) Q = (sm_wp d 96 (sm_sel (wr x1) 38 [(0, 28), (1, 33)]) [l0, some (.inl x1)] [] (Z, Rf, K, n, z) Q) := (w_iload_n t96_0 rfl rfl).trans (w_lsw t96_1 rfl rfl rfl)
set_option maxRecDepth 10000 in
theorem b96_28 {d : Nat} {r0 : Nat} {l1 : Option sm_V} {Z : Nat → Nat → Int} {Rf : Nat → Nat → Option Nat} {K : Nat → Nat × Nat} {n z : Nat} {Q : Option sm_V → sm_S → Prop} : sm_wp d 96 28 [some (.inr (some r0)), l1] [] (Z, Rf, K, n, z) Q = ((K r0).1 = 10 ∧ Q (some (.inl (Z r0 9))) (Z, Rf, K, n, z)) := (w_aload_n t96_28 rfl rfl).trans ((w_getI t96_29 rfl (by decide)).trans (congrArg (And _) (w_iret t96_32)))
set_option maxRecDepth 10000 in
theorem b96_33 {d : Nat} {r0 : Nat} {l1 : Option sm_V} {Z : Nat → Nat → Int} {Rf : Nat → Nat → Option Nat} {K : Nat → Nat × Nat} {n z : Nat} {Q : Option sm_V → sm_S → Prop} : sm_wp d 96 33 [some (.inr (some r0)), l1] [] (Z, Rf, K, n, z) Q = ((K r0).1 = 10 ∧ Q (some (.inl (Z r0 10))) (Z, Rf, K, n, z)) := (w_aload_n t96_33 rfl rfl).trans ((w_getI t96_34 rfl (by decide)).trans (congrArg (And _) (w_iret t96_37)))
set_option maxRecDepth 10000 in
theorem b96_38 {d : Nat} {l0 : Option sm_V} {l1 : Option sm_V} {Z : Nat → Nat → Int} {Rf : Nat → Nat → Option Nat} {K : Nat → Nat × Nat} {n z : Nat} {Q : Option sm_V → sm_S → Prop} : sm_wp d 96 38 [l0, l1] [] (Z, Rf, K, n, z) Q = (Q (some (.inl ((-1)))) (Z, Rf, K, n, z)) := (w_iconst t96_38 rfl).trans (w_iret t96_39)
theorem t97_0 : sm_at 97 0 = some (1, .aload_n 0, 0, 0, 0) := rfl
theorem t97_1 : sm_at 97 1 = some (3, .invokevirtual 147, 116, 1, 0) := rfl
theorem t97_4 : sm_at 97 4 = some (1, .ireturn, 0, 0, 0) := rfl
set_option maxRecDepth 10000 in
theorem b97_0 {d : Nat} {r0 : Nat} {Z : Nat → Nat → Int} {Rf : Nat → Nat → Option Nat} {K : Nat → Nat × Nat} {n z : Nat} {Q : Option sm_V → sm_S → Prop} : sm_wp (d + 1) 97 0 [some (.inr (some r0))] [] (Z, Rf, K, n, z) Q = ((K r0).1 = 10 ∧ sm_call d 116 [.inr (some r0)] (Z, Rf, K, n, z) (sm_cont (d + 1) 97 4 [some (.inr (some r0))] [] Q)) := (w_aload_n t97_0 rfl rfl).trans (w_callV t97_1 rfl rfl rfl rfl (Nat.le_of_ble_eq_true rfl) (Nat.le_of_ble_eq_true rfl) rfl (by decide))
set_option maxRecDepth 10000 in
theorem b97_4 {d : Nat} {l0 : Option sm_V} {s0 : Int} {Z : Nat → Nat → Int} {Rf : Nat → Nat → Option Nat} {K : Nat → Nat × Nat} {n z : Nat} {Q : Option sm_V → sm_S → Prop} : sm_wp d 97 4 [l0] [.inl s0] (Z, Rf, K, n, z) Q = (Q (some (.inl s0)) (Z, Rf, K, n, z)) := w_iret t97_4
theorem t98_0 : sm_at 98 0 = some (1, .aload_n 0, 0, 0, 0) := rfl
theorem t98_1 : sm_at 98 1 = some (3, .getfield 10, 10, 0, 0) := rfl
theorem t98_4 : sm_at 98 4 = some (3, .getfield 151, 1, 3, 0) := rfl
theorem t98_7 : sm_at 98 7 = some (3, .sipush 9999, 0, 0, 0) := rfl
theorem t98_10 : sm_at 98 10 = some (3, .if_icmp .lt 5, 0, 0, 0) := rfl
theorem t98_13 : sm_at 98 13 = some (1, .iconst (-1), 0, 0, 0) := rfl
theorem t98_14 : sm_at 98 14 = some (1, .ireturn, 0, 0, 0) := rfl
theorem t98_15 : sm_at 98 15 = some (1, .aload_n 0, 0, 0, 0) := rfl
theorem t98_16 : sm_at 98 16 = some (3, .getfield 10, 10, 0, 0) := rfl
theorem t98_19 : sm_at 98 19 = some (3, .invokevirtual 154, 18, 1, 0) := rfl
theorem t98_22 : sm_at 98 22 = some (1, .aload_n 0, 0, 0, 0) := rfl
theorem t98_23 : sm_at 98 23 = some (3, .invokevirtual 147, 116, 1, 0) := rfl
theorem t98_26 : sm_at 98 26 = some (1, .istore_n 1, 0, 0, 0) := rfl
theorem t98_27 : sm_at 98 27 = some (1, .aload_n 0, 0, 0, 0) := rfl
theorem t98_28 : sm_at 98 28 = some (3, .getfield 10, 10, 0, 0) := rfl
theorem t98_31 : sm_at 98 31 = some (1, .dup, 0, 0, 0) := rfl
theorem t98_32 : sm_at 98 32 = some (3, .getfield 151, 1, 3, 0) := rfl
theorem t98_35 : sm_at 98 35 = some (1, .iconst 1, 0, 0, 0) := rfl
theorem t98_36 : sm_at 98 36 = some (1, .iadd, 0, 0, 0) := rfl
theorem t98_37 : sm_at 98 37 = some (3, .putfield 151, 1, 3, 0) := rfl
theorem t98_40 : sm_at 98 40 = some (1, .iload_n 1, 0, 0, 0) := rfl
theorem t98_41 : sm_at 98 41 = some (1, .ireturn, 0, 0, 0) := rfl
set_option maxRecDepth 10000 in
theorem b98_0 {d : Nat} {r0 : Nat} {l1 : Option sm_V} {Z : Nat → Nat → Int} {Rf : Nat → Nat → Option Nat} {K : Nat → Nat × Nat} {n z : Nat} {Q : Option sm_V → sm_S → Prop} : sm_wp d 98 0 [some (.inr (some r0)), l1] [] (Z, Rf, K, n, z) Q = ((K r0).1 = 10 ∧ (Rf r0 0).isSome = true ∧ (K (((Rf r0 0).getD 0))).1 = 1 ∧ (if wr (Z (((Rf r0 0).getD 0)) 3) < (9999 : Int) then sm_wp d 98 15 [some (.inr (some r0)), l1] [] (Z, Rf, K, n, z) Q else sm_wp d 98 13 [some (.inr (some r0)), l1] [] (Z, Rf, K, n, z) Q)) := (w_aload_n t98_0 rfl rfl).trans ((w_getR t98_1 rfl (by decide)).trans (congrArg (And _) (congrArg (And _) ((w_getI t98_4 rfl (by decide)).trans (congrArg (And _) ((w_sipush t98_7 rfl).trans (w_iclt t98_10 rfl wl_9999 rfl rfl)))))))
set_option maxRecDepth 10000 in
theorem b98_13 {d : Nat} {l0 : Option sm_V} {l1 : Option sm_V} {Z : Nat → Nat → Int} {Rf : Nat → Nat → Option Nat} {K : Nat → Nat × Nat} {n z : Nat} {Q : Option sm_V → sm_S → Prop} : sm_wp d 98 13 [l0, l1] [] (Z, Rf, K, n, z) Q = (Q (some (.inl ((-1)))) (Z, Rf, K, n, z)) := (w_iconst t98_13 rfl).trans (w_iret t98_14)
set_option maxRecDepth 10000 in
theorem b98_15 {d : Nat} {r0 : Nat} {l1 : Option sm_V} {Z : Nat → Nat → Int} {Rf : Nat → Nat → Option Nat} {K : Nat → Nat × Nat} {n z : Nat} {Q : Option sm_V → sm_S → Prop} : sm_wp (d + 1) 98 15 [some (.inr (some r0)), l1] [] (Z, Rf, K, n, z) Q = ((K r0).1 = 10 ∧ (Rf r0 0).isSome = true ∧ (K (((Rf r0 0).getD 0))).1 = 1 ∧ sm_call d 18 [.inr (some ((Rf r0 0).getD 0))] (Z, Rf, K, n, z) (sm_cont (d + 1) 98 22 [some (.inr (some r0)), l1] [] Q)) := (w_aload_n t98_15 rfl rfl).trans ((w_getR t98_16 rfl (by decide)).trans (congrArg (And _) (congrArg (And _) (w_callV t98_19 rfl rfl rfl rfl (Nat.le_of_ble_eq_true rfl) (Nat.le_of_ble_eq_true rfl) rfl (by decide)))))
set_option maxRecDepth 10000 in
theorem b98_22 {d : Nat} {r0 : Nat} {l1 : Option sm_V} {Z : Nat → Nat → Int} {Rf : Nat → Nat → Option Nat} {K : Nat → Nat × Nat} {n z : Nat} {Q : Option sm_V → sm_S → Prop} : sm_wp (d + 1) 98 22 [some (.inr (some r0)), l1] [] (Z, Rf, K, n, z) Q = ((K r0).1 = 10 ∧ sm_call d 116 [.inr (some r0)] (Z, Rf, K, n, z) (sm_cont (d + 1) 98 26 [some (.inr (some r0)), l1] [] Q)) := (w_aload_n t98_22 rfl rfl).trans (w_callV t98_23 rfl rfl rfl rfl (Nat.le_of_ble_eq_true rfl) (Nat.le_of_ble_eq_true rfl) rfl (by decide))
set_option maxRecDepth 10000 in
theorem b98_26 {d : Nat} {r0 : Nat} {l1 : Option sm_V} {s0 : Int} {Z : Nat → Nat → Int} {Rf : Nat → Nat → Option Nat} {K : Nat → Nat × Nat} {n z : Nat} {Q : Option sm_V → sm_S → Prop} : sm_wp d 98 26 [some (.inr (some r0)), l1] [.inl s0] (Z, Rf, K, n, z) Q = ((K r0).1 = 10 ∧ (Rf r0 0).isSome = true ∧ (K (((Rf r0 0).getD 0))).1 = 1 ∧ (K (((Rf r0 0).getD 0))).1 = 1 ∧ Q (some (.inl s0)) (sm_u Z (((Rf r0 0).getD 0)) 3 ((Z (((Rf r0 0).getD 0)) 3) + 1), Rf, K, n, z)) := (w_istore_n t98_26 rfl (Nat.le_of_ble_eq_true rfl) rfl).trans ((w_aload_n t98_27 rfl rfl).trans ((w_getR t98_28 rfl (by decide)).trans (congrArg (And _) (congrArg (And _) ((w_dup t98_31 rfl).trans ((w_getI t98_32 rfl (by decide)).trans (congrArg (And _) ((w_iconst t98_35 rfl).trans ((w_iadd t98_36 rfl).trans ((w_putI t98_37 rfl (by decide)).trans (congrArg (And _) ((w_iload_n t98_40 rfl rfl).trans (w_iret t98_41)))))))))))))
theorem t99_0 : sm_at 99 0 = some (1, .aload_n 0, 0, 0, 0) := rfl
theorem t99_1 : sm_at 99 1 = some (3, .getfield 10, 10, 0, 0) := rfl
theorem t99_4 : sm_at 99 4 = some (1, .iload_n 1, 0, 0, 0) := rfl
theorem t99_5 : sm_at 99 5 = some (3, .invokevirtual 72, 8, 2, 0) := rfl
theorem t99_8 : sm_at 99 8 = some (3, .ifCond .ne 5, 0, 0, 0) := rfl
theorem t99_11 : sm_at 99 11 = some (1, .iconst (-1), 0, 0, 0) := rfl
theorem t99_12 : sm_at 99 12 = some (1, .ireturn, 0, 0, 0) := rfl
theorem t99_13 : sm_at 99 13 = some (1, .iload_n 2, 0, 0, 0) := rfl
theorem t99_14 : sm_at 99 14 = some (50, .tableswitch 204 0 8 #[50, 60, 87, 97, 107, 117, 151, 184, 194], 0, 0, 0) := rfl
theorem t99_64 : sm_at 99 64 = some (1, .aload_n 0, 0, 0, 0) := rfl
theorem t99_65 : sm_at 99 65 = some (3, .getfield 10, 10, 0, 0) := rfl
theorem t99_68 : sm_at 99 68 = some (3, .getfield 76, 1, 4, 0) := rfl
theorem t99_71 : sm_at 99 71 = some (1, .iload_n 1, 0, 0, 0) := rfl
theorem t99_72 : sm_at 99 72 = some (1, .iaload, 0, 0, 0) := rfl
theorem t99_73 : sm_at 99 73 = some (1, .ireturn, 0, 0, 0) := rfl
theorem t99_74 : sm_at 99 74 = some (1, .aload_n 0, 0, 0, 0) := rfl
theorem t99_75 : sm_at 99 75 = some (3, .getfield 22, 10, 3, 0) := rfl
theorem t99_78 : sm_at 99 78 = some (3, .getfield 157, 7, 0, 0) := rfl
theorem t99_81 : sm_at 99 81 = some (1, .aload_n 0, 0, 0, 0) := rfl
theorem t99_82 : sm_at 99 82 = some (3, .getfield 10, 10, 0, 0) := rfl
theorem t99_85 : sm_at 99 85 = some (3, .invokevirtual 161, 57, 2, 0) := rfl
theorem t99_88 : sm_at 99 88 = some (1, .aload_n 0, 0, 0, 0) := rfl
theorem t99_89 : sm_at 99 89 = some (3, .getfield 22, 10, 3, 0) := rfl
theorem t99_92 : sm_at 99 92 = some (3, .getfield 157, 7, 0, 0) := rfl
theorem t99_95 : sm_at 99 95 = some (3, .getfield 167, 6, 0, 0) := rfl
theorem t99_98 : sm_at 99 98 = some (1, .iload_n 1, 0, 0, 0) := rfl
theorem t99_99 : sm_at 99 99 = some (1, .iaload, 0, 0, 0) := rfl
theorem t99_100 : sm_at 99 100 = some (1, .ireturn, 0, 0, 0) := rfl
theorem t99_101 : sm_at 99 101 = some (1, .aload_n 0, 0, 0, 0) := rfl
theorem t99_102 : sm_at 99 102 = some (3, .getfield 10, 10, 0, 0) := rfl
theorem t99_105 : sm_at 99 105 = some (3, .getfield 93, 1, 7, 0) := rfl
theorem t99_108 : sm_at 99 108 = some (1, .iload_n 1, 0, 0, 0) := rfl
theorem t99_109 : sm_at 99 109 = some (1, .iaload, 0, 0, 0) := rfl
theorem t99_110 : sm_at 99 110 = some (1, .ireturn, 0, 0, 0) := rfl
theorem t99_111 : sm_at 99 111 = some (1, .aload_n 0, 0, 0, 0) := rfl
theorem t99_112 : sm_at 99 112 = some (3, .getfield 10, 10, 0, 0) := rfl
theorem t99_115 : sm_at 99 115 = some (3, .getfield 96, 1, 8, 0) := rfl
theorem t99_118 : sm_at 99 118 = some (1, .iload_n 1, 0, 0, 0) := rfl
theorem t99_119 : sm_at 99 119 = some (1, .iaload, 0, 0, 0) := rfl
theorem t99_120 : sm_at 99 120 = some (1, .ireturn, 0, 0, 0) := rfl
theorem t99_121 : sm_at 99 121 = some (1, .aload_n 0, 0, 0, 0) := rfl
theorem t99_122 : sm_at 99 122 = some (3, .getfield 10, 10, 0, 0) := rfl
theorem t99_125 : sm_at 99 125 = some (3, .getfield 86, 1, 6, 0) := rfl
theorem t99_128 : sm_at 99 128 = some (1, .iload_n 1, 0, 0, 0) := rfl
theorem t99_129 : sm_at 99 129 = some (1, .iaload, 0, 0, 0) := rfl
theorem t99_130 : sm_at 99 130 = some (1, .ireturn, 0, 0, 0) := rfl
theorem t99_131 : sm_at 99 131 = some (1, .aload_n 0, 0, 0, 0) := rfl
theorem t99_132 : sm_at 99 132 = some (3, .getfield 22, 10, 3, 0) := rfl
theorem t99_135 : sm_at 99 135 = some (3, .getfield 170, 7, 1, 0) := rfl
theorem t99_138 : sm_at 99 138 = some (1, .aload_n 0, 0, 0, 0) := rfl
theorem t99_139 : sm_at 99 139 = some (3, .getfield 10, 10, 0, 0) := rfl
theorem t99_142 : sm_at 99 142 = some (1, .aload_n 0, 0, 0, 0) := rfl
theorem t99_143 : sm_at 99 143 = some (3, .getfield 10, 10, 0, 0) := rfl
theorem t99_146 : sm_at 99 146 = some (3, .getfield 174, 1, 18, 0) := rfl
theorem t99_149 : sm_at 99 149 = some (3, .invokevirtual 178, 1, 3, 0) := rfl
theorem t99_152 : sm_at 99 152 = some (1, .aload_n 0, 0, 0, 0) := rfl
theorem t99_153 : sm_at 99 153 = some (3, .getfield 22, 10, 3, 0) := rfl
theorem t99_156 : sm_at 99 156 = some (3, .getfield 170, 7, 1, 0) := rfl
theorem t99_159 : sm_at 99 159 = some (3, .getfield 184, 0, 0, 0) := rfl
theorem t99_162 : sm_at 99 162 = some (1, .iload_n 1, 0, 0, 0) := rfl
set_option maxRecDepth 100000 in
theorem t99_163 : sm_at 99 163 = some (1, .iaload, 0, 0, 0) := rfl
set_option maxRecDepth 100000 in
theorem t99_164 : sm_at 99 164 = some (1, .ireturn, 0, 0, 0) := rfl
set_option maxRecDepth 100000 in
theorem t99_165 : sm_at 99 165 = some (1, .aload_n 0, 0, 0, 0) := rfl
set_option maxRecDepth 100000 in
theorem t99_166 : sm_at 99 166 = some (3, .getfield 22, 10, 3, 0) := rfl
set_option maxRecDepth 100000 in
theorem t99_169 : sm_at 99 169 = some (3, .getfield 170, 7, 1, 0) := rfl
set_option maxRecDepth 100000 in
theorem t99_172 : sm_at 99 172 = some (1, .aload_n 0, 0, 0, 0) := rfl
set_option maxRecDepth 100000 in
theorem t99_173 : sm_at 99 173 = some (3, .getfield 10, 10, 0, 0) := rfl
set_option maxRecDepth 100000 in
theorem t99_176 : sm_at 99 176 = some (1, .aload_n 0, 0, 0, 0) := rfl
set_option maxRecDepth 100000 in
theorem t99_177 : sm_at 99 177 = some (3, .getfield 10, 10, 0, 0) := rfl
set_option maxRecDepth 100000 in
theorem t99_180 : sm_at 99 180 = some (3, .getfield 174, 1, 18, 0) := rfl
set_option maxRecDepth 100000 in
theorem t99_183 : sm_at 99 183 = some (3, .invokevirtual 178, 1, 3, 0) := rfl
set_option maxRecDepth 100000 in
theorem t99_186 : sm_at 99 186 = some (1, .aload_n 0, 0, 0, 0) := rfl
set_option maxRecDepth 100000 in
theorem t99_187 : sm_at 99 187 = some (3, .getfield 22, 10, 3, 0) := rfl
set_option maxRecDepth 100000 in
theorem t99_190 : sm_at 99 190 = some (3, .getfield 170, 7, 1, 0) := rfl
set_option maxRecDepth 100000 in
theorem t99_193 : sm_at 99 193 = some (1, .iload_n 1, 0, 0, 0) := rfl
set_option maxRecDepth 100000 in
theorem t99_194 : sm_at 99 194 = some (3, .invokevirtual 187, 4, 2, 0) := rfl
set_option maxRecDepth 100000 in
theorem t99_197 : sm_at 99 197 = some (1, .ireturn, 0, 0, 0) := rfl
set_option maxRecDepth 100000 in
theorem t99_198 : sm_at 99 198 = some (1, .aload_n 0, 0, 0, 0) := rfl
set_option maxRecDepth 100000 in
theorem t99_199 : sm_at 99 199 = some (3, .getfield 10, 10, 0, 0) := rfl
set_option maxRecDepth 100000 in
theorem t99_202 : sm_at 99 202 = some (3, .getfield 191, 1, 9, 0) := rfl
set_option maxRecDepth 100000 in
theorem t99_205 : sm_at 99 205 = some (1, .iload_n 1, 0, 0, 0) := rfl
set_option maxRecDepth 100000 in
theorem t99_206 : sm_at 99 206 = some (1, .iaload, 0, 0, 0) := rfl
set_option maxRecDepth 100000 in
theorem t99_207 : sm_at 99 207 = some (1, .ireturn, 0, 0, 0) := rfl
set_option maxRecDepth 100000 in
theorem t99_208 : sm_at 99 208 = some (1, .aload_n 0, 0, 0, 0) := rfl
set_option maxRecDepth 100000 in
theorem t99_209 : sm_at 99 209 = some (3, .getfield 10, 10, 0, 0) := rfl
set_option maxRecDepth 100000 in
theorem t99_212 : sm_at 99 212 = some (3, .getfield 83, 1, 5, 0) := rfl
set_option maxRecDepth 100000 in
theorem t99_215 : sm_at 99 215 = some (1, .iload_n 1, 0, 0, 0) := rfl
set_option maxRecDepth 100000 in
theorem t99_216 : sm_at 99 216 = some (1, .iaload, 0, 0, 0) := rfl
set_option maxRecDepth 100000 in
theorem t99_217 : sm_at 99 217 = some (1, .ireturn, 0, 0, 0) := rfl
set_option maxRecDepth 100000 in
theorem t99_218 : sm_at 99 218 = some (1, .iconst (-1), 0, 0, 0) := rfl
set_option maxRecDepth 100000 in
theorem t99_219 : sm_at 99 219 = some (1, .ireturn, 0, 0, 0) := rfl
set_option maxRecDepth 10000 in
theorem b99_0 {d : Nat} {r0 : Nat} {x1 : Int} {l2 : Option sm_V} {Z : Nat → Nat → Int} {Rf : Nat → Nat → Option Nat} {K : Nat → Nat × Nat} {n z : Nat} {Q : Option sm_V → sm_S → Prop} : sm_wp (d + 1) 99 0 [some (.inr (some r0)), some (.inl x1), l2] [] (Z, Rf, K, n, z) Q = ((K r0).1 = 10 ∧ (Rf r0 0).isSome = true ∧ (K (((Rf r0 0).getD 0))).1 = 1 ∧ sm_call d 8 [.inr (some ((Rf r0 0).getD 0)), .inl x1] (Z, Rf, K, n, z) (sm_cont (d + 1) 99 8 [some (.inr (some r0)), some (.inl x1), l2] [] Q)) := (w_aload_n t99_0 rfl rfl).trans ((w_getR t99_1 rfl (by decide)).trans (congrArg (And _) (congrArg (And _) ((w_iload_n t99_4 rfl rfl).trans (w_callV t99_5 rfl rfl rfl rfl (Nat.le_of_ble_eq_true rfl) (Nat.le_of_ble_eq_true rfl) rfl (by decide))))))
set_option maxRecDepth 10000 in
theorem b99_8 {d : Nat} {l0 : Option sm_V} {l1 : Option sm_V} {l2 : Option sm_V} {s0 : Int} {Z : Nat → Nat → Int} {Rf : Nat → Nat → Option Nat} {K : Nat → Nat × Nat} {n z : Nat} {Q : Option sm_V → sm_S → Prop} : sm_wp d 99 8 [l0, l1, l2] [.inl s0] (Z, Rf, K, n, z) Q = (if wr s0 = 0 then sm_wp d 99 11 [l0, l1, l2] [] (Z, Rf, K, n, z) Q else sm_wp d 99 13 [l0, l1, l2] [] (Z, Rf, K, n, z) Q) := w_ifne t99_8 rfl rfl rfl
set_option maxRecDepth 10000 in
theorem b99_11 {d : Nat} {l0 : Option sm_V} {l1 : Option sm_V} {l2 : Option sm_V} {Z : Nat → Nat → Int} {Rf : Nat → Nat → Option Nat} {K : Nat → Nat × Nat} {n z : Nat} {Q : Option sm_V → sm_S → Prop} : sm_wp d 99 11 [l0, l1, l2] [] (Z, Rf, K, n, z) Q = (Q (some (.inl ((-1)))) (Z, Rf, K, n, z)) := (w_iconst t99_11 rfl).trans (w_iret t99_12)
set_option maxRecDepth 10000 in
theorem b99_13 {d : Nat} {l0 : Option sm_V} {l1 : Option sm_V} {x2 : Int} {Z : Nat → Nat → Int} {Rf : Nat → Nat → Option Nat} {K : Nat → Nat × Nat} {n z : Nat} {Q : Option sm_V → sm_S → Prop} : sm_wp d 99 13 [l0, l1, some (.inl x2)] [] (Z, Rf, K, n, z) Q = (sm_wp d 99 (sm_sel (wr x2) 218 [(0, 64), (1, 74), (2, 101), (3, 111), (4, 121), (5, 131), (6, 165), (7, 198), (8, 208)]) [l0, l1, some (.inl x2)] [] (Z, Rf, K, n, z) Q) := (w_iload_n t99_13 rfl rfl).trans (w_tsw t99_14 rfl rfl rfl (by decide))
set_option maxRecDepth 10000 in
theorem b99_64 {d : Nat} {r0 : Nat} {x1 : Int} {l2 : Option sm_V} {Z : Nat → Nat → Int} {Rf : Nat → Nat → Option Nat} {K : Nat → Nat × Nat} {n z : Nat} {Q : Option sm_V → sm_S → Prop} : sm_wp d 99 64 [some (.inr (some r0)), some (.inl x1), l2] [] (Z, Rf, K, n, z) Q = ((K r0).1 = 10 ∧ (Rf r0 0).isSome = true ∧ (K (((Rf r0 0).getD 0))).1 = 1 ∧ (Rf (((Rf r0 0).getD 0)) 4).isSome = true ∧ sm_rd (K (((Rf (((Rf r0 0).getD 0)) 4).getD 0))) (wr x1) ∧ Q (some (.inl (Z (((Rf (((Rf r0 0).getD 0)) 4).getD 0)) ((wr x1).toNat)))) (Z, Rf, K, n, z)) := (w_aload_n t99_64 rfl rfl).trans ((w_getR t99_65 rfl (by decide)).trans (congrArg (And _) (congrArg (And _) ((w_getR t99_68 rfl (by decide)).trans (congrArg (And _) (congrArg (And _) ((w_iload_n t99_71 rfl rfl).trans ((w_iald t99_72 rfl rfl).trans (congrArg (And _) (w_iret t99_73))))))))))
set_option maxRecDepth 10000 in
theorem b99_74 {d : Nat} {r0 : Nat} {l1 : Option sm_V} {l2 : Option sm_V} {Z : Nat → Nat → Int} {Rf : Nat → Nat → Option Nat} {K : Nat → Nat × Nat} {n z : Nat} {Q : Option sm_V → sm_S → Prop} : sm_wp (d + 1) 99 74 [some (.inr (some r0)), l1, l2] [] (Z, Rf, K, n, z) Q = ((K r0).1 = 10 ∧ (Rf r0 3).isSome = true ∧ (K (((Rf r0 3).getD 0))).1 = 7 ∧ (Rf (((Rf r0 3).getD 0)) 0).isSome = true ∧ (K r0).1 = 10 ∧ (Rf r0 0).isSome = true ∧ (K (((Rf (((Rf r0 3).getD 0)) 0).getD 0))).1 = 6 ∧ sm_call d 57 [.inr (some ((Rf (((Rf r0 3).getD 0)) 0).getD 0)), .inr (some ((Rf r0 0).getD 0))] (Z, Rf, K, n, z) (sm_cont (d + 1) 99 88 [some (.inr (some r0)), l1, l2] [] Q)) := (w_aload_n t99_74 rfl rfl).trans ((w_getR t99_75 rfl (by decide)).trans (congrArg (And _) (congrArg (And _) ((w_getR t99_78 rfl (by decide)).trans (congrArg (And _) (congrArg (And _) ((w_aload_n t99_81 rfl rfl).trans ((w_getR t99_82 rfl (by decide)).trans (congrArg (And _) (congrArg (And _) (w_callV t99_85 rfl rfl rfl rfl (Nat.le_of_ble_eq_true rfl) (Nat.le_of_ble_eq_true rfl) rfl (by decide))))))))))))
set_option maxRecDepth 10000 in
theorem b99_88 {d : Nat} {r0 : Nat} {x1 : Int} {l2 : Option sm_V} {Z : Nat → Nat → Int} {Rf : Nat → Nat → Option Nat} {K : Nat → Nat × Nat} {n z : Nat} {Q : Option sm_V → sm_S → Prop} : sm_wp d 99 88 [some (.inr (some r0)), some (.inl x1), l2] [] (Z, Rf, K, n, z) Q = ((K r0).1 = 10 ∧ (Rf r0 3).isSome = true ∧ (K (((Rf r0 3).getD 0))).1 = 7 ∧ (Rf (((Rf r0 3).getD 0)) 0).isSome = true ∧ (K (((Rf (((Rf r0 3).getD 0)) 0).getD 0))).1 = 6 ∧ (Rf (((Rf (((Rf r0 3).getD 0)) 0).getD 0)) 0).isSome = true ∧ sm_rd (K (((Rf (((Rf (((Rf r0 3).getD 0)) 0).getD 0)) 0).getD 0))) (wr x1) ∧ Q (some (.inl (Z (((Rf (((Rf (((Rf r0 3).getD 0)) 0).getD 0)) 0).getD 0)) ((wr x1).toNat)))) (Z, Rf, K, n, z)) := (w_aload_n t99_88 rfl rfl).trans ((w_getR t99_89 rfl (by decide)).trans (congrArg (And _) (congrArg (And _) ((w_getR t99_92 rfl (by decide)).trans (congrArg (And _) (congrArg (And _) ((w_getR t99_95 rfl (by decide)).trans (congrArg (And _) (congrArg (And _) ((w_iload_n t99_98 rfl rfl).trans ((w_iald t99_99 rfl rfl).trans (congrArg (And _) (w_iret t99_100)))))))))))))
set_option maxRecDepth 10000 in
theorem b99_101 {d : Nat} {r0 : Nat} {x1 : Int} {l2 : Option sm_V} {Z : Nat → Nat → Int} {Rf : Nat → Nat → Option Nat} {K : Nat → Nat × Nat} {n z : Nat} {Q : Option sm_V → sm_S → Prop} : sm_wp d 99 101 [some (.inr (some r0)), some (.inl x1), l2] [] (Z, Rf, K, n, z) Q = ((K r0).1 = 10 ∧ (Rf r0 0).isSome = true ∧ (K (((Rf r0 0).getD 0))).1 = 1 ∧ (Rf (((Rf r0 0).getD 0)) 7).isSome = true ∧ sm_rd (K (((Rf (((Rf r0 0).getD 0)) 7).getD 0))) (wr x1) ∧ Q (some (.inl (Z (((Rf (((Rf r0 0).getD 0)) 7).getD 0)) ((wr x1).toNat)))) (Z, Rf, K, n, z)) := (w_aload_n t99_101 rfl rfl).trans ((w_getR t99_102 rfl (by decide)).trans (congrArg (And _) (congrArg (And _) ((w_getR t99_105 rfl (by decide)).trans (congrArg (And _) (congrArg (And _) ((w_iload_n t99_108 rfl rfl).trans ((w_iald t99_109 rfl rfl).trans (congrArg (And _) (w_iret t99_110))))))))))
set_option maxRecDepth 10000 in
theorem b99_111 {d : Nat} {r0 : Nat} {x1 : Int} {l2 : Option sm_V} {Z : Nat → Nat → Int} {Rf : Nat → Nat → Option Nat} {K : Nat → Nat × Nat} {n z : Nat} {Q : Option sm_V → sm_S → Prop} : sm_wp d 99 111 [some (.inr (some r0)), some (.inl x1), l2] [] (Z, Rf, K, n, z) Q = ((K r0).1 = 10 ∧ (Rf r0 0).isSome = true ∧ (K (((Rf r0 0).getD 0))).1 = 1 ∧ (Rf (((Rf r0 0).getD 0)) 8).isSome = true ∧ sm_rd (K (((Rf (((Rf r0 0).getD 0)) 8).getD 0))) (wr x1) ∧ Q (some (.inl (Z (((Rf (((Rf r0 0).getD 0)) 8).getD 0)) ((wr x1).toNat)))) (Z, Rf, K, n, z)) := (w_aload_n t99_111 rfl rfl).trans ((w_getR t99_112 rfl (by decide)).trans (congrArg (And _) (congrArg (And _) ((w_getR t99_115 rfl (by decide)).trans (congrArg (And _) (congrArg (And _) ((w_iload_n t99_118 rfl rfl).trans ((w_iald t99_119 rfl rfl).trans (congrArg (And _) (w_iret t99_120))))))))))
set_option maxRecDepth 10000 in
theorem b99_121 {d : Nat} {r0 : Nat} {x1 : Int} {l2 : Option sm_V} {Z : Nat → Nat → Int} {Rf : Nat → Nat → Option Nat} {K : Nat → Nat × Nat} {n z : Nat} {Q : Option sm_V → sm_S → Prop} : sm_wp d 99 121 [some (.inr (some r0)), some (.inl x1), l2] [] (Z, Rf, K, n, z) Q = ((K r0).1 = 10 ∧ (Rf r0 0).isSome = true ∧ (K (((Rf r0 0).getD 0))).1 = 1 ∧ (Rf (((Rf r0 0).getD 0)) 6).isSome = true ∧ sm_rd (K (((Rf (((Rf r0 0).getD 0)) 6).getD 0))) (wr x1) ∧ Q (some (.inl (Z (((Rf (((Rf r0 0).getD 0)) 6).getD 0)) ((wr x1).toNat)))) (Z, Rf, K, n, z)) := (w_aload_n t99_121 rfl rfl).trans ((w_getR t99_122 rfl (by decide)).trans (congrArg (And _) (congrArg (And _) ((w_getR t99_125 rfl (by decide)).trans (congrArg (And _) (congrArg (And _) ((w_iload_n t99_128 rfl rfl).trans ((w_iald t99_129 rfl rfl).trans (congrArg (And _) (w_iret t99_130))))))))))
set_option maxRecDepth 10000 in
theorem b99_131 {d : Nat} {r0 : Nat} {l1 : Option sm_V} {l2 : Option sm_V} {Z : Nat → Nat → Int} {Rf : Nat → Nat → Option Nat} {K : Nat → Nat × Nat} {n z : Nat} {Q : Option sm_V → sm_S → Prop} : sm_wp (d + 1) 99 131 [some (.inr (some r0)), l1, l2] [] (Z, Rf, K, n, z) Q = ((K r0).1 = 10 ∧ (Rf r0 3).isSome = true ∧ (K (((Rf r0 3).getD 0))).1 = 7 ∧ (Rf (((Rf r0 3).getD 0)) 1).isSome = true ∧ (K r0).1 = 10 ∧ (Rf r0 0).isSome = true ∧ (K r0).1 = 10 ∧ (Rf r0 0).isSome = true ∧ (K (((Rf r0 0).getD 0))).1 = 1 ∧ (Rf (((Rf r0 0).getD 0)) 18).isSome = true ∧ (K (((Rf (((Rf r0 3).getD 0)) 1).getD 0))).1 = 0 ∧ sm_call d 1 [.inr (some ((Rf (((Rf r0 3).getD 0)) 1).getD 0)), .inr (some ((Rf r0 0).getD 0)), .inr (some ((Rf (((Rf r0 0).getD 0)) 18).getD 0))] (Z, Rf, K, n, z) (sm_cont (d + 1) 99 152 [some (.inr (some r0)), l1, l2] [] Q)) := (w_aload_n t99_131 rfl rfl).trans ((w_getR t99_132 rfl (by decide)).trans (congrArg (And _) (congrArg (And _) ((w_getR t99_135 rfl (by decide)).trans (congrArg (And _) (congrArg (And _) ((w_aload_n t99_138 rfl rfl).trans ((w_getR t99_139 rfl (by decide)).trans (congrArg (And _) (congrArg (And _) ((w_aload_n t99_142 rfl rfl).trans ((w_getR t99_143 rfl (by decide)).trans (congrArg (And _) (congrArg (And _) ((w_getR t99_146 rfl (by decide)).trans (congrArg (And _) (congrArg (And _) (w_callV t99_149 rfl rfl rfl rfl (Nat.le_of_ble_eq_true rfl) (Nat.le_of_ble_eq_true rfl) rfl (by decide)))))))))))))))))))
set_option maxRecDepth 10000 in
theorem b99_152 {d : Nat} {r0 : Nat} {x1 : Int} {l2 : Option sm_V} {Z : Nat → Nat → Int} {Rf : Nat → Nat → Option Nat} {K : Nat → Nat × Nat} {n z : Nat} {Q : Option sm_V → sm_S → Prop} : sm_wp d 99 152 [some (.inr (some r0)), some (.inl x1), l2] [] (Z, Rf, K, n, z) Q = ((K r0).1 = 10 ∧ (Rf r0 3).isSome = true ∧ (K (((Rf r0 3).getD 0))).1 = 7 ∧ (Rf (((Rf r0 3).getD 0)) 1).isSome = true ∧ (K (((Rf (((Rf r0 3).getD 0)) 1).getD 0))).1 = 0 ∧ (Rf (((Rf (((Rf r0 3).getD 0)) 1).getD 0)) 0).isSome = true ∧ sm_rd (K (((Rf (((Rf (((Rf r0 3).getD 0)) 1).getD 0)) 0).getD 0))) (wr x1) ∧ Q (some (.inl (Z (((Rf (((Rf (((Rf r0 3).getD 0)) 1).getD 0)) 0).getD 0)) ((wr x1).toNat)))) (Z, Rf, K, n, z)) := (w_aload_n t99_152 rfl rfl).trans ((w_getR t99_153 rfl (by decide)).trans (congrArg (And _) (congrArg (And _) ((w_getR t99_156 rfl (by decide)).trans (congrArg (And _) (congrArg (And _) ((w_getR t99_159 rfl (by decide)).trans (congrArg (And _) (congrArg (And _) ((w_iload_n t99_162 rfl rfl).trans ((w_iald t99_163 rfl rfl).trans (congrArg (And _) (w_iret t99_164)))))))))))))
set_option maxRecDepth 10000 in
theorem b99_165 {d : Nat} {r0 : Nat} {l1 : Option sm_V} {l2 : Option sm_V} {Z : Nat → Nat → Int} {Rf : Nat → Nat → Option Nat} {K : Nat → Nat × Nat} {n z : Nat} {Q : Option sm_V → sm_S → Prop} : sm_wp (d + 1) 99 165 [some (.inr (some r0)), l1, l2] [] (Z, Rf, K, n, z) Q = ((K r0).1 = 10 ∧ (Rf r0 3).isSome = true ∧ (K (((Rf r0 3).getD 0))).1 = 7 ∧ (Rf (((Rf r0 3).getD 0)) 1).isSome = true ∧ (K r0).1 = 10 ∧ (Rf r0 0).isSome = true ∧ (K r0).1 = 10 ∧ (Rf r0 0).isSome = true ∧ (K (((Rf r0 0).getD 0))).1 = 1 ∧ (Rf (((Rf r0 0).getD 0)) 18).isSome = true ∧ (K (((Rf (((Rf r0 3).getD 0)) 1).getD 0))).1 = 0 ∧ sm_call d 1 [.inr (some ((Rf (((Rf r0 3).getD 0)) 1).getD 0)), .inr (some ((Rf r0 0).getD 0)), .inr (some ((Rf (((Rf r0 0).getD 0)) 18).getD 0))] (Z, Rf, K, n, z) (sm_cont (d + 1) 99 186 [some (.inr (some r0)), l1, l2] [] Q)) := (w_aload_n t99_165 rfl rfl).trans ((w_getR t99_166 rfl (by decide)).trans (congrArg (And _) (congrArg (And _) ((w_getR t99_169 rfl (by decide)).trans (congrArg (And _) (congrArg (And _) ((w_aload_n t99_172 rfl rfl).trans ((w_getR t99_173 rfl (by decide)).trans (congrArg (And _) (congrArg (And _) ((w_aload_n t99_176 rfl rfl).trans ((w_getR t99_177 rfl (by decide)).trans (congrArg (And _) (congrArg (And _) ((w_getR t99_180 rfl (by decide)).trans (congrArg (And _) (congrArg (And _) (w_callV t99_183 rfl rfl rfl rfl (Nat.le_of_ble_eq_true rfl) (Nat.le_of_ble_eq_true rfl) rfl (by decide)))))))))))))))))))
set_option maxRecDepth 10000 in
theorem b99_186 {d : Nat} {r0 : Nat} {x1 : Int} {l2 : Option sm_V} {Z : Nat → Nat → Int} {Rf : Nat → Nat → Option Nat} {K : Nat → Nat × Nat} {n z : Nat} {Q : Option sm_V → sm_S → Prop} : sm_wp (d + 1) 99 186 [some (.inr (some r0)), some (.inl x1), l2] [] (Z, Rf, K, n, z) Q = ((K r0).1 = 10 ∧ (Rf r0 3).isSome = true ∧ (K (((Rf r0 3).getD 0))).1 = 7 ∧ (Rf (((Rf r0 3).getD 0)) 1).isSome = true ∧ (K (((Rf (((Rf r0 3).getD 0)) 1).getD 0))).1 = 0 ∧ sm_call d 4 [.inr (some ((Rf (((Rf r0 3).getD 0)) 1).getD 0)), .inl x1] (Z, Rf, K, n, z) (sm_cont (d + 1) 99 197 [some (.inr (some r0)), some (.inl x1), l2] [] Q)) := (w_aload_n t99_186 rfl rfl).trans ((w_getR t99_187 rfl (by decide)).trans (congrArg (And _) (congrArg (And _) ((w_getR t99_190 rfl (by decide)).trans (congrArg (And _) (congrArg (And _) ((w_iload_n t99_193 rfl rfl).trans (w_callV t99_194 rfl rfl rfl rfl (Nat.le_of_ble_eq_true rfl) (Nat.le_of_ble_eq_true rfl) rfl (by decide)))))))))
set_option maxRecDepth 10000 in
theorem b99_197 {d : Nat} {l0 : Option sm_V} {l1 : Option sm_V} {l2 : Option sm_V} {s0 : Int} {Z : Nat → Nat → Int} {Rf : Nat → Nat → Option Nat} {K : Nat → Nat × Nat} {n z : Nat} {Q : Option sm_V → sm_S → Prop} : sm_wp d 99 197 [l0, l1, l2] [.inl s0] (Z, Rf, K, n, z) Q = (Q (some (.inl s0)) (Z, Rf, K, n, z)) := w_iret t99_197
set_option maxRecDepth 10000 in
theorem b99_198 {d : Nat} {r0 : Nat} {x1 : Int} {l2 : Option sm_V} {Z : Nat → Nat → Int} {Rf : Nat → Nat → Option Nat} {K : Nat → Nat × Nat} {n z : Nat} {Q : Option sm_V → sm_S → Prop} : sm_wp d 99 198 [some (.inr (some r0)), some (.inl x1), l2] [] (Z, Rf, K, n, z) Q = ((K r0).1 = 10 ∧ (Rf r0 0).isSome = true ∧ (K (((Rf r0 0).getD 0))).1 = 1 ∧ (Rf (((Rf r0 0).getD 0)) 9).isSome = true ∧ sm_rd (K (((Rf (((Rf r0 0).getD 0)) 9).getD 0))) (wr x1) ∧ Q (some (.inl (Z (((Rf (((Rf r0 0).getD 0)) 9).getD 0)) ((wr x1).toNat)))) (Z, Rf, K, n, z)) := (w_aload_n t99_198 rfl rfl).trans ((w_getR t99_199 rfl (by decide)).trans (congrArg (And _) (congrArg (And _) ((w_getR t99_202 rfl (by decide)).trans (congrArg (And _) (congrArg (And _) ((w_iload_n t99_205 rfl rfl).trans ((w_iald t99_206 rfl rfl).trans (congrArg (And _) (w_iret t99_207))))))))))
set_option maxRecDepth 10000 in
theorem b99_208 {d : Nat} {r0 : Nat} {x1 : Int} {l2 : Option sm_V} {Z : Nat → Nat → Int} {Rf : Nat → Nat → Option Nat} {K : Nat → Nat × Nat} {n z : Nat} {Q : Option sm_V → sm_S → Prop} : sm_wp d 99 208 [some (.inr (some r0)), some (.inl x1), l2] [] (Z, Rf, K, n, z) Q = ((K r0).1 = 10 ∧ (Rf r0 0).isSome = true ∧ (K (((Rf r0 0).getD 0))).1 = 1 ∧ (Rf (((Rf r0 0).getD 0)) 5).isSome = true ∧ sm_rd (K (((Rf (((Rf r0 0).getD 0)) 5).getD 0))) (wr x1) ∧ Q (some (.inl (Z (((Rf (((Rf r0 0).getD 0)) 5).getD 0)) ((wr x1).toNat)))) (Z, Rf, K, n, z)) := (w_aload_n t99_208 rfl rfl).trans ((w_getR t99_209 rfl (by decide)).trans (congrArg (And _) (congrArg (And _) ((w_getR t99_212 rfl (by decide)).trans (congrArg (And _) (congrArg (And _) ((w_iload_n t99_215 rfl rfl).trans ((w_iald t99_216 rfl rfl).trans (congrArg (And _) (w_iret t99_217))))))))))
set_option maxRecDepth 10000 in
theorem b99_218 {d : Nat} {l0 : Option sm_V} {l1 : Option sm_V} {l2 : Option sm_V} {Z : Nat → Nat → Int} {Rf : Nat → Nat → Option Nat} {K : Nat → Nat × Nat} {n z : Nat} {Q : Option sm_V → sm_S → Prop} : sm_wp d 99 218 [l0, l1, l2] [] (Z, Rf, K, n, z) Q = (Q (some (.inl ((-1)))) (Z, Rf, K, n, z)) := (w_iconst t99_218 rfl).trans (w_iret t99_219)
theorem t100_0 : sm_at 100 0 = some (1, .aload_n 0, 0, 0, 0) := rfl
theorem t100_1 : sm_at 100 1 = some (3, .getfield 10, 10, 0, 0) := rfl
theorem t100_4 : sm_at 100 4 = some (1, .iload_n 1, 0, 0, 0) := rfl
theorem t100_5 : sm_at 100 5 = some (1, .iload_n 2, 0, 0, 0) := rfl
theorem t100_6 : sm_at 100 6 = some (1, .iload_n 3, 0, 0, 0) := rfl
theorem t100_7 : sm_at 100 7 = some (3, .invokevirtual 194, 11, 4, 0) := rfl
theorem t100_10 : sm_at 100 10 = some (2, .istore 5, 0, 0, 0) := rfl
theorem t100_12 : sm_at 100 12 = some (2, .iload 5, 0, 0, 0) := rfl
theorem t100_14 : sm_at 100 14 = some (1, .iconst (-1), 0, 0, 0) := rfl
theorem t100_15 : sm_at 100 15 = some (3, .if_icmp .eq 13, 0, 0, 0) := rfl
theorem t100_18 : sm_at 100 18 = some (2, .iload 4, 0, 0, 0) := rfl
theorem t100_20 : sm_at 100 20 = some (1, .iconst 0, 0, 0, 0) := rfl
theorem t100_21 : sm_at 100 21 = some (1, .iconst 1, 0, 0, 0) := rfl
theorem t100_22 : sm_at 100 22 = some (3, .invokestatic 65, 112, 3, 0) := rfl
theorem t100_25 : sm_at 100 25 = some (3, .ifCond .ne 6, 0, 0, 0) := rfl
theorem t100_28 : sm_at 100 28 = some (2, .bipush (-2), 0, 0, 0) := rfl
theorem t100_30 : sm_at 100 30 = some (1, .ireturn, 0, 0, 0) := rfl
theorem t100_31 : sm_at 100 31 = some (2, .iload 4, 0, 0, 0) := rfl
theorem t100_33 : sm_at 100 33 = some (3, .ifCond .ne 19, 0, 0, 0) := rfl
theorem t100_36 : sm_at 100 36 = some (1, .aload_n 0, 0, 0, 0) := rfl
theorem t100_37 : sm_at 100 37 = some (3, .getfield 10, 10, 0, 0) := rfl
theorem t100_40 : sm_at 100 40 = some (3, .getfield 174, 1, 18, 0) := rfl
theorem t100_43 : sm_at 100 43 = some (3, .getfield 198, 9, 0, 0) := rfl
theorem t100_46 : sm_at 100 46 = some (2, .iload 5, 0, 0, 0) := rfl
theorem t100_48 : sm_at 100 48 = some (1, .iaload, 0, 0, 0) := rfl
theorem t100_49 : sm_at 100 49 = some (3, .goto 16, 0, 0, 0) := rfl
theorem t100_52 : sm_at 100 52 = some (1, .aload_n 0, 0, 0, 0) := rfl
theorem t100_53 : sm_at 100 53 = some (3, .getfield 10, 10, 0, 0) := rfl
theorem t100_56 : sm_at 100 56 = some (3, .getfield 174, 1, 18, 0) := rfl
theorem t100_59 : sm_at 100 59 = some (3, .getfield 203, 9, 1, 0) := rfl
theorem t100_62 : sm_at 100 62 = some (2, .iload 5, 0, 0, 0) := rfl
theorem t100_64 : sm_at 100 64 = some (1, .iaload, 0, 0, 0) := rfl
theorem t100_65 : sm_at 100 65 = some (1, .ireturn, 0, 0, 0) := rfl
set_option maxRecDepth 10000 in
theorem b100_0 {d : Nat} {r0 : Nat} {x1 : Int} {x2 : Int} {x3 : Int} {l4 : Option sm_V} {l5 : Option sm_V} {Z : Nat → Nat → Int} {Rf : Nat → Nat → Option Nat} {K : Nat → Nat × Nat} {n z : Nat} {Q : Option sm_V → sm_S → Prop} : sm_wp (d + 1) 100 0 [some (.inr (some r0)), some (.inl x1), some (.inl x2), some (.inl x3), l4, l5] [] (Z, Rf, K, n, z) Q = ((K r0).1 = 10 ∧ (Rf r0 0).isSome = true ∧ (K (((Rf r0 0).getD 0))).1 = 1 ∧ sm_call d 11 [.inr (some ((Rf r0 0).getD 0)), .inl x1, .inl x2, .inl x3] (Z, Rf, K, n, z) (sm_cont (d + 1) 100 10 [some (.inr (some r0)), some (.inl x1), some (.inl x2), some (.inl x3), l4, l5] [] Q)) := (w_aload_n t100_0 rfl rfl).trans ((w_getR t100_1 rfl (by decide)).trans (congrArg (And _) (congrArg (And _) ((w_iload_n t100_4 rfl rfl).trans ((w_iload_n t100_5 rfl rfl).trans ((w_iload_n t100_6 rfl rfl).trans (w_callV t100_7 rfl rfl rfl rfl (Nat.le_of_ble_eq_true rfl) (Nat.le_of_ble_eq_true rfl) rfl (by decide))))))))
set_option maxRecDepth 10000 in
theorem b100_10 {d : Nat} {l0 : Option sm_V} {l1 : Option sm_V} {l2 : Option sm_V} {l3 : Option sm_V} {l4 : Option sm_V} {l5 : Option sm_V} {s0 : Int} {Z : Nat → Nat → Int} {Rf : Nat → Nat → Option Nat} {K : Nat → Nat × Nat} {n z : Nat} {Q : Option sm_V → sm_S → Prop} : sm_wp d 100 10 [l0, l1, l2, l3, l4, l5] [.inl s0] (Z, Rf, K, n, z) Q = (if wr s0 = (-1 : Int) then sm_wp d 100 28 [l0, l1, l2, l3, l4, some (.inl s0)] [] (Z, Rf, K, n, z) Q else sm_wp d 100 18 [l0, l1, l2, l3, l4, some (.inl s0)] [] (Z, Rf, K, n, z) Q) := (w_istore t100_10 rfl (Nat.le_of_ble_eq_true rfl) rfl).trans ((w_iload t100_12 rfl rfl).trans ((w_iconst t100_14 rfl).trans (w_iceq t100_15 rfl wl_m1 rfl rfl)))
set_option maxRecDepth 10000 in
theorem b100_18 {d : Nat} {l0 : Option sm_V} {l1 : Option sm_V} {l2 : Option sm_V} {l3 : Option sm_V} {x4 : Int} {l5 : Option sm_V} {Z : Nat → Nat → Int} {Rf : Nat → Nat → Option Nat} {K : Nat → Nat × Nat} {n z : Nat} {Q : Option sm_V → sm_S → Prop} : sm_wp (d + 1) 100 18 [l0, l1, l2, l3, some (.inl x4), l5] [] (Z, Rf, K, n, z) Q = (sm_call d 112 [.inl x4, .inl 0, .inl 1] (Z, Rf, K, n, z) (sm_cont (d + 1) 100 25 [l0, l1, l2, l3, some (.inl x4), l5] [] Q)) := (w_iload t100_18 rfl rfl).trans ((w_iconst t100_20 rfl).trans ((w_iconst t100_21 rfl).trans (w_callS t100_22 rfl rfl rfl rfl (Nat.le_of_ble_eq_true rfl) (Nat.le_of_ble_eq_true rfl) rfl)))
set_option maxRecDepth 10000 in
theorem b100_25 {d : Nat} {l0 : Option sm_V} {l1 : Option sm_V} {l2 : Option sm_V} {l3 : Option sm_V} {l4 : Option sm_V} {l5 : Option sm_V} {s0 : Int} {Z : Nat → Nat → Int} {Rf : Nat → Nat → Option Nat} {K : Nat → Nat × Nat} {n z : Nat} {Q : Option sm_V → sm_S → Prop} : sm_wp d 100 25 [l0, l1, l2, l3, l4, l5] [.inl s0] (Z, Rf, K, n, z) Q = (if wr s0 = 0 then sm_wp d 100 28 [l0, l1, l2, l3, l4, l5] [] (Z, Rf, K, n, z) Q else sm_wp d 100 31 [l0, l1, l2, l3, l4, l5] [] (Z, Rf, K, n, z) Q) := w_ifne t100_25 rfl rfl rfl
set_option maxRecDepth 10000 in
theorem b100_28 {d : Nat} {l0 : Option sm_V} {l1 : Option sm_V} {l2 : Option sm_V} {l3 : Option sm_V} {l4 : Option sm_V} {l5 : Option sm_V} {Z : Nat → Nat → Int} {Rf : Nat → Nat → Option Nat} {K : Nat → Nat × Nat} {n z : Nat} {Q : Option sm_V → sm_S → Prop} : sm_wp d 100 28 [l0, l1, l2, l3, l4, l5] [] (Z, Rf, K, n, z) Q = (Q (some (.inl ((-2)))) (Z, Rf, K, n, z)) := (w_bipush t100_28 rfl).trans (w_iret t100_30)
set_option maxRecDepth 10000 in
theorem b100_31 {d : Nat} {l0 : Option sm_V} {l1 : Option sm_V} {l2 : Option sm_V} {l3 : Option sm_V} {x4 : Int} {l5 : Option sm_V} {Z : Nat → Nat → Int} {Rf : Nat → Nat → Option Nat} {K : Nat → Nat × Nat} {n z : Nat} {Q : Option sm_V → sm_S → Prop} : sm_wp d 100 31 [l0, l1, l2, l3, some (.inl x4), l5] [] (Z, Rf, K, n, z) Q = (if wr x4 = 0 then sm_wp d 100 36 [l0, l1, l2, l3, some (.inl x4), l5] [] (Z, Rf, K, n, z) Q else sm_wp d 100 52 [l0, l1, l2, l3, some (.inl x4), l5] [] (Z, Rf, K, n, z) Q) := (w_iload t100_31 rfl rfl).trans (w_ifne t100_33 rfl rfl rfl)
set_option maxRecDepth 10000 in
theorem b100_36 {d : Nat} {r0 : Nat} {l1 : Option sm_V} {l2 : Option sm_V} {l3 : Option sm_V} {l4 : Option sm_V} {x5 : Int} {Z : Nat → Nat → Int} {Rf : Nat → Nat → Option Nat} {K : Nat → Nat × Nat} {n z : Nat} {Q : Option sm_V → sm_S → Prop} : sm_wp d 100 36 [some (.inr (some r0)), l1, l2, l3, l4, some (.inl x5)] [] (Z, Rf, K, n, z) Q = ((K r0).1 = 10 ∧ (Rf r0 0).isSome = true ∧ (K (((Rf r0 0).getD 0))).1 = 1 ∧ (Rf (((Rf r0 0).getD 0)) 18).isSome = true ∧ (K (((Rf (((Rf r0 0).getD 0)) 18).getD 0))).1 = 9 ∧ (Rf (((Rf (((Rf r0 0).getD 0)) 18).getD 0)) 0).isSome = true ∧ sm_rd (K (((Rf (((Rf (((Rf r0 0).getD 0)) 18).getD 0)) 0).getD 0))) (wr x5) ∧ sm_wp d 100 65 [some (.inr (some r0)), l1, l2, l3, l4, some (.inl x5)] [.inl (Z (((Rf (((Rf (((Rf r0 0).getD 0)) 18).getD 0)) 0).getD 0)) ((wr x5).toNat))] (Z, Rf, K, n, z) Q) := (w_aload_n t100_36 rfl rfl).trans ((w_getR t100_37 rfl (by decide)).trans (congrArg (And _) (congrArg (And _) ((w_getR t100_40 rfl (by decide)).trans (congrArg (And _) (congrArg (And _) ((w_getR t100_43 rfl (by decide)).trans (congrArg (And _) (congrArg (And _) ((w_iload t100_46 rfl rfl).trans ((w_iald t100_48 rfl rfl).trans (congrArg (And _) (w_goto t100_49 rfl)))))))))))))
set_option maxRecDepth 10000 in
theorem b100_52 {d : Nat} {r0 : Nat} {l1 : Option sm_V} {l2 : Option sm_V} {l3 : Option sm_V} {l4 : Option sm_V} {x5 : Int} {Z : Nat → Nat → Int} {Rf : Nat → Nat → Option Nat} {K : Nat → Nat × Nat} {n z : Nat} {Q : Option sm_V → sm_S → Prop} : sm_wp d 100 52 [some (.inr (some r0)), l1, l2, l3, l4, some (.inl x5)] [] (Z, Rf, K, n, z) Q = ((K r0).1 = 10 ∧ (Rf r0 0).isSome = true ∧ (K (((Rf r0 0).getD 0))).1 = 1 ∧ (Rf (((Rf r0 0).getD 0)) 18).isSome = true ∧ (K (((Rf (((Rf r0 0).getD 0)) 18).getD 0))).1 = 9 ∧ (Rf (((Rf (((Rf r0 0).getD 0)) 18).getD 0)) 1).isSome = true ∧ sm_rd (K (((Rf (((Rf (((Rf r0 0).getD 0)) 18).getD 0)) 1).getD 0))) (wr x5) ∧ sm_wp d 100 65 [some (.inr (some r0)), l1, l2, l3, l4, some (.inl x5)] [.inl (Z (((Rf (((Rf (((Rf r0 0).getD 0)) 18).getD 0)) 1).getD 0)) ((wr x5).toNat))] (Z, Rf, K, n, z) Q) := (w_aload_n t100_52 rfl rfl).trans ((w_getR t100_53 rfl (by decide)).trans (congrArg (And _) (congrArg (And _) ((w_getR t100_56 rfl (by decide)).trans (congrArg (And _) (congrArg (And _) ((w_getR t100_59 rfl (by decide)).trans (congrArg (And _) (congrArg (And _) ((w_iload t100_62 rfl rfl).trans ((w_iald t100_64 rfl rfl).trans (congrArg (And _) rfl))))))))))))
set_option maxRecDepth 10000 in
theorem b100_65 {d : Nat} {l0 : Option sm_V} {l1 : Option sm_V} {l2 : Option sm_V} {l3 : Option sm_V} {l4 : Option sm_V} {l5 : Option sm_V} {s0 : Int} {Z : Nat → Nat → Int} {Rf : Nat → Nat → Option Nat} {K : Nat → Nat × Nat} {n z : Nat} {Q : Option sm_V → sm_S → Prop} : sm_wp d 100 65 [l0, l1, l2, l3, l4, l5] [.inl s0] (Z, Rf, K, n, z) Q = (Q (some (.inl s0)) (Z, Rf, K, n, z)) := w_iret t100_65
theorem t101_0 : sm_at 101 0 = some (1, .aload_n 0, 0, 0, 0) := rfl
theorem t101_1 : sm_at 101 1 = some (3, .getfield 10, 10, 0, 0) := rfl
theorem t101_4 : sm_at 101 4 = some (3, .getfield 174, 1, 18, 0) := rfl
theorem t101_7 : sm_at 101 7 = some (3, .getfield 206, 9, 2, 0) := rfl
theorem t101_10 : sm_at 101 10 = some (1, .astore_n 3, 0, 0, 0) := rfl
theorem t101_11 : sm_at 101 11 = some (1, .iload_n 1, 0, 0, 0) := rfl
theorem t101_12 : sm_at 101 12 = some (1, .iconst 0, 0, 0, 0) := rfl
theorem t101_13 : sm_at 101 13 = some (1, .aload_n 3, 0, 0, 0) := rfl
theorem t101_14 : sm_at 101 14 = some (3, .getfield 209, 5, 2, 0) := rfl
theorem t101_17 : sm_at 101 17 = some (1, .iconst 1, 0, 0, 0) := rfl
theorem t101_18 : sm_at 101 18 = some (1, .isub, 0, 0, 0) := rfl
theorem t101_19 : sm_at 101 19 = some (3, .invokestatic 65, 112, 3, 0) := rfl
theorem t101_22 : sm_at 101 22 = some (3, .ifCond .eq 12, 0, 0, 0) := rfl
theorem t101_25 : sm_at 101 25 = some (1, .iload_n 2, 0, 0, 0) := rfl
theorem t101_26 : sm_at 101 26 = some (1, .iconst 0, 0, 0, 0) := rfl
theorem t101_27 : sm_at 101 27 = some (1, .iconst 5, 0, 0, 0) := rfl
theorem t101_28 : sm_at 101 28 = some (3, .invokestatic 65, 112, 3, 0) := rfl
theorem t101_31 : sm_at 101 31 = some (3, .ifCond .ne 5, 0, 0, 0) := rfl
theorem t101_34 : sm_at 101 34 = some (1, .iconst (-1), 0, 0, 0) := rfl
theorem t101_35 : sm_at 101 35 = some (1, .ireturn, 0, 0, 0) := rfl
theorem t101_36 : sm_at 101 36 = some (1, .iload_n 2, 0, 0, 0) := rfl
theorem t101_37 : sm_at 101 37 = some (1, .iconst 5, 0, 0, 0) := rfl
theorem t101_38 : sm_at 101 38 = some (3, .if_icmp .ge 12, 0, 0, 0) := rfl
theorem t101_41 : sm_at 101 41 = some (1, .aload_n 3, 0, 0, 0) := rfl
theorem t101_42 : sm_at 101 42 = some (1, .iload_n 1, 0, 0, 0) := rfl
theorem t101_43 : sm_at 101 43 = some (1, .iload_n 2, 0, 0, 0) := rfl
theorem t101_44 : sm_at 101 44 = some (3, .invokevirtual 212, 54, 3, 0) := rfl
theorem t101_47 : sm_at 101 47 = some (3, .goto 22, 0, 0, 0) := rfl
theorem t101_50 : sm_at 101 50 = some (1, .aload_n 0, 0, 0, 0) := rfl
theorem t101_51 : sm_at 101 51 = some (3, .getfield 10, 10, 0, 0) := rfl
theorem t101_54 : sm_at 101 54 = some (1, .aload_n 3, 0, 0, 0) := rfl
theorem t101_55 : sm_at 101 55 = some (1, .iload_n 1, 0, 0, 0) := rfl
theorem t101_56 : sm_at 101 56 = some (1, .iconst 2, 0, 0, 0) := rfl
theorem t101_57 : sm_at 101 57 = some (3, .invokevirtual 212, 54, 3, 0) := rfl
theorem t101_60 : sm_at 101 60 = some (1, .aload_n 3, 0, 0, 0) := rfl
theorem t101_61 : sm_at 101 61 = some (1, .iload_n 1, 0, 0, 0) := rfl
theorem t101_62 : sm_at 101 62 = some (1, .iconst 3, 0, 0, 0) := rfl
theorem t101_63 : sm_at 101 63 = some (3, .invokevirtual 212, 54, 3, 0) := rfl
theorem t101_66 : sm_at 101 66 = some (3, .invokevirtual 216, 17, 3, 0) := rfl
theorem t101_69 : sm_at 101 69 = some (1, .ireturn, 0, 0, 0) := rfl
set_option maxRecDepth 10000 in
theorem b101_0 {d : Nat} {r0 : Nat} {x1 : Int} {l2 : Option sm_V} {l3 : Option sm_V} {Z : Nat → Nat → Int} {Rf : Nat → Nat → Option Nat} {K : Nat → Nat × Nat} {n z : Nat} {Q : Option sm_V → sm_S → Prop} : sm_wp (d + 1) 101 0 [some (.inr (some r0)), some (.inl x1), l2, l3] [] (Z, Rf, K, n, z) Q = ((K r0).1 = 10 ∧ (Rf r0 0).isSome = true ∧ (K (((Rf r0 0).getD 0))).1 = 1 ∧ (Rf (((Rf r0 0).getD 0)) 18).isSome = true ∧ (K (((Rf (((Rf r0 0).getD 0)) 18).getD 0))).1 = 9 ∧ (Rf (((Rf (((Rf r0 0).getD 0)) 18).getD 0)) 2).isSome = true ∧ (K (((Rf (((Rf (((Rf r0 0).getD 0)) 18).getD 0)) 2).getD 0))).1 = 5 ∧ sm_call d 112 [.inl x1, .inl 0, .inl ((Z (((Rf (((Rf (((Rf r0 0).getD 0)) 18).getD 0)) 2).getD 0)) 2) - 1)] (Z, Rf, K, n, z) (sm_cont (d + 1) 101 22 [some (.inr (some r0)), some (.inl x1), l2, some (.inr (some ((Rf (((Rf (((Rf r0 0).getD 0)) 18).getD 0)) 2).getD 0)))] [] Q)) := (w_aload_n t101_0 rfl rfl).trans ((w_getR t101_1 rfl (by decide)).trans (congrArg (And _) (congrArg (And _) ((w_getR t101_4 rfl (by decide)).trans (congrArg (And _) (congrArg (And _) ((w_getR t101_7 rfl (by decide)).trans (congrArg (And _) (congrArg (And _) ((w_astore_n t101_10 rfl (Nat.le_of_ble_eq_true rfl) rfl).trans ((w_iload_n t101_11 rfl rfl).trans ((w_iconst t101_12 rfl).trans ((w_aload_n t101_13 rfl rfl).trans ((w_getI t101_14 rfl (by decide)).trans (congrArg (And _) ((w_iconst t101_17 rfl).trans ((w_isub t101_18 rfl).trans (w_callS t101_19 rfl rfl rfl rfl (Nat.le_of_ble_eq_true rfl) (Nat.le_of_ble_eq_true rfl) rfl))))))))))))))))))
set_option maxRecDepth 10000 in
theorem b101_22 {d : Nat} {l0 : Option sm_V} {l1 : Option sm_V} {l2 : Option sm_V} {l3 : Option sm_V} {s0 : Int} {Z : Nat → Nat → Int} {Rf : Nat → Nat → Option Nat} {K : Nat → Nat × Nat} {n z : Nat} {Q : Option sm_V → sm_S → Prop} : sm_wp d 101 22 [l0, l1, l2, l3] [.inl s0] (Z, Rf, K, n, z) Q = (if wr s0 = 0 then sm_wp d 101 34 [l0, l1, l2, l3] [] (Z, Rf, K, n, z) Q else sm_wp d 101 25 [l0, l1, l2, l3] [] (Z, Rf, K, n, z) Q) := w_ifeq t101_22 rfl rfl rfl
set_option maxRecDepth 10000 in
theorem b101_25 {d : Nat} {l0 : Option sm_V} {l1 : Option sm_V} {x2 : Int} {l3 : Option sm_V} {Z : Nat → Nat → Int} {Rf : Nat → Nat → Option Nat} {K : Nat → Nat × Nat} {n z : Nat} {Q : Option sm_V → sm_S → Prop} : sm_wp (d + 1) 101 25 [l0, l1, some (.inl x2), l3] [] (Z, Rf, K, n, z) Q = (sm_call d 112 [.inl x2, .inl 0, .inl 5] (Z, Rf, K, n, z) (sm_cont (d + 1) 101 31 [l0, l1, some (.inl x2), l3] [] Q)) := (w_iload_n t101_25 rfl rfl).trans ((w_iconst t101_26 rfl).trans ((w_iconst t101_27 rfl).trans (w_callS t101_28 rfl rfl rfl rfl (Nat.le_of_ble_eq_true rfl) (Nat.le_of_ble_eq_true rfl) rfl)))
set_option maxRecDepth 10000 in
theorem b101_31 {d : Nat} {l0 : Option sm_V} {l1 : Option sm_V} {l2 : Option sm_V} {l3 : Option sm_V} {s0 : Int} {Z : Nat → Nat → Int} {Rf : Nat → Nat → Option Nat} {K : Nat → Nat × Nat} {n z : Nat} {Q : Option sm_V → sm_S → Prop} : sm_wp d 101 31 [l0, l1, l2, l3] [.inl s0] (Z, Rf, K, n, z) Q = (if wr s0 = 0 then sm_wp d 101 34 [l0, l1, l2, l3] [] (Z, Rf, K, n, z) Q else sm_wp d 101 36 [l0, l1, l2, l3] [] (Z, Rf, K, n, z) Q) := w_ifne t101_31 rfl rfl rfl
set_option maxRecDepth 10000 in
theorem b101_34 {d : Nat} {l0 : Option sm_V} {l1 : Option sm_V} {l2 : Option sm_V} {l3 : Option sm_V} {Z : Nat → Nat → Int} {Rf : Nat → Nat → Option Nat} {K : Nat → Nat × Nat} {n z : Nat} {Q : Option sm_V → sm_S → Prop} : sm_wp d 101 34 [l0, l1, l2, l3] [] (Z, Rf, K, n, z) Q = (Q (some (.inl ((-1)))) (Z, Rf, K, n, z)) := (w_iconst t101_34 rfl).trans (w_iret t101_35)
set_option maxRecDepth 10000 in
theorem b101_36 {d : Nat} {l0 : Option sm_V} {l1 : Option sm_V} {x2 : Int} {l3 : Option sm_V} {Z : Nat → Nat → Int} {Rf : Nat → Nat → Option Nat} {K : Nat → Nat × Nat} {n z : Nat} {Q : Option sm_V → sm_S → Prop} : sm_wp d 101 36 [l0, l1, some (.inl x2), l3] [] (Z, Rf, K, n, z) Q = (if (5 : Int) ≤ wr x2 then sm_wp d 101 50 [l0, l1, some (.inl x2), l3] [] (Z, Rf, K, n, z) Q else sm_wp d 101 41 [l0, l1, some (.inl x2), l3] [] (Z, Rf, K, n, z) Q) := (w_iload_n t101_36 rfl rfl).trans ((w_iconst t101_37 rfl).trans (w_icge t101_38 rfl wl_5 rfl rfl))
set_option maxRecDepth 10000 in
theorem b101_41 {d : Nat} {l0 : Option sm_V} {x1 : Int} {x2 : Int} {r3 : Nat} {Z : Nat → Nat → Int} {Rf : Nat → Nat → Option Nat} {K : Nat → Nat × Nat} {n z : Nat} {Q : Option sm_V → sm_S → Prop} : sm_wp (d + 1) 101 41 [l0, some (.inl x1), some (.inl x2), some (.inr (some r3))] [] (Z, Rf, K, n, z) Q = ((K r3).1 = 5 ∧ sm_call d 54 [.inr (some r3), .inl x1, .inl x2] (Z, Rf, K, n, z) (sm_cont (d + 1) 101 47 [l0, some (.inl x1), some (.inl x2), some (.inr (some r3))] [] Q)) := (w_aload_n t101_41 rfl rfl).trans ((w_iload_n t101_42 rfl rfl).trans ((w_iload_n t101_43 rfl rfl).trans (w_callV t101_44 rfl rfl rfl rfl (Nat.le_of_ble_eq_true rfl) (Nat.le_of_ble_eq_true rfl) rfl (by decide))))
set_option maxRecDepth 10000 in
theorem b101_47 {d : Nat} {l0 : Option sm_V} {l1 : Option sm_V} {l2 : Option sm_V} {l3 : Option sm_V} {s0 : Int} {Z : Nat → Nat → Int} {Rf : Nat → Nat → Option Nat} {K : Nat → Nat × Nat} {n z : Nat} {Q : Option sm_V → sm_S → Prop} : sm_wp d 101 47 [l0, l1, l2, l3] [.inl s0] (Z, Rf, K, n, z) Q = (sm_wp d 101 69 [l0, l1, l2, l3] [.inl s0] (Z, Rf, K, n, z) Q) := w_goto t101_47 rfl
set_option maxRecDepth 10000 in
theorem b101_50 {d : Nat} {r0 : Nat} {x1 : Int} {l2 : Option sm_V} {r3 : Nat} {Z : Nat → Nat → Int} {Rf : Nat → Nat → Option Nat} {K : Nat → Nat × Nat} {n z : Nat} {Q : Option sm_V → sm_S → Prop} : sm_wp (d + 1) 101 50 [some (.inr (some r0)), some (.inl x1), l2, some (.inr (some r3))] [] (Z, Rf, K, n, z) Q = ((K r0).1 = 10 ∧ (Rf r0 0).isSome = true ∧ (K r3).1 = 5 ∧ sm_call d 54 [.inr (some r3), .inl x1, .inl 2] (Z, Rf, K, n, z) (sm_cont (d + 1) 101 60 [some (.inr (some r0)), some (.inl x1), l2, some (.inr (some r3))] [.inr (some ((Rf r0 0).getD 0))] Q)) := (w_aload_n t101_50 rfl rfl).trans ((w_getR t101_51 rfl (by decide)).trans (congrArg (And _) (congrArg (And _) ((w_aload_n t101_54 rfl rfl).trans ((w_iload_n t101_55 rfl rfl).trans ((w_iconst t101_56 rfl).trans (w_callV t101_57 rfl rfl rfl rfl (Nat.le_of_ble_eq_true rfl) (Nat.le_of_ble_eq_true rfl) rfl (by decide))))))))
set_option maxRecDepth 10000 in
theorem b101_60 {d : Nat} {l0 : Option sm_V} {x1 : Int} {l2 : Option sm_V} {r3 : Nat} {qs0 : Option Nat} {s1 : Int} {Z : Nat → Nat → Int} {Rf : Nat → Nat → Option Nat} {K : Nat → Nat × Nat} {n z : Nat} {Q : Option sm_V → sm_S → Prop} : sm_wp (d + 1) 101 60 [l0, some (.inl x1), l2, some (.inr (some r3))] [.inl s1, .inr qs0] (Z, Rf, K, n, z) Q = ((K r3).1 = 5 ∧ sm_call d 54 [.inr (some r3), .inl x1, .inl 3] (Z, Rf, K, n, z) (sm_cont (d + 1) 101 66 [l0, some (.inl x1), l2, some (.inr (some r3))] [.inl s1, .inr qs0] Q)) := (w_aload_n t101_60 rfl rfl).trans ((w_iload_n t101_61 rfl rfl).trans ((w_iconst t101_62 rfl).trans (w_callV t101_63 rfl rfl rfl rfl (Nat.le_of_ble_eq_true rfl) (Nat.le_of_ble_eq_true rfl) rfl (by decide))))
set_option maxRecDepth 10000 in
theorem b101_66 {d : Nat} {l0 : Option sm_V} {l1 : Option sm_V} {l2 : Option sm_V} {l3 : Option sm_V} {rs0 : Nat} {s1 : Int} {s2 : Int} {Z : Nat → Nat → Int} {Rf : Nat → Nat → Option Nat} {K : Nat → Nat × Nat} {n z : Nat} {Q : Option sm_V → sm_S → Prop} : sm_wp (d + 1) 101 66 [l0, l1, l2, l3] [.inl s2, .inl s1, .inr (some rs0)] (Z, Rf, K, n, z) Q = ((K rs0).1 = 1 ∧ sm_call d 17 [.inr (some rs0), .inl s1, .inl s2] (Z, Rf, K, n, z) (sm_cont (d + 1) 101 69 [l0, l1, l2, l3] [] Q)) := w_callV t101_66 rfl rfl rfl rfl (Nat.le_of_ble_eq_true rfl) (Nat.le_of_ble_eq_true rfl) rfl (by decide)
set_option maxRecDepth 10000 in
theorem b101_69 {d : Nat} {l0 : Option sm_V} {l1 : Option sm_V} {l2 : Option sm_V} {l3 : Option sm_V} {s0 : Int} {Z : Nat → Nat → Int} {Rf : Nat → Nat → Option Nat} {K : Nat → Nat × Nat} {n z : Nat} {Q : Option sm_V → sm_S → Prop} : sm_wp d 101 69 [l0, l1, l2, l3] [.inl s0] (Z, Rf, K, n, z) Q = (Q (some (.inl s0)) (Z, Rf, K, n, z)) := w_iret t101_69
theorem t102_0 : sm_at 102 0 = some (1, .iload_n 1, 0, 0, 0) := rfl
theorem t102_1 : sm_at 102 1 = some (1, .iconst 0, 0, 0, 0) := rfl
theorem t102_2 : sm_at 102 2 = some (1, .aload_n 0, 0, 0, 0) := rfl
theorem t102_3 : sm_at 102 3 = some (3, .getfield 10, 10, 0, 0) := rfl
theorem t102_6 : sm_at 102 6 = some (3, .getfield 115, 1, 13, 0) := rfl
theorem t102_9 : sm_at 102 9 = some (3, .getfield 209, 5, 2, 0) := rfl
theorem t102_12 : sm_at 102 12 = some (1, .iconst 1, 0, 0, 0) := rfl
theorem t102_13 : sm_at 102 13 = some (1, .isub, 0, 0, 0) := rfl
theorem t102_14 : sm_at 102 14 = some (3, .invokestatic 65, 112, 3, 0) := rfl
theorem t102_17 : sm_at 102 17 = some (3, .ifCond .eq 12, 0, 0, 0) := rfl
theorem t102_20 : sm_at 102 20 = some (1, .iload_n 2, 0, 0, 0) := rfl
theorem t102_21 : sm_at 102 21 = some (3, .ifCond .lt 8, 0, 0, 0) := rfl
theorem t102_24 : sm_at 102 24 = some (1, .iload_n 3, 0, 0, 0) := rfl
theorem t102_25 : sm_at 102 25 = some (1, .iload_n 2, 0, 0, 0) := rfl
theorem t102_26 : sm_at 102 26 = some (3, .if_icmp .ge 5, 0, 0, 0) := rfl
theorem t102_29 : sm_at 102 29 = some (1, .iconst (-1), 0, 0, 0) := rfl
theorem t102_30 : sm_at 102 30 = some (1, .ireturn, 0, 0, 0) := rfl
theorem t102_31 : sm_at 102 31 = some (1, .aload_n 0, 0, 0, 0) := rfl
theorem t102_32 : sm_at 102 32 = some (3, .getfield 10, 10, 0, 0) := rfl
theorem t102_35 : sm_at 102 35 = some (3, .getfield 174, 1, 18, 0) := rfl
theorem t102_38 : sm_at 102 38 = some (1, .iload_n 1, 0, 0, 0) := rfl
theorem t102_39 : sm_at 102 39 = some (1, .iload_n 2, 0, 0, 0) := rfl
theorem t102_40 : sm_at 102 40 = some (1, .iload_n 3, 0, 0, 0) := rfl
theorem t102_41 : sm_at 102 41 = some (3, .invokevirtual 219, 80, 4, 0) := rfl
theorem t102_44 : sm_at 102 44 = some (1, .ireturn, 0, 0, 0) := rfl
set_option maxRecDepth 10000 in
theorem b102_0 {d : Nat} {r0 : Nat} {x1 : Int} {l2 : Option sm_V} {l3 : Option sm_V} {Z : Nat → Nat → Int} {Rf : Nat → Nat → Option Nat} {K : Nat → Nat × Nat} {n z : Nat} {Q : Option sm_V → sm_S → Prop} : sm_wp (d + 1) 102 0 [some (.inr (some r0)), some (.inl x1), l2, l3] [] (Z, Rf, K, n, z) Q = ((K r0).1 = 10 ∧ (Rf r0 0).isSome = true ∧ (K (((Rf r0 0).getD 0))).1 = 1 ∧ (Rf (((Rf r0 0).getD 0)) 13).isSome = true ∧ (K (((Rf (((Rf r0 0).getD 0)) 13).getD 0))).1 = 5 ∧ sm_call d 112 [.inl x1, .inl 0, .inl ((Z (((Rf (((Rf r0 0).getD 0)) 13).getD 0)) 2) - 1)] (Z, Rf, K, n, z) (sm_cont (d + 1) 102 17 [some (.inr (some r0)), some (.inl x1), l2, l3] [] Q)) := (w_iload_n t102_0 rfl rfl).trans ((w_iconst t102_1 rfl).trans ((w_aload_n t102_2 rfl rfl).trans ((w_getR t102_3 rfl (by decide)).trans (congrArg (And _) (congrArg (And _) ((w_getR t102_6 rfl (by decide)).trans (congrArg (And _) (congrArg (And _) ((w_getI t102_9 rfl (by decide)).trans (congrArg (And _) ((w_iconst t102_12 rfl).trans ((w_isub t102_13 rfl).trans (w_callS t102_14 rfl rfl rfl rfl (Nat.le_of_ble_eq_true rfl) (Nat.le_of_ble_eq_true rfl) rfl)))))))))))))
set_option maxRecDepth 10000 in
theorem b102_17 {d : Nat} {l0 : Option sm_V} {l1 : Option sm_V} {l2 : Option sm_V} {l3 : Option sm_V} {s0 : Int} {Z : Nat → Nat → Int} {Rf : Nat → Nat → Option Nat} {K : Nat → Nat × Nat} {n z : Nat} {Q : Option sm_V → sm_S → Prop} : sm_wp d 102 17 [l0, l1, l2, l3] [.inl s0] (Z, Rf, K, n, z) Q = (if wr s0 = 0 then sm_wp d 102 29 [l0, l1, l2, l3] [] (Z, Rf, K, n, z) Q else sm_wp d 102 20 [l0, l1, l2, l3] [] (Z, Rf, K, n, z) Q) := w_ifeq t102_17 rfl rfl rfl
set_option maxRecDepth 10000 in
theorem b102_20 {d : Nat} {l0 : Option sm_V} {l1 : Option sm_V} {x2 : Int} {l3 : Option sm_V} {Z : Nat → Nat → Int} {Rf : Nat → Nat → Option Nat} {K : Nat → Nat × Nat} {n z : Nat} {Q : Option sm_V → sm_S → Prop} : sm_wp d 102 20 [l0, l1, some (.inl x2), l3] [] (Z, Rf, K, n, z) Q = (if wr x2 < 0 then sm_wp d 102 29 [l0, l1, some (.inl x2), l3] [] (Z, Rf, K, n, z) Q else sm_wp d 102 24 [l0, l1, some (.inl x2), l3] [] (Z, Rf, K, n, z) Q) := (w_iload_n t102_20 rfl rfl).trans (w_iflt t102_21 rfl rfl rfl)
set_option maxRecDepth 10000 in
theorem b102_24 {d : Nat} {l0 : Option sm_V} {l1 : Option sm_V} {x2 : Int} {x3 : Int} {Z : Nat → Nat → Int} {Rf : Nat → Nat → Option Nat} {K : Nat → Nat × Nat} {n z : Nat} {Q : Option sm_V → sm_S → Prop} : sm_wp d 102 24 [l0, l1, some (.inl x2), some (.inl x3)] [] (Z, Rf, K, n, z) Q = (if wr x2 ≤ wr x3 then sm_wp d 102 31 [l0, l1, some (.inl x2), some (.inl x3)] [] (Z, Rf, K, n, z) Q else sm_wp d 102 29 [l0, l1, some (.inl x2), some (.inl x3)] [] (Z, Rf, K, n, z) Q) := (w_iload_n t102_24 rfl rfl).trans ((w_iload_n t102_25 rfl rfl).trans (w_icge t102_26 rfl rfl rfl rfl))
set_option maxRecDepth 10000 in
theorem b102_29 {d : Nat} {l0 : Option sm_V} {l1 : Option sm_V} {l2 : Option sm_V} {l3 : Option sm_V} {Z : Nat → Nat → Int} {Rf : Nat → Nat → Option Nat} {K : Nat → Nat × Nat} {n z : Nat} {Q : Option sm_V → sm_S → Prop} : sm_wp d 102 29 [l0, l1, l2, l3] [] (Z, Rf, K, n, z) Q = (Q (some (.inl ((-1)))) (Z, Rf, K, n, z)) := (w_iconst t102_29 rfl).trans (w_iret t102_30)
set_option maxRecDepth 10000 in
theorem b102_31 {d : Nat} {r0 : Nat} {x1 : Int} {x2 : Int} {x3 : Int} {Z : Nat → Nat → Int} {Rf : Nat → Nat → Option Nat} {K : Nat → Nat × Nat} {n z : Nat} {Q : Option sm_V → sm_S → Prop} : sm_wp (d + 1) 102 31 [some (.inr (some r0)), some (.inl x1), some (.inl x2), some (.inl x3)] [] (Z, Rf, K, n, z) Q = ((K r0).1 = 10 ∧ (Rf r0 0).isSome = true ∧ (K (((Rf r0 0).getD 0))).1 = 1 ∧ (Rf (((Rf r0 0).getD 0)) 18).isSome = true ∧ (K (((Rf (((Rf r0 0).getD 0)) 18).getD 0))).1 = 9 ∧ sm_call d 80 [.inr (some ((Rf (((Rf r0 0).getD 0)) 18).getD 0)), .inl x1, .inl x2, .inl x3] (Z, Rf, K, n, z) (sm_cont (d + 1) 102 44 [some (.inr (some r0)), some (.inl x1), some (.inl x2), some (.inl x3)] [] Q)) := (w_aload_n t102_31 rfl rfl).trans ((w_getR t102_32 rfl (by decide)).trans (congrArg (And _) (congrArg (And _) ((w_getR t102_35 rfl (by decide)).trans (congrArg (And _) (congrArg (And _) ((w_iload_n t102_38 rfl rfl).trans ((w_iload_n t102_39 rfl rfl).trans ((w_iload_n t102_40 rfl rfl).trans (w_callV t102_41 rfl rfl rfl rfl (Nat.le_of_ble_eq_true rfl) (Nat.le_of_ble_eq_true rfl) rfl (by decide)))))))))))
set_option maxRecDepth 10000 in
theorem b102_44 {d : Nat} {l0 : Option sm_V} {l1 : Option sm_V} {l2 : Option sm_V} {l3 : Option sm_V} {s0 : Int} {Z : Nat → Nat → Int} {Rf : Nat → Nat → Option Nat} {K : Nat → Nat × Nat} {n z : Nat} {Q : Option sm_V → sm_S → Prop} : sm_wp d 102 44 [l0, l1, l2, l3] [.inl s0] (Z, Rf, K, n, z) Q = (Q (some (.inl s0)) (Z, Rf, K, n, z)) := w_iret t102_44
theorem t103_0 : sm_at 103 0 = some (1, .iload_n 1, 0, 0, 0) := rfl
theorem t103_1 : sm_at 103 1 = some (1, .iconst 0, 0, 0, 0) := rfl
theorem t103_2 : sm_at 103 2 = some (1, .aload_n 0, 0, 0, 0) := rfl
theorem t103_3 : sm_at 103 3 = some (3, .getfield 10, 10, 0, 0) := rfl
theorem t103_6 : sm_at 103 6 = some (3, .getfield 115, 1, 13, 0) := rfl
theorem t103_9 : sm_at 103 9 = some (3, .getfield 209, 5, 2, 0) := rfl
theorem t103_12 : sm_at 103 12 = some (1, .iconst 1, 0, 0, 0) := rfl
theorem t103_13 : sm_at 103 13 = some (1, .isub, 0, 0, 0) := rfl
theorem t103_14 : sm_at 103 14 = some (3, .invokestatic 65, 112, 3, 0) := rfl
theorem t103_17 : sm_at 103 17 = some (3, .ifCond .eq 12, 0, 0, 0) := rfl
theorem t103_20 : sm_at 103 20 = some (1, .iload_n 2, 0, 0, 0) := rfl
theorem t103_21 : sm_at 103 21 = some (1, .iconst 0, 0, 0, 0) := rfl
theorem t103_22 : sm_at 103 22 = some (1, .iconst 3, 0, 0, 0) := rfl
theorem t103_23 : sm_at 103 23 = some (3, .invokestatic 65, 112, 3, 0) := rfl
theorem t103_26 : sm_at 103 26 = some (3, .ifCond .ne 5, 0, 0, 0) := rfl
theorem t103_29 : sm_at 103 29 = some (1, .iconst (-1), 0, 0, 0) := rfl
theorem t103_30 : sm_at 103 30 = some (1, .ireturn, 0, 0, 0) := rfl
theorem t103_31 : sm_at 103 31 = some (1, .aload_n 0, 0, 0, 0) := rfl
theorem t103_32 : sm_at 103 32 = some (3, .getfield 29, 10, 4, 0) := rfl
theorem t103_35 : sm_at 103 35 = some (1, .aload_n 0, 0, 0, 0) := rfl
theorem t103_36 : sm_at 103 36 = some (3, .getfield 10, 10, 0, 0) := rfl
theorem t103_39 : sm_at 103 39 = some (1, .aload_n 0, 0, 0, 0) := rfl
theorem t103_40 : sm_at 103 40 = some (3, .getfield 22, 10, 3, 0) := rfl
theorem t103_43 : sm_at 103 43 = some (1, .iload_n 1, 0, 0, 0) := rfl
theorem t103_44 : sm_at 103 44 = some (1, .iload_n 2, 0, 0, 0) := rfl
theorem t103_45 : sm_at 103 45 = some (3, .invokevirtual 222, 65, 5, 0) := rfl
theorem t103_48 : sm_at 103 48 = some (1, .ireturn, 0, 0, 0) := rfl
set_option maxRecDepth 10000 in
theorem b103_0 {d : Nat} {r0 : Nat} {x1 : Int} {l2 : Option sm_V} {Z : Nat → Nat → Int} {Rf : Nat → Nat → Option Nat} {K : Nat → Nat × Nat} {n z : Nat} {Q : Option sm_V → sm_S → Prop} : sm_wp (d + 1) 103 0 [some (.inr (some r0)), some (.inl x1), l2] [] (Z, Rf, K, n, z) Q = ((K r0).1 = 10 ∧ (Rf r0 0).isSome = true ∧ (K (((Rf r0 0).getD 0))).1 = 1 ∧ (Rf (((Rf r0 0).getD 0)) 13).isSome = true ∧ (K (((Rf (((Rf r0 0).getD 0)) 13).getD 0))).1 = 5 ∧ sm_call d 112 [.inl x1, .inl 0, .inl ((Z (((Rf (((Rf r0 0).getD 0)) 13).getD 0)) 2) - 1)] (Z, Rf, K, n, z) (sm_cont (d + 1) 103 17 [some (.inr (some r0)), some (.inl x1), l2] [] Q)) := (w_iload_n t103_0 rfl rfl).trans ((w_iconst t103_1 rfl).trans ((w_aload_n t103_2 rfl rfl).trans ((w_getR t103_3 rfl (by decide)).trans (congrArg (And _) (congrArg (And _) ((w_getR t103_6 rfl (by decide)).trans (congrArg (And _) (congrArg (And _) ((w_getI t103_9 rfl (by decide)).trans (congrArg (And _) ((w_iconst t103_12 rfl).trans ((w_isub t103_13 rfl).trans (w_callS t103_14 rfl rfl rfl rfl (Nat.le_of_ble_eq_true rfl) (Nat.le_of_ble_eq_true rfl) rfl)))))))))))))
set_option maxRecDepth 10000 in
theorem b103_17 {d : Nat} {l0 : Option sm_V} {l1 : Option sm_V} {l2 : Option sm_V} {s0 : Int} {Z : Nat → Nat → Int} {Rf : Nat → Nat → Option Nat} {K : Nat → Nat × Nat} {n z : Nat} {Q : Option sm_V → sm_S → Prop} : sm_wp d 103 17 [l0, l1, l2] [.inl s0] (Z, Rf, K, n, z) Q = (if wr s0 = 0 then sm_wp d 103 29 [l0, l1, l2] [] (Z, Rf, K, n, z) Q else sm_wp d 103 20 [l0, l1, l2] [] (Z, Rf, K, n, z) Q) := w_ifeq t103_17 rfl rfl rfl
set_option maxRecDepth 10000 in
theorem b103_20 {d : Nat} {l0 : Option sm_V} {l1 : Option sm_V} {x2 : Int} {Z : Nat → Nat → Int} {Rf : Nat → Nat → Option Nat} {K : Nat → Nat × Nat} {n z : Nat} {Q : Option sm_V → sm_S → Prop} : sm_wp (d + 1) 103 20 [l0, l1, some (.inl x2)] [] (Z, Rf, K, n, z) Q = (sm_call d 112 [.inl x2, .inl 0, .inl 3] (Z, Rf, K, n, z) (sm_cont (d + 1) 103 26 [l0, l1, some (.inl x2)] [] Q)) := (w_iload_n t103_20 rfl rfl).trans ((w_iconst t103_21 rfl).trans ((w_iconst t103_22 rfl).trans (w_callS t103_23 rfl rfl rfl rfl (Nat.le_of_ble_eq_true rfl) (Nat.le_of_ble_eq_true rfl) rfl)))
set_option maxRecDepth 10000 in
theorem b103_26 {d : Nat} {l0 : Option sm_V} {l1 : Option sm_V} {l2 : Option sm_V} {s0 : Int} {Z : Nat → Nat → Int} {Rf : Nat → Nat → Option Nat} {K : Nat → Nat × Nat} {n z : Nat} {Q : Option sm_V → sm_S → Prop} : sm_wp d 103 26 [l0, l1, l2] [.inl s0] (Z, Rf, K, n, z) Q = (if wr s0 = 0 then sm_wp d 103 29 [l0, l1, l2] [] (Z, Rf, K, n, z) Q else sm_wp d 103 31 [l0, l1, l2] [] (Z, Rf, K, n, z) Q) := w_ifne t103_26 rfl rfl rfl
set_option maxRecDepth 10000 in
theorem b103_29 {d : Nat} {l0 : Option sm_V} {l1 : Option sm_V} {l2 : Option sm_V} {Z : Nat → Nat → Int} {Rf : Nat → Nat → Option Nat} {K : Nat → Nat × Nat} {n z : Nat} {Q : Option sm_V → sm_S → Prop} : sm_wp d 103 29 [l0, l1, l2] [] (Z, Rf, K, n, z) Q = (Q (some (.inl ((-1)))) (Z, Rf, K, n, z)) := (w_iconst t103_29 rfl).trans (w_iret t103_30)
set_option maxRecDepth 10000 in
theorem b103_31 {d : Nat} {r0 : Nat} {x1 : Int} {x2 : Int} {Z : Nat → Nat → Int} {Rf : Nat → Nat → Option Nat} {K : Nat → Nat × Nat} {n z : Nat} {Q : Option sm_V → sm_S → Prop} : sm_wp (d + 1) 103 31 [some (.inr (some r0)), some (.inl x1), some (.inl x2)] [] (Z, Rf, K, n, z) Q = ((K r0).1 = 10 ∧ (Rf r0 4).isSome = true ∧ (K r0).1 = 10 ∧ (Rf r0 0).isSome = true ∧ (K r0).1 = 10 ∧ (Rf r0 3).isSome = true ∧ (K (((Rf r0 4).getD 0))).1 = 8 ∧ sm_call d 65 [.inr (some ((Rf r0 4).getD 0)), .inr (some ((Rf r0 0).getD 0)), .inr (some ((Rf r0 3).getD 0)), .inl x1, .inl x2] (Z, Rf, K, n, z) (sm_cont (d + 1) 103 48 [some (.inr (some r0)), some (.inl x1), some (.inl x2)] [] Q)) := (w_aload_n t103_31 rfl rfl).trans ((w_getR t103_32 rfl (by decide)).trans (congrArg (And _) (congrArg (And _) ((w_aload_n t103_35 rfl rfl).trans ((w_getR t103_36 rfl (by decide)).trans (congrArg (And _) (congrArg (And _) ((w_aload_n t103_39 rfl rfl).trans ((w_getR t103_40 rfl (by decide)).trans (congrArg (And _) (congrArg (And _) ((w_iload_n t103_43 rfl rfl).trans ((w_iload_n t103_44 rfl rfl).trans (w_callV t103_45 rfl rfl rfl rfl (Nat.le_of_ble_eq_true rfl) (Nat.le_of_ble_eq_true rfl) rfl (by decide)))))))))))))))
set_option maxRecDepth 10000 in
theorem b103_48 {d : Nat} {l0 : Option sm_V} {l1 : Option sm_V} {l2 : Option sm_V} {s0 : Int} {Z : Nat → Nat → Int} {Rf : Nat → Nat → Option Nat} {K : Nat → Nat × Nat} {n z : Nat} {Q : Option sm_V → sm_S → Prop} : sm_wp d 103 48 [l0, l1, l2] [.inl s0] (Z, Rf, K, n, z) Q = (Q (some (.inl s0)) (Z, Rf, K, n, z)) := w_iret t103_48
theorem t104_0 : sm_at 104 0 = some (1, .aload_n 0, 0, 0, 0) := rfl
theorem t104_1 : sm_at 104 1 = some (3, .getfield 10, 10, 0, 0) := rfl
theorem t104_4 : sm_at 104 4 = some (1, .iload_n 1, 0, 0, 0) := rfl
theorem t104_5 : sm_at 104 5 = some (3, .invokevirtual 72, 8, 2, 0) := rfl
theorem t104_8 : sm_at 104 8 = some (3, .ifCond .eq 68, 0, 0, 0) := rfl
theorem t104_11 : sm_at 104 11 = some (1, .aload_n 0, 0, 0, 0) := rfl
theorem t104_12 : sm_at 104 12 = some (3, .getfield 10, 10, 0, 0) := rfl
theorem t104_15 : sm_at 104 15 = some (1, .iload_n 2, 0, 0, 0) := rfl
theorem t104_16 : sm_at 104 16 = some (3, .invokevirtual 72, 8, 2, 0) := rfl
theorem t104_19 : sm_at 104 19 = some (3, .ifCond .eq 57, 0, 0, 0) := rfl
theorem t104_22 : sm_at 104 22 = some (1, .iload_n 1, 0, 0, 0) := rfl
theorem t104_23 : sm_at 104 23 = some (1, .iload_n 2, 0, 0, 0) := rfl
theorem t104_24 : sm_at 104 24 = some (3, .if_icmp .eq 52, 0, 0, 0) := rfl
theorem t104_27 : sm_at 104 27 = some (1, .iload_n 3, 0, 0, 0) := rfl
theorem t104_28 : sm_at 104 28 = some (1, .iconst 0, 0, 0, 0) := rfl
theorem t104_29 : sm_at 104 29 = some (1, .iconst 3, 0, 0, 0) := rfl
theorem t104_30 : sm_at 104 30 = some (3, .invokestatic 65, 112, 3, 0) := rfl
theorem t104_33 : sm_at 104 33 = some (3, .ifCond .eq 43, 0, 0, 0) := rfl
theorem t104_36 : sm_at 104 36 = some (1, .aload_n 0, 0, 0, 0) := rfl
theorem t104_37 : sm_at 104 37 = some (3, .getfield 10, 10, 0, 0) := rfl
theorem t104_40 : sm_at 104 40 = some (3, .getfield 226, 1, 0, 0) := rfl
theorem t104_43 : sm_at 104 43 = some (1, .aload_n 0, 0, 0, 0) := rfl
theorem t104_44 : sm_at 104 44 = some (3, .getfield 10, 10, 0, 0) := rfl
theorem t104_47 : sm_at 104 47 = some (3, .getfield 229, 1, 1, 0) := rfl
theorem t104_50 : sm_at 104 50 = some (1, .imul, 0, 0, 0) := rfl
theorem t104_51 : sm_at 104 51 = some (2, .bipush 36, 0, 0, 0) := rfl
theorem t104_53 : sm_at 104 53 = some (3, .if_icmp .gt 23, 0, 0, 0) := rfl
theorem t104_56 : sm_at 104 56 = some (1, .aload_n 0, 0, 0, 0) := rfl
theorem t104_57 : sm_at 104 57 = some (3, .getfield 29, 10, 4, 0) := rfl
theorem t104_60 : sm_at 104 60 = some (1, .aload_n 0, 0, 0, 0) := rfl
theorem t104_61 : sm_at 104 61 = some (3, .getfield 10, 10, 0, 0) := rfl
theorem t104_64 : sm_at 104 64 = some (1, .aload_n 0, 0, 0, 0) := rfl
theorem t104_65 : sm_at 104 65 = some (3, .getfield 22, 10, 3, 0) := rfl
theorem t104_68 : sm_at 104 68 = some (1, .iload_n 1, 0, 0, 0) := rfl
theorem t104_69 : sm_at 104 69 = some (1, .iload_n 2, 0, 0, 0) := rfl
theorem t104_70 : sm_at 104 70 = some (3, .invokevirtual 232, 66, 5, 0) := rfl
theorem t104_73 : sm_at 104 73 = some (3, .ifCond .ne 5, 0, 0, 0) := rfl
theorem t104_76 : sm_at 104 76 = some (1, .iconst (-1), 0, 0, 0) := rfl
theorem t104_77 : sm_at 104 77 = some (1, .ireturn, 0, 0, 0) := rfl
theorem t104_78 : sm_at 104 78 = some (1, .iload_n 3, 0, 0, 0) := rfl
theorem t104_79 : sm_at 104 79 = some (25, .tableswitch 49 0 2 #[25, 33, 41], 0, 0, 0) := rfl
theorem t104_104 : sm_at 104 104 = some (1, .aload_n 0, 0, 0, 0) := rfl
theorem t104_105 : sm_at 104 105 = some (3, .getfield 29, 10, 4, 0) := rfl
theorem t104_108 : sm_at 104 108 = some (3, .getfield 236, 8, 3, 0) := rfl
theorem t104_111 : sm_at 104 111 = some (1, .ireturn, 0, 0, 0) := rfl
theorem t104_112 : sm_at 104 112 = some (1, .aload_n 0, 0, 0, 0) := rfl
theorem t104_113 : sm_at 104 113 = some (3, .getfield 29, 10, 4, 0) := rfl
theorem t104_116 : sm_at 104 116 = some (3, .getfield 239, 8, 4, 0) := rfl
theorem t104_119 : sm_at 104 119 = some (1, .ireturn, 0, 0, 0) := rfl
theorem t104_120 : sm_at 104 120 = some (1, .aload_n 0, 0, 0, 0) := rfl
theorem t104_121 : sm_at 104 121 = some (3, .getfield 29, 10, 4, 0) := rfl
theorem t104_124 : sm_at 104 124 = some (3, .getfield 242, 8, 5, 0) := rfl
theorem t104_127 : sm_at 104 127 = some (1, .ireturn, 0, 0, 0) := rfl
theorem t104_128 : sm_at 104 128 = some (1, .aload_n 0, 0, 0, 0) := rfl
theorem t104_129 : sm_at 104 129 = some (3, .getfield 29, 10, 4, 0) := rfl
theorem t104_132 : sm_at 104 132 = some (3, .getfield 245, 8, 6, 0) := rfl
theorem t104_135 : sm_at 104 135 = some (1, .ireturn, 0, 0, 0) := rfl
set_option maxRecDepth 10000 in
theorem b104_0 {d : Nat} {r0 : Nat} {x1 : Int} {l2 : Option sm_V} {l3 : Option sm_V} {Z : Nat → Nat → Int} {Rf : Nat → Nat → Option Nat} {K : Nat → Nat × Nat} {n z : Nat} {Q : Option sm_V → sm_S → Prop} : sm_wp (d + 1) 104 0 [some (.inr (some r0)), some (.inl x1), l2, l3] [] (Z, Rf, K, n, z) Q = ((K r0).1 = 10 ∧ (Rf r0 0).isSome = true ∧ (K (((Rf r0 0).getD 0))).1 = 1 ∧ sm_call d 8 [.inr (some ((Rf r0 0).getD 0)), .inl x1] (Z, Rf, K, n, z) (sm_cont (d + 1) 104 8 [some (.inr (some r0)), some (.inl x1), l2, l3] [] Q)) := (w_aload_n t104_0 rfl rfl).trans ((w_getR t104_1 rfl (by decide)).trans (congrArg (And _) (congrArg (And _) ((w_iload_n t104_4 rfl rfl).trans (w_callV t104_5 rfl rfl rfl rfl (Nat.le_of_ble_eq_true rfl) (Nat.le_of_ble_eq_true rfl) rfl (by decide))))))
set_option maxRecDepth 10000 in
theorem b104_8 {d : Nat} {l0 : Option sm_V} {l1 : Option sm_V} {l2 : Option sm_V} {l3 : Option sm_V} {s0 : Int} {Z : Nat → Nat → Int} {Rf : Nat → Nat → Option Nat} {K : Nat → Nat × Nat} {n z : Nat} {Q : Option sm_V → sm_S → Prop} : sm_wp d 104 8 [l0, l1, l2, l3] [.inl s0] (Z, Rf, K, n, z) Q = (if wr s0 = 0 then sm_wp d 104 76 [l0, l1, l2, l3] [] (Z, Rf, K, n, z) Q else sm_wp d 104 11 [l0, l1, l2, l3] [] (Z, Rf, K, n, z) Q) := w_ifeq t104_8 rfl rfl rfl
set_option maxRecDepth 10000 in
theorem b104_11 {d : Nat} {r0 : Nat} {l1 : Option sm_V} {x2 : Int} {l3 : Option sm_V} {Z : Nat → Nat → Int} {Rf : Nat → Nat → Option Nat} {K : Nat → Nat × Nat} {n z : Nat} {Q : Option sm_V → sm_S → Prop} : sm_wp (d + 1) 104 11 [some (.inr (some r0)), l1, some (.inl x2), l3] [] (Z, Rf, K, n, z) Q = ((K r0).1 = 10 ∧ (Rf r0 0).isSome = true ∧ (K (((Rf r0 0).getD 0))).1 = 1 ∧ sm_call d 8 [.inr (some ((Rf r0 0).getD 0)), .inl x2] (Z, Rf, K, n, z) (sm_cont (d + 1) 104 19 [some (.inr (some r0)), l1, some (.inl x2), l3] [] Q)) := (w_aload_n t104_11 rfl rfl).trans ((w_getR t104_12 rfl (by decide)).trans (congrArg (And _) (congrArg (And _) ((w_iload_n t104_15 rfl rfl).trans (w_callV t104_16 rfl rfl rfl rfl (Nat.le_of_ble_eq_true rfl) (Nat.le_of_ble_eq_true rfl) rfl (by decide))))))
set_option maxRecDepth 10000 in
theorem b104_19 {d : Nat} {l0 : Option sm_V} {l1 : Option sm_V} {l2 : Option sm_V} {l3 : Option sm_V} {s0 : Int} {Z : Nat → Nat → Int} {Rf : Nat → Nat → Option Nat} {K : Nat → Nat × Nat} {n z : Nat} {Q : Option sm_V → sm_S → Prop} : sm_wp d 104 19 [l0, l1, l2, l3] [.inl s0] (Z, Rf, K, n, z) Q = (if wr s0 = 0 then sm_wp d 104 76 [l0, l1, l2, l3] [] (Z, Rf, K, n, z) Q else sm_wp d 104 22 [l0, l1, l2, l3] [] (Z, Rf, K, n, z) Q) := w_ifeq t104_19 rfl rfl rfl
set_option maxRecDepth 10000 in
theorem b104_22 {d : Nat} {l0 : Option sm_V} {x1 : Int} {x2 : Int} {l3 : Option sm_V} {Z : Nat → Nat → Int} {Rf : Nat → Nat → Option Nat} {K : Nat → Nat × Nat} {n z : Nat} {Q : Option sm_V → sm_S → Prop} : sm_wp d 104 22 [l0, some (.inl x1), some (.inl x2), l3] [] (Z, Rf, K, n, z) Q = (if wr x1 = wr x2 then sm_wp d 104 76 [l0, some (.inl x1), some (.inl x2), l3] [] (Z, Rf, K, n, z) Q else sm_wp d 104 27 [l0, some (.inl x1), some (.inl x2), l3] [] (Z, Rf, K, n, z) Q) := (w_iload_n t104_22 rfl rfl).trans ((w_iload_n t104_23 rfl rfl).trans (w_iceq t104_24 rfl rfl rfl rfl))
set_option maxRecDepth 10000 in
theorem b104_27 {d : Nat} {l0 : Option sm_V} {l1 : Option sm_V} {l2 : Option sm_V} {x3 : Int} {Z : Nat → Nat → Int} {Rf : Nat → Nat → Option Nat} {K : Nat → Nat × Nat} {n z : Nat} {Q : Option sm_V → sm_S → Prop} : sm_wp (d + 1) 104 27 [l0, l1, l2, some (.inl x3)] [] (Z, Rf, K, n, z) Q = (sm_call d 112 [.inl x3, .inl 0, .inl 3] (Z, Rf, K, n, z) (sm_cont (d + 1) 104 33 [l0, l1, l2, some (.inl x3)] [] Q)) := (w_iload_n t104_27 rfl rfl).trans ((w_iconst t104_28 rfl).trans ((w_iconst t104_29 rfl).trans (w_callS t104_30 rfl rfl rfl rfl (Nat.le_of_ble_eq_true rfl) (Nat.le_of_ble_eq_true rfl) rfl)))
set_option maxRecDepth 10000 in
theorem b104_33 {d : Nat} {l0 : Option sm_V} {l1 : Option sm_V} {l2 : Option sm_V} {l3 : Option sm_V} {s0 : Int} {Z : Nat → Nat → Int} {Rf : Nat → Nat → Option Nat} {K : Nat → Nat × Nat} {n z : Nat} {Q : Option sm_V → sm_S → Prop} : sm_wp d 104 33 [l0, l1, l2, l3] [.inl s0] (Z, Rf, K, n, z) Q = (if wr s0 = 0 then sm_wp d 104 76 [l0, l1, l2, l3] [] (Z, Rf, K, n, z) Q else sm_wp d 104 36 [l0, l1, l2, l3] [] (Z, Rf, K, n, z) Q) := w_ifeq t104_33 rfl rfl rfl
set_option maxRecDepth 10000 in
theorem b104_36 {d : Nat} {r0 : Nat} {l1 : Option sm_V} {l2 : Option sm_V} {l3 : Option sm_V} {Z : Nat → Nat → Int} {Rf : Nat → Nat → Option Nat} {K : Nat → Nat × Nat} {n z : Nat} {Q : Option sm_V → sm_S → Prop} : sm_wp d 104 36 [some (.inr (some r0)), l1, l2, l3] [] (Z, Rf, K, n, z) Q = ((K r0).1 = 10 ∧ (Rf r0 0).isSome = true ∧ (K (((Rf r0 0).getD 0))).1 = 1 ∧ (K r0).1 = 10 ∧ (Rf r0 0).isSome = true ∧ (K (((Rf r0 0).getD 0))).1 = 1 ∧ (if (36 : Int) < wr ((Z (((Rf r0 0).getD 0)) 0) * (Z (((Rf r0 0).getD 0)) 1)) then sm_wp d 104 76 [some (.inr (some r0)), l1, l2, l3] [] (Z, Rf, K, n, z) Q else sm_wp d 104 56 [some (.inr (some r0)), l1, l2, l3] [] (Z, Rf, K, n, z) Q)) := (w_aload_n t104_36 rfl rfl).trans ((w_getR t104_37 rfl (by decide)).trans (congrArg (And _) (congrArg (And _) ((w_getI t104_40 rfl (by decide)).trans (congrArg (And _) ((w_aload_n t104_43 rfl rfl).trans ((w_getR t104_44 rfl (by decide)).trans (congrArg (And _) (congrArg (And _) ((w_getI t104_47 rfl (by decide)).trans (congrArg (And _) ((w_imul t104_50 rfl).trans ((w_bipush t104_51 rfl).trans (w_icgt t104_53 rfl wl_36 rfl rfl))))))))))))))
set_option maxRecDepth 10000 in
theorem b104_56 {d : Nat} {r0 : Nat} {x1 : Int} {x2 : Int} {l3 : Option sm_V} {Z : Nat → Nat → Int} {Rf : Nat → Nat → Option Nat} {K : Nat → Nat × Nat} {n z : Nat} {Q : Option sm_V → sm_S → Prop} : sm_wp (d + 1) 104 56 [some (.inr (some r0)), some (.inl x1), some (.inl x2), l3] [] (Z, Rf, K, n, z) Q = ((K r0).1 = 10 ∧ (Rf r0 4).isSome = true ∧ (K r0).1 = 10 ∧ (Rf r0 0).isSome = true ∧ (K r0).1 = 10 ∧ (Rf r0 3).isSome = true ∧ (K (((Rf r0 4).getD 0))).1 = 8 ∧ sm_call d 66 [.inr (some ((Rf r0 4).getD 0)), .inr (some ((Rf r0 0).getD 0)), .inr (some ((Rf r0 3).getD 0)), .inl x1, .inl x2] (Z, Rf, K, n, z) (sm_cont (d + 1) 104 73 [some (.inr (some r0)), some (.inl x1), some (.inl x2), l3] [] Q)) := (w_aload_n t104_56 rfl rfl).trans ((w_getR t104_57 rfl (by decide)).trans (congrArg (And _) (congrArg (And _) ((w_aload_n t104_60 rfl rfl).trans ((w_getR t104_61 rfl (by decide)).trans (congrArg (And _) (congrArg (And _) ((w_aload_n t104_64 rfl rfl).trans ((w_getR t104_65 rfl (by decide)).trans (congrArg (And _) (congrArg (And _) ((w_iload_n t104_68 rfl rfl).trans ((w_iload_n t104_69 rfl rfl).trans (w_callV t104_70 rfl rfl rfl rfl (Nat.le_of_ble_eq_true rfl) (Nat.le_of_ble_eq_true rfl) rfl (by decide)))))))))))))))
set_option maxRecDepth 10000 in
theorem b104_73 {d : Nat} {l0 : Option sm_V} {l1 : Option sm_V} {l2 : Option sm_V} {l3 : Option sm_V} {s0 : Int} {Z : Nat → Nat → Int} {Rf : Nat → Nat → Option Nat} {K : Nat → Nat × Nat} {n z : Nat} {Q : Option sm_V → sm_S → Prop} : sm_wp d 104 73 [l0, l1, l2, l3] [.inl s0] (Z, Rf, K, n, z) Q = (if wr s0 = 0 then sm_wp d 104 76 [l0, l1, l2, l3] [] (Z, Rf, K, n, z) Q else sm_wp d 104 78 [l0, l1, l2, l3] [] (Z, Rf, K, n, z) Q) := w_ifne t104_73 rfl rfl rfl
set_option maxRecDepth 10000 in
theorem b104_76 {d : Nat} {l0 : Option sm_V} {l1 : Option sm_V} {l2 : Option sm_V} {l3 : Option sm_V} {Z : Nat → Nat → Int} {Rf : Nat → Nat → Option Nat} {K : Nat → Nat × Nat} {n z : Nat} {Q : Option sm_V → sm_S → Prop} : sm_wp d 104 76 [l0, l1, l2, l3] [] (Z, Rf, K, n, z) Q = (Q (some (.inl ((-1)))) (Z, Rf, K, n, z)) := (w_iconst t104_76 rfl).trans (w_iret t104_77)
set_option maxRecDepth 10000 in
theorem b104_78 {d : Nat} {l0 : Option sm_V} {l1 : Option sm_V} {l2 : Option sm_V} {x3 : Int} {Z : Nat → Nat → Int} {Rf : Nat → Nat → Option Nat} {K : Nat → Nat × Nat} {n z : Nat} {Q : Option sm_V → sm_S → Prop} : sm_wp d 104 78 [l0, l1, l2, some (.inl x3)] [] (Z, Rf, K, n, z) Q = (sm_wp d 104 (sm_sel (wr x3) 128 [(0, 104), (1, 112), (2, 120)]) [l0, l1, l2, some (.inl x3)] [] (Z, Rf, K, n, z) Q) := (w_iload_n t104_78 rfl rfl).trans (w_tsw t104_79 rfl rfl rfl (by decide))
set_option maxRecDepth 10000 in
theorem b104_104 {d : Nat} {r0 : Nat} {l1 : Option sm_V} {l2 : Option sm_V} {l3 : Option sm_V} {Z : Nat → Nat → Int} {Rf : Nat → Nat → Option Nat} {K : Nat → Nat × Nat} {n z : Nat} {Q : Option sm_V → sm_S → Prop} : sm_wp d 104 104 [some (.inr (some r0)), l1, l2, l3] [] (Z, Rf, K, n, z) Q = ((K r0).1 = 10 ∧ (Rf r0 4).isSome = true ∧ (K (((Rf r0 4).getD 0))).1 = 8 ∧ Q (some (.inl (Z (((Rf r0 4).getD 0)) 3))) (Z, Rf, K, n, z)) := (w_aload_n t104_104 rfl rfl).trans ((w_getR t104_105 rfl (by decide)).trans (congrArg (And _) (congrArg (And _) ((w_getI t104_108 rfl (by decide)).trans (congrArg (And _) (w_iret t104_111))))))
set_option maxRecDepth 10000 in
theorem b104_112 {d : Nat} {r0 : Nat} {l1 : Option sm_V} {l2 : Option sm_V} {l3 : Option sm_V} {Z : Nat → Nat → Int} {Rf : Nat → Nat → Option Nat} {K : Nat → Nat × Nat} {n z : Nat} {Q : Option sm_V → sm_S → Prop} : sm_wp d 104 112 [some (.inr (some r0)), l1, l2, l3] [] (Z, Rf, K, n, z) Q = ((K r0).1 = 10 ∧ (Rf r0 4).isSome = true ∧ (K (((Rf r0 4).getD 0))).1 = 8 ∧ Q (some (.inl (Z (((Rf r0 4).getD 0)) 4))) (Z, Rf, K, n, z)) := (w_aload_n t104_112 rfl rfl).trans ((w_getR t104_113 rfl (by decide)).trans (congrArg (And _) (congrArg (And _) ((w_getI t104_116 rfl (by decide)).trans (congrArg (And _) (w_iret t104_119))))))
set_option maxRecDepth 10000 in
theorem b104_120 {d : Nat} {r0 : Nat} {l1 : Option sm_V} {l2 : Option sm_V} {l3 : Option sm_V} {Z : Nat → Nat → Int} {Rf : Nat → Nat → Option Nat} {K : Nat → Nat × Nat} {n z : Nat} {Q : Option sm_V → sm_S → Prop} : sm_wp d 104 120 [some (.inr (some r0)), l1, l2, l3] [] (Z, Rf, K, n, z) Q = ((K r0).1 = 10 ∧ (Rf r0 4).isSome = true ∧ (K (((Rf r0 4).getD 0))).1 = 8 ∧ Q (some (.inl (Z (((Rf r0 4).getD 0)) 5))) (Z, Rf, K, n, z)) := (w_aload_n t104_120 rfl rfl).trans ((w_getR t104_121 rfl (by decide)).trans (congrArg (And _) (congrArg (And _) ((w_getI t104_124 rfl (by decide)).trans (congrArg (And _) (w_iret t104_127))))))
set_option maxRecDepth 10000 in
theorem b104_128 {d : Nat} {r0 : Nat} {l1 : Option sm_V} {l2 : Option sm_V} {l3 : Option sm_V} {Z : Nat → Nat → Int} {Rf : Nat → Nat → Option Nat} {K : Nat → Nat × Nat} {n z : Nat} {Q : Option sm_V → sm_S → Prop} : sm_wp d 104 128 [some (.inr (some r0)), l1, l2, l3] [] (Z, Rf, K, n, z) Q = ((K r0).1 = 10 ∧ (Rf r0 4).isSome = true ∧ (K (((Rf r0 4).getD 0))).1 = 8 ∧ Q (some (.inl (Z (((Rf r0 4).getD 0)) 6))) (Z, Rf, K, n, z)) := (w_aload_n t104_128 rfl rfl).trans ((w_getR t104_129 rfl (by decide)).trans (congrArg (And _) (congrArg (And _) ((w_getI t104_132 rfl (by decide)).trans (congrArg (And _) (w_iret t104_135))))))
theorem t105_0 : sm_at 105 0 = some (1, .aload_n 0, 0, 0, 0) := rfl
theorem t105_1 : sm_at 105 1 = some (3, .getfield 10, 10, 0, 0) := rfl
theorem t105_4 : sm_at 105 4 = some (1, .iload_n 1, 0, 0, 0) := rfl
theorem t105_5 : sm_at 105 5 = some (3, .invokevirtual 72, 8, 2, 0) := rfl
theorem t105_8 : sm_at 105 8 = some (3, .ifCond .eq 34, 0, 0, 0) := rfl
theorem t105_11 : sm_at 105 11 = some (1, .iload_n 2, 0, 0, 0) := rfl
theorem t105_12 : sm_at 105 12 = some (1, .iconst 0, 0, 0, 0) := rfl
theorem t105_13 : sm_at 105 13 = some (2, .bipush 99, 0, 0, 0) := rfl
theorem t105_15 : sm_at 105 15 = some (3, .invokestatic 65, 112, 3, 0) := rfl
theorem t105_18 : sm_at 105 18 = some (3, .ifCond .eq 24, 0, 0, 0) := rfl
theorem t105_21 : sm_at 105 21 = some (1, .iload_n 3, 0, 0, 0) := rfl
theorem t105_22 : sm_at 105 22 = some (1, .iconst 0, 0, 0, 0) := rfl
theorem t105_23 : sm_at 105 23 = some (2, .bipush 10, 0, 0, 0) := rfl
theorem t105_25 : sm_at 105 25 = some (3, .invokestatic 65, 112, 3, 0) := rfl
theorem t105_28 : sm_at 105 28 = some (3, .ifCond .eq 14, 0, 0, 0) := rfl
theorem t105_31 : sm_at 105 31 = some (1, .aload_n 0, 0, 0, 0) := rfl
theorem t105_32 : sm_at 105 32 = some (3, .getfield 10, 10, 0, 0) := rfl
theorem t105_35 : sm_at 105 35 = some (1, .iload_n 1, 0, 0, 0) := rfl
theorem t105_36 : sm_at 105 36 = some (3, .invokevirtual 248, 15, 2, 0) := rfl
theorem t105_39 : sm_at 105 39 = some (3, .ifCond .eq 5, 0, 0, 0) := rfl
theorem t105_42 : sm_at 105 42 = some (1, .iconst (-1), 0, 0, 0) := rfl
theorem t105_43 : sm_at 105 43 = some (1, .ireturn, 0, 0, 0) := rfl
theorem t105_44 : sm_at 105 44 = some (1, .aload_n 0, 0, 0, 0) := rfl
theorem t105_45 : sm_at 105 45 = some (3, .getfield 10, 10, 0, 0) := rfl
theorem t105_48 : sm_at 105 48 = some (3, .getfield 251, 1, 14, 0) := rfl
theorem t105_51 : sm_at 105 51 = some (1, .iload_n 1, 0, 0, 0) := rfl
theorem t105_52 : sm_at 105 52 = some (1, .iload_n 2, 0, 0, 0) := rfl
theorem t105_53 : sm_at 105 53 = some (1, .iload_n 3, 0, 0, 0) := rfl
theorem t105_54 : sm_at 105 54 = some (1, .iconst 0, 0, 0, 0) := rfl
theorem t105_55 : sm_at 105 55 = some (1, .iconst 0, 0, 0, 0) := rfl
theorem t105_56 : sm_at 105 56 = some (3, .invokevirtual 109, 52, 6, 0) := rfl
theorem t105_59 : sm_at 105 59 = some (1, .ireturn, 0, 0, 0) := rfl
set_option maxRecDepth 10000 in
theorem b105_0 {d : Nat} {r0 : Nat} {x1 : Int} {l2 : Option sm_V} {l3 : Option sm_V} {Z : Nat → Nat → Int} {Rf : Nat → Nat → Option Nat} {K : Nat → Nat × Nat} {n z : Nat} {Q : Option sm_V → sm_S → Prop} : sm_wp (d + 1) 105 0 [some (.inr (some r0)), some (.inl x1), l2, l3] [] (Z, Rf, K, n, z) Q = ((K r0).1 = 10 ∧ (Rf r0 0).isSome = true ∧ (K (((Rf r0 0).getD 0))).1 = 1 ∧ sm_call d 8 [.inr (some ((Rf r0 0).getD 0)), .inl x1] (Z, Rf, K, n, z) (sm_cont (d + 1) 105 8 [some (.inr (some r0)), some (.inl x1), l2, l3] [] Q)) := (w_aload_n t105_0 rfl rfl).trans ((w_getR t105_1 rfl (by decide)).trans (congrArg (And _) (congrArg (And _) ((w_iload_n t105_4 rfl rfl).trans (w_callV t105_5 rfl rfl rfl rfl (Nat.le_of_ble_eq_true rfl) (Nat.le_of_ble_eq_true rfl) rfl (by decide))))))
set_option maxRecDepth 10000 in
theorem b105_8 {d : Nat} {l0 : Option sm_V} {l1 : Option sm_V} {l2 : Option sm_V} {l3 : Option sm_V} {s0 : Int} {Z : Nat → Nat → Int} {Rf : Nat → Nat → Option Nat} {K : Nat → Nat × Nat} {n z : Nat} {Q : Option sm_V → sm_S → Prop} : sm_wp d 105 8 [l0, l1, l2, l3] [.inl s0] (Z, Rf, K, n, z) Q = (if wr s0 = 0 then sm_wp d 105 42 [l0, l1, l2, l3] [] (Z, Rf, K, n, z) Q else sm_wp d 105 11 [l0, l1, l2, l3] [] (Z, Rf, K, n, z) Q) := w_ifeq t105_8 rfl rfl rfl
set_option maxRecDepth 10000 in
theorem b105_11 {d : Nat} {l0 : Option sm_V} {l1 : Option sm_V} {x2 : Int} {l3 : Option sm_V} {Z : Nat → Nat → Int} {Rf : Nat → Nat → Option Nat} {K : Nat → Nat × Nat} {n z : Nat} {Q : Option sm_V → sm_S → Prop} : sm_wp (d + 1) 105 11 [l0, l1, some (.inl x2), l3] [] (Z, Rf, K, n, z) Q = (sm_call d 112 [.inl x2, .inl 0, .inl 99] (Z, Rf, K, n, z) (sm_cont (d + 1) 105 18 [l0, l1, some (.inl x2), l3] [] Q)) := (w_iload_n t105_11 rfl rfl).trans ((w_iconst t105_12 rfl).trans ((w_bipush t105_13 rfl).trans (w_callS t105_15 rfl rfl rfl rfl (Nat.le_of_ble_eq_true rfl) (Nat.le_of_ble_eq_true rfl) rfl)))
set_option maxRecDepth 10000 in
theorem b105_18 {d : Nat} {l0 : Option sm_V} {l1 : Option sm_V} {l2 : Option sm_V} {l3 : Option sm_V} {s0 : Int} {Z : Nat → Nat → Int} {Rf : Nat → Nat → Option Nat} {K : Nat → Nat × Nat} {n z : Nat} {Q : Option sm_V → sm_S → Prop} : sm_wp d 105 18 [l0, l1, l2, l3] [.inl s0] (Z, Rf, K, n, z) Q = (if wr s0 = 0 then sm_wp d 105 42 [l0, l1, l2, l3] [] (Z, Rf, K, n, z) Q else sm_wp d 105 21 [l0, l1, l2, l3] [] (Z, Rf, K, n, z) Q) := w_ifeq t105_18 rfl rfl rfl
set_option maxRecDepth 10000 in
theorem b105_21 {d : Nat} {l0 : Option sm_V} {l1 : Option sm_V} {l2 : Option sm_V} {x3 : Int} {Z : Nat → Nat → Int} {Rf : Nat → Nat → Option Nat} {K : Nat → Nat × Nat} {n z : Nat} {Q : Option sm_V → sm_S → Prop} : sm_wp (d + 1) 105 21 [l0, l1, l2, some (.inl x3)] [] (Z, Rf, K, n, z) Q = (sm_call d 112 [.inl x3, .inl 0, .inl 10] (Z, Rf, K, n, z) (sm_cont (d + 1) 105 28 [l0, l1, l2, some (.inl x3)] [] Q)) := (w_iload_n t105_21 rfl rfl).trans ((w_iconst t105_22 rfl).trans ((w_bipush t105_23 rfl).trans (w_callS t105_25 rfl rfl rfl rfl (Nat.le_of_ble_eq_true rfl) (Nat.le_of_ble_eq_true rfl) rfl)))
set_option maxRecDepth 10000 in
theorem b105_28 {d : Nat} {l0 : Option sm_V} {l1 : Option sm_V} {l2 : Option sm_V} {l3 : Option sm_V} {s0 : Int} {Z : Nat → Nat → Int} {Rf : Nat → Nat → Option Nat} {K : Nat → Nat × Nat} {n z : Nat} {Q : Option sm_V → sm_S → Prop} : sm_wp d 105 28 [l0, l1, l2, l3] [.inl s0] (Z, Rf, K, n, z) Q = (if wr s0 = 0 then sm_wp d 105 42 [l0, l1, l2, l3] [] (Z, Rf, K, n, z) Q else sm_wp d 105 31 [l0, l1, l2, l3] [] (Z, Rf, K, n, z) Q) := w_ifeq t105_28 rfl rfl rfl
set_option maxRecDepth 10000 in
theorem b105_31 {d : Nat} {r0 : Nat} {x1 : Int} {l2 : Option sm_V} {l3 : Option sm_V} {Z : Nat → Nat → Int} {Rf : Nat → Nat → Option Nat} {K : Nat → Nat × Nat} {n z : Nat} {Q : Option sm_V → sm_S → Prop} : sm_wp (d + 1) 105 31 [some (.inr (some r0)), some (.inl x1), l2, l3] [] (Z, Rf, K, n, z) Q = ((K r0).1 = 10 ∧ (Rf r0 0).isSome = true ∧ (K (((Rf r0 0).getD 0))).1 = 1 ∧ sm_call d 15 [.inr (some ((Rf r0 0).getD 0)), .inl x1] (Z, Rf, K, n, z) (sm_cont (d + 1) 105 39 [some (.inr (some r0)), some (.inl x1), l2, l3] [] Q)) := (w_aload_n t105_31 rfl rfl).trans ((w_getR t105_32 rfl (by decide)).trans (congrArg (And _) (congrArg (And _) ((w_iload_n t105_35 rfl rfl).trans (w_callV t105_36 rfl rfl rfl rfl (Nat.le_of_ble_eq_true rfl) (Nat.le_of_ble_eq_true rfl) rfl (by decide))))))
set_option maxRecDepth 10000 in
theorem b105_39 {d : Nat} {l0 : Option sm_V} {l1 : Option sm_V} {l2 : Option sm_V} {l3 : Option sm_V} {s0 : Int} {Z : Nat → Nat → Int} {Rf : Nat → Nat → Option Nat} {K : Nat → Nat × Nat} {n z : Nat} {Q : Option sm_V → sm_S → Prop} : sm_wp d 105 39 [l0, l1, l2, l3] [.inl s0] (Z, Rf, K, n, z) Q = (if wr s0 = 0 then sm_wp d 105 44 [l0, l1, l2, l3] [] (Z, Rf, K, n, z) Q else sm_wp d 105 42 [l0, l1, l2, l3] [] (Z, Rf, K, n, z) Q) := w_ifeq t105_39 rfl rfl rfl
set_option maxRecDepth 10000 in
theorem b105_42 {d : Nat} {l0 : Option sm_V} {l1 : Option sm_V} {l2 : Option sm_V} {l3 : Option sm_V} {Z : Nat → Nat → Int} {Rf : Nat → Nat → Option Nat} {K : Nat → Nat × Nat} {n z : Nat} {Q : Option sm_V → sm_S → Prop} : sm_wp d 105 42 [l0, l1, l2, l3] [] (Z, Rf, K, n, z) Q = (Q (some (.inl ((-1)))) (Z, Rf, K, n, z)) := (w_iconst t105_42 rfl).trans (w_iret t105_43)
set_option maxRecDepth 10000 in
theorem b105_44 {d : Nat} {r0 : Nat} {x1 : Int} {x2 : Int} {x3 : Int} {Z : Nat → Nat → Int} {Rf : Nat → Nat → Option Nat} {K : Nat → Nat × Nat} {n z : Nat} {Q : Option sm_V → sm_S → Prop} : sm_wp (d + 1) 105 44 [some (.inr (some r0)), some (.inl x1), some (.inl x2), some (.inl x3)] [] (Z, Rf, K, n, z) Q = ((K r0).1 = 10 ∧ (Rf r0 0).isSome = true ∧ (K (((Rf r0 0).getD 0))).1 = 1 ∧ (Rf (((Rf r0 0).getD 0)) 14).isSome = true ∧ (K (((Rf (((Rf r0 0).getD 0)) 14).getD 0))).1 = 5 ∧ sm_call d 52 [.inr (some ((Rf (((Rf r0 0).getD 0)) 14).getD 0)), .inl x1, .inl x2, .inl x3, .inl 0, .inl 0] (Z, Rf, K, n, z) (sm_cont (d + 1) 105 59 [some (.inr (some r0)), some (.inl x1), some (.inl x2), some (.inl x3)] [] Q)) := (w_aload_n t105_44 rfl rfl).trans ((w_getR t105_45 rfl (by decide)).trans (congrArg (And _) (congrArg (And _) ((w_getR t105_48 rfl (by decide)).trans (congrArg (And _) (congrArg (And _) ((w_iload_n t105_51 rfl rfl).trans ((w_iload_n t105_52 rfl rfl).trans ((w_iload_n t105_53 rfl rfl).trans ((w_iconst t105_54 rfl).trans ((w_iconst t105_55 rfl).trans (w_callV t105_56 rfl rfl rfl rfl (Nat.le_of_ble_eq_true rfl) (Nat.le_of_ble_eq_true rfl) rfl (by decide)))))))))))))
set_option maxRecDepth 10000 in
theorem b105_59 {d : Nat} {l0 : Option sm_V} {l1 : Option sm_V} {l2 : Option sm_V} {l3 : Option sm_V} {s0 : Int} {Z : Nat → Nat → Int} {Rf : Nat → Nat → Option Nat} {K : Nat → Nat × Nat} {n z : Nat} {Q : Option sm_V → sm_S → Prop} : sm_wp d 105 59 [l0, l1, l2, l3] [.inl s0] (Z, Rf, K, n, z) Q = (Q (some (.inl s0)) (Z, Rf, K, n, z)) := w_iret t105_59
theorem t106_0 : sm_at 106 0 = some (1, .aload_n 0, 0, 0, 0) := rfl
theorem t106_1 : sm_at 106 1 = some (3, .getfield 10, 10, 0, 0) := rfl
theorem t106_4 : sm_at 106 4 = some (1, .iload_n 1, 0, 0, 0) := rfl
theorem t106_5 : sm_at 106 5 = some (3, .invokevirtual 72, 8, 2, 0) := rfl
theorem t106_8 : sm_at 106 8 = some (3, .ifCond .eq 14, 0, 0, 0) := rfl
theorem t106_11 : sm_at 106 11 = some (1, .aload_n 0, 0, 0, 0) := rfl
theorem t106_12 : sm_at 106 12 = some (3, .getfield 10, 10, 0, 0) := rfl
theorem t106_15 : sm_at 106 15 = some (1, .iload_n 2, 0, 0, 0) := rfl
theorem t106_16 : sm_at 106 16 = some (3, .invokevirtual 72, 8, 2, 0) := rfl
theorem t106_19 : sm_at 106 19 = some (3, .ifCond .ne 5, 0, 0, 0) := rfl
theorem t106_22 : sm_at 106 22 = some (1, .iconst (-1), 0, 0, 0) := rfl
theorem t106_23 : sm_at 106 23 = some (1, .ireturn, 0, 0, 0) := rfl
theorem t106_24 : sm_at 106 24 = some (1, .aload_n 0, 0, 0, 0) := rfl
theorem t106_25 : sm_at 106 25 = some (3, .getfield 29, 10, 4, 0) := rfl
theorem t106_28 : sm_at 106 28 = some (1, .aload_n 0, 0, 0, 0) := rfl
theorem t106_29 : sm_at 106 29 = some (3, .getfield 10, 10, 0, 0) := rfl
theorem t106_32 : sm_at 106 32 = some (1, .aload_n 0, 0, 0, 0) := rfl
theorem t106_33 : sm_at 106 33 = some (3, .getfield 22, 10, 3, 0) := rfl
theorem t106_36 : sm_at 106 36 = some (1, .iload_n 1, 0, 0, 0) := rfl
theorem t106_37 : sm_at 106 37 = some (1, .iload_n 2, 0, 0, 0) := rfl
theorem t106_38 : sm_at 106 38 = some (3, .invokevirtual 254, 70, 5, 0) := rfl
theorem t106_41 : sm_at 106 41 = some (1, .ireturn, 0, 0, 0) := rfl
set_option maxRecDepth 10000 in
theorem b106_0 {d : Nat} {r0 : Nat} {x1 : Int} {l2 : Option sm_V} {Z : Nat → Nat → Int} {Rf : Nat → Nat → Option Nat} {K : Nat → Nat × Nat} {n z : Nat} {Q : Option sm_V → sm_S → Prop} : sm_wp (d + 1) 106 0 [some (.inr (some r0)), some (.inl x1), l2] [] (Z, Rf, K, n, z) Q = ((K r0).1 = 10 ∧ (Rf r0 0).isSome = true ∧ (K (((Rf r0 0).getD 0))).1 = 1 ∧ sm_call d 8 [.inr (some ((Rf r0 0).getD 0)), .inl x1] (Z, Rf, K, n, z) (sm_cont (d + 1) 106 8 [some (.inr (some r0)), some (.inl x1), l2] [] Q)) := (w_aload_n t106_0 rfl rfl).trans ((w_getR t106_1 rfl (by decide)).trans (congrArg (And _) (congrArg (And _) ((w_iload_n t106_4 rfl rfl).trans (w_callV t106_5 rfl rfl rfl rfl (Nat.le_of_ble_eq_true rfl) (Nat.le_of_ble_eq_true rfl) rfl (by decide))))))
set_option maxRecDepth 10000 in
theorem b106_8 {d : Nat} {l0 : Option sm_V} {l1 : Option sm_V} {l2 : Option sm_V} {s0 : Int} {Z : Nat → Nat → Int} {Rf : Nat → Nat → Option Nat} {K : Nat → Nat × Nat} {n z : Nat} {Q : Option sm_V → sm_S → Prop} : sm_wp d 106 8 [l0, l1, l2] [.inl s0] (Z, Rf, K, n, z) Q = (if wr s0 = 0 then sm_wp d 106 22 [l0, l1, l2] [] (Z, Rf, K, n, z) Q else sm_wp d 106 11 [l0, l1, l2] [] (Z, Rf, K, n, z) Q) := w_ifeq t106_8 rfl rfl rfl
set_option maxRecDepth 10000 in
theorem b106_11 {d : Nat} {r0 : Nat} {l1 : Option sm_V} {x2 : Int} {Z : Nat → Nat → Int} {Rf : Nat → Nat → Option Nat} {K : Nat → Nat × Nat} {n z : Nat} {Q : Option sm_V → sm_S → Prop} : sm_wp (d + 1) 106 11 [some (.inr (some r0)), l1, some (.inl x2)] [] (Z, Rf, K, n, z) Q = ((K r0).1 = 10 ∧ (Rf r0 0).isSome = true ∧ (K (((Rf r0 0).getD 0))).1 = 1 ∧ sm_call d 8 [.inr (some ((Rf r0 0).getD 0)), .inl x2] (Z, Rf, K, n, z) (sm_cont (d + 1) 106 19 [some (.inr (some r0)), l1, some (.inl x2)] [] Q)) := (w_aload_n t106_11 rfl rfl).trans ((w_getR t106_12 rfl (by decide)).trans (congrArg (And _) (congrArg (And _) ((w_iload_n t106_15 rfl rfl).trans (w_callV t106_16 rfl rfl rfl rfl (Nat.le_of_ble_eq_true rfl) (Nat.le_of_ble_eq_true rfl) rfl (by decide))))))
set_option maxRecDepth 10000 in
theorem b106_19 {d : Nat} {l0 : Option sm_V} {l1 : Option sm_V} {l2 : Option sm_V} {s0 : Int} {Z : Nat → Nat → Int} {Rf : Nat → Nat → Option Nat} {K : Nat → Nat × Nat} {n z : Nat} {Q : Option sm_V → sm_S → Prop} : sm_wp d 106 19 [l0, l1, l2] [.inl s0] (Z, Rf, K, n, z) Q = (if wr s0 = 0 then sm_wp d 106 22 [l0, l1, l2] [] (Z, Rf, K, n, z) Q else sm_wp d 106 24 [l0, l1, l2] [] (Z, Rf, K, n, z) Q) := w_ifne t106_19 rfl rfl rfl
set_option maxRecDepth 10000 in
theorem b106_22 {d : Nat} {l0 : Option sm_V} {l1 : Option sm_V} {l2 : Option sm_V} {Z : Nat → Nat → Int} {Rf : Nat → Nat → Option Nat} {K : Nat → Nat × Nat} {n z : Nat} {Q : Option sm_V → sm_S → Prop} : sm_wp d 106 22 [l0, l1, l2] [] (Z, Rf, K, n, z) Q = (Q (some (.inl ((-1)))) (Z, Rf, K, n, z)) := (w_iconst t106_22 rfl).trans (w_iret t106_23)
set_option maxRecDepth 10000 in
theorem b106_24 {d : Nat} {r0 : Nat} {x1 : Int} {x2 : Int} {Z : Nat → Nat → Int} {Rf : Nat → Nat → Option Nat} {K : Nat → Nat × Nat} {n z : Nat} {Q : Option sm_V → sm_S → Prop} : sm_wp (d + 1) 106 24 [some (.inr (some r0)), some (.inl x1), some (.inl x2)] [] (Z, Rf, K, n, z) Q = ((K r0).1 = 10 ∧ (Rf r0 4).isSome = true ∧ (K r0).1 = 10 ∧ (Rf r0 0).isSome = true ∧ (K r0).1 = 10 ∧ (Rf r0 3).isSome = true ∧ (K (((Rf r0 4).getD 0))).1 = 8 ∧ sm_call d 70 [.inr (some ((Rf r0 4).getD 0)), .inr (some ((Rf r0 0).getD 0)), .inr (some ((Rf r0 3).getD 0)), .inl x1, .inl x2] (Z, Rf, K, n, z) (sm_cont (d + 1) 106 41 [some (.inr (some r0)), some (.inl x1), some (.inl x2)] [] Q)) := (w_aload_n t106_24 rfl rfl).trans ((w_getR t106_25 rfl (by decide)).trans (congrArg (And _) (congrArg (And _) ((w_aload_n t106_28 rfl rfl).trans ((w_getR t106_29 rfl (by decide)).trans (congrArg (And _) (congrArg (And _) ((w_aload_n t106_32 rfl rfl).trans ((w_getR t106_33 rfl (by decide)).trans (congrArg (And _) (congrArg (And _) ((w_iload_n t106_36 rfl rfl).trans ((w_iload_n t106_37 rfl rfl).trans (w_callV t106_38 rfl rfl rfl rfl (Nat.le_of_ble_eq_true rfl) (Nat.le_of_ble_eq_true rfl) rfl (by decide)))))))))))))))
set_option maxRecDepth 10000 in
theorem b106_41 {d : Nat} {l0 : Option sm_V} {l1 : Option sm_V} {l2 : Option sm_V} {s0 : Int} {Z : Nat → Nat → Int} {Rf : Nat → Nat → Option Nat} {K : Nat → Nat × Nat} {n z : Nat} {Q : Option sm_V → sm_S → Prop} : sm_wp d 106 41 [l0, l1, l2] [.inl s0] (Z, Rf, K, n, z) Q = (Q (some (.inl s0)) (Z, Rf, K, n, z)) := w_iret t106_41
theorem t107_0 : sm_at 107 0 = some (1, .aload_n 0, 0, 0, 0) := rfl
theorem t107_1 : sm_at 107 1 = some (3, .getfield 10, 10, 0, 0) := rfl
theorem t107_4 : sm_at 107 4 = some (1, .iload_n 1, 0, 0, 0) := rfl
theorem t107_5 : sm_at 107 5 = some (3, .invokevirtual 72, 8, 2, 0) := rfl
theorem t107_8 : sm_at 107 8 = some (3, .ifCond .eq 19, 0, 0, 0) := rfl
theorem t107_11 : sm_at 107 11 = some (1, .aload_n 0, 0, 0, 0) := rfl
theorem t107_12 : sm_at 107 12 = some (3, .getfield 10, 10, 0, 0) := rfl
theorem t107_15 : sm_at 107 15 = some (1, .iload_n 2, 0, 0, 0) := rfl
theorem t107_16 : sm_at 107 16 = some (3, .invokevirtual 72, 8, 2, 0) := rfl
theorem t107_19 : sm_at 107 19 = some (3, .ifCond .eq 8, 0, 0, 0) := rfl
theorem t107_22 : sm_at 107 22 = some (1, .iload_n 1, 0, 0, 0) := rfl
theorem t107_23 : sm_at 107 23 = some (1, .iload_n 2, 0, 0, 0) := rfl
theorem t107_24 : sm_at 107 24 = some (3, .if_icmp .ne 5, 0, 0, 0) := rfl
theorem t107_27 : sm_at 107 27 = some (1, .iconst 0, 0, 0, 0) := rfl
theorem t107_28 : sm_at 107 28 = some (1, .ireturn, 1, 0, 0) := rfl
theorem t107_29 : sm_at 107 29 = some (1, .aload_n 0, 0, 0, 0) := rfl
theorem t107_30 : sm_at 107 30 = some (3, .getfield 10, 10, 0, 0) := rfl
theorem t107_33 : sm_at 107 33 = some (3, .getfield 257, 1, 15, 0) := rfl
theorem t107_36 : sm_at 107 36 = some (1, .iload_n 1, 0, 0, 0) := rfl
theorem t107_37 : sm_at 107 37 = some (1, .iload_n 2, 0, 0, 0) := rfl
theorem t107_38 : sm_at 107 38 = some (1, .iload_n 3, 0, 0, 0) := rfl
theorem t107_39 : sm_at 107 39 = some (3, .ifCond .eq 7, 0, 0, 0) := rfl
theorem t107_42 : sm_at 107 42 = some (1, .iconst 1, 0, 0, 0) := rfl
theorem t107_43 : sm_at 107 43 = some (3, .goto 4, 0, 0, 0) := rfl
theorem t107_46 : sm_at 107 46 = some (1, .iconst 0, 0, 0, 0) := rfl
theorem t107_47 : sm_at 107 47 = some (1, .iconst 0, 0, 0, 0) := rfl
theorem t107_48 : sm_at 107 48 = some (1, .iconst 0, 0, 0, 0) := rfl
theorem t107_49 : sm_at 107 49 = some (3, .invokevirtual 109, 52, 6, 0) := rfl
theorem t107_52 : sm_at 107 52 = some (1, .iconst (-1), 0, 0, 0) := rfl
theorem t107_53 : sm_at 107 53 = some (3, .if_icmp .eq 7, 0, 0, 0) := rfl
theorem t107_56 : sm_at 107 56 = some (1, .iconst 1, 0, 0, 0) := rfl
theorem t107_57 : sm_at 107 57 = some (3, .goto 4, 0, 0, 0) := rfl
theorem t107_60 : sm_at 107 60 = some (1, .iconst 0, 0, 0, 0) := rfl
theorem t107_61 : sm_at 107 61 = some (1, .ireturn, 1, 0, 0) := rfl
set_option maxRecDepth 10000 in
theorem b107_0 {d : Nat} {r0 : Nat} {x1 : Int} {l2 : Option sm_V} {l3 : Option sm_V} {Z : Nat → Nat → Int} {Rf : Nat → Nat → Option Nat} {K : Nat → Nat × Nat} {n z : Nat} {Q : Option sm_V → sm_S → Prop} : sm_wp (d + 1) 107 0 [some (.inr (some r0)), some (.inl x1), l2, l3] [] (Z, Rf, K, n, z) Q = ((K r0).1 = 10 ∧ (Rf r0 0).isSome = true ∧ (K (((Rf r0 0).getD 0))).1 = 1 ∧ sm_call d 8 [.inr (some ((Rf r0 0).getD 0)), .inl x1] (Z, Rf, K, n, z) (sm_cont (d + 1) 107 8 [some (.inr (some r0)), some (.inl x1), l2, l3] [] Q)) := (w_aload_n t107_0 rfl rfl).trans ((w_getR t107_1 rfl (by decide)).trans (congrArg (And _) (congrArg (And _) ((w_iload_n t107_4 rfl rfl).trans (w_callV t107_5 rfl rfl rfl rfl (Nat.le_of_ble_eq_true rfl) (Nat.le_of_ble_eq_true rfl) rfl (by decide))))))
set_option maxRecDepth 10000 in
theorem b107_8 {d : Nat} {l0 : Option sm_V} {l1 : Option sm_V} {l2 : Option sm_V} {l3 : Option sm_V} {s0 : Int} {Z : Nat → Nat → Int} {Rf : Nat → Nat → Option Nat} {K : Nat → Nat × Nat} {n z : Nat} {Q : Option sm_V → sm_S → Prop} : sm_wp d 107 8 [l0, l1, l2, l3] [.inl s0] (Z, Rf, K, n, z) Q = (if wr s0 = 0 then sm_wp d 107 27 [l0, l1, l2, l3] [] (Z, Rf, K, n, z) Q else sm_wp d 107 11 [l0, l1, l2, l3] [] (Z, Rf, K, n, z) Q) := w_ifeq t107_8 rfl rfl rfl
set_option maxRecDepth 10000 in
theorem b107_11 {d : Nat} {r0 : Nat} {l1 : Option sm_V} {x2 : Int} {l3 : Option sm_V} {Z : Nat → Nat → Int} {Rf : Nat → Nat → Option Nat} {K : Nat → Nat × Nat} {n z : Nat} {Q : Option sm_V → sm_S → Prop} : sm_wp (d + 1) 107 11 [some (.inr (some r0)), l1, some (.inl x2), l3] [] (Z, Rf, K, n, z) Q = ((K r0).1 = 10 ∧ (Rf r0 0).isSome = true ∧ (K (((Rf r0 0).getD 0))).1 = 1 ∧ sm_call d 8 [.inr (some ((Rf r0 0).getD 0)), .inl x2] (Z, Rf, K, n, z) (sm_cont (d + 1) 107 19 [some (.inr (some r0)), l1, some (.inl x2), l3] [] Q)) := (w_aload_n t107_11 rfl rfl).trans ((w_getR t107_12 rfl (by decide)).trans (congrArg (And _) (congrArg (And _) ((w_iload_n t107_15 rfl rfl).trans (w_callV t107_16 rfl rfl rfl rfl (Nat.le_of_ble_eq_true rfl) (Nat.le_of_ble_eq_true rfl) rfl (by decide))))))
set_option maxRecDepth 10000 in
theorem b107_19 {d : Nat} {l0 : Option sm_V} {l1 : Option sm_V} {l2 : Option sm_V} {l3 : Option sm_V} {s0 : Int} {Z : Nat → Nat → Int} {Rf : Nat → Nat → Option Nat} {K : Nat → Nat × Nat} {n z : Nat} {Q : Option sm_V → sm_S → Prop} : sm_wp d 107 19 [l0, l1, l2, l3] [.inl s0] (Z, Rf, K, n, z) Q = (if wr s0 = 0 then sm_wp d 107 27 [l0, l1, l2, l3] [] (Z, Rf, K, n, z) Q else sm_wp d 107 22 [l0, l1, l2, l3] [] (Z, Rf, K, n, z) Q) := w_ifeq t107_19 rfl rfl rfl
set_option maxRecDepth 10000 in
theorem b107_22 {d : Nat} {l0 : Option sm_V} {x1 : Int} {x2 : Int} {l3 : Option sm_V} {Z : Nat → Nat → Int} {Rf : Nat → Nat → Option Nat} {K : Nat → Nat × Nat} {n z : Nat} {Q : Option sm_V → sm_S → Prop} : sm_wp d 107 22 [l0, some (.inl x1), some (.inl x2), l3] [] (Z, Rf, K, n, z) Q = (if wr x1 = wr x2 then sm_wp d 107 27 [l0, some (.inl x1), some (.inl x2), l3] [] (Z, Rf, K, n, z) Q else sm_wp d 107 29 [l0, some (.inl x1), some (.inl x2), l3] [] (Z, Rf, K, n, z) Q) := (w_iload_n t107_22 rfl rfl).trans ((w_iload_n t107_23 rfl rfl).trans (w_icne t107_24 rfl rfl rfl rfl))
set_option maxRecDepth 10000 in
theorem b107_27 {d : Nat} {l0 : Option sm_V} {l1 : Option sm_V} {l2 : Option sm_V} {l3 : Option sm_V} {Z : Nat → Nat → Int} {Rf : Nat → Nat → Option Nat} {K : Nat → Nat × Nat} {n z : Nat} {Q : Option sm_V → sm_S → Prop} : sm_wp d 107 27 [l0, l1, l2, l3] [] (Z, Rf, K, n, z) Q = (((0 : Int) = 0 ∨ (0 : Int) = 1) ∧ Q (some (.inl 0)) (Z, Rf, K, n, z)) := (w_iconst t107_27 rfl).trans (w_zret t107_28 wl_0)
set_option maxRecDepth 10000 in
theorem b107_29 {d : Nat} {r0 : Nat} {x1 : Int} {x2 : Int} {x3 : Int} {Z : Nat → Nat → Int} {Rf : Nat → Nat → Option Nat} {K : Nat → Nat × Nat} {n z : Nat} {Q : Option sm_V → sm_S → Prop} : sm_wp d 107 29 [some (.inr (some r0)), some (.inl x1), some (.inl x2), some (.inl x3)] [] (Z, Rf, K, n, z) Q = ((K r0).1 = 10 ∧ (Rf r0 0).isSome = true ∧ (K (((Rf r0 0).getD 0))).1 = 1 ∧ (Rf (((Rf r0 0).getD 0)) 15).isSome = true ∧ (if wr x3 = 0 then sm_wp d 107 46 [some (.inr (some r0)), some (.inl x1), some (.inl x2), some (.inl x3)] [.inl x2, .inl x1, .inr (some ((Rf (((Rf r0 0).getD 0)) 15).getD 0))] (Z, Rf, K, n, z) Q else sm_wp d 107 42 [some (.inr (some r0)), some (.inl x1), some (.inl x2), some (.inl x3)] [.inl x2, .inl x1, .inr (some ((Rf (((Rf r0 0).getD 0)) 15).getD 0))] (Z, Rf, K, n, z) Q)) := (w_aload_n t107_29 rfl rfl).trans ((w_getR t107_30 rfl (by decide)).trans (congrArg (And _) (congrArg (And _) ((w_getR t107_33 rfl (by decide)).trans (congrArg (And _) (congrArg (And _) ((w_iload_n t107_36 rfl rfl).trans ((w_iload_n t107_37 rfl rfl).trans ((w_iload_n t107_38 rfl rfl).trans (w_ifeq t107_39 rfl rfl rfl))))))))))
set_option maxRecDepth 10000 in
theorem b107_42 {d : Nat} {l0 : Option sm_V} {l1 : Option sm_V} {l2 : Option sm_V} {l3 : Option sm_V} {qs0 : Option Nat} {s1 : Int} {s2 : Int} {Z : Nat → Nat → Int} {Rf : Nat → Nat → Option Nat} {K : Nat → Nat × Nat} {n z : Nat} {Q : Option sm_V → sm_S → Prop} : sm_wp d 107 42 [l0, l1, l2, l3] [.inl s2, .inl s1, .inr qs0] (Z, Rf, K, n, z) Q = (sm_wp d 107 47 [l0, l1, l2, l3] [.inl 1, .inl s2, .inl s1, .inr qs0] (Z, Rf, K, n, z) Q) := (w_iconst t107_42 rfl).trans (w_goto t107_43 rfl)
set_option maxRecDepth 10000 in
theorem b107_46 {d : Nat} {l0 : Option sm_V} {l1 : Option sm_V} {l2 : Option sm_V} {l3 : Option sm_V} {qs0 : Option Nat} {s1 : Int} {s2 : Int} {Z : Nat → Nat → Int} {Rf : Nat → Nat → Option Nat} {K : Nat → Nat × Nat} {n z : Nat} {Q : Option sm_V → sm_S → Prop} : sm_wp d 107 46 [l0, l1, l2, l3] [.inl s2, .inl s1, .inr qs0] (Z, Rf, K, n, z) Q = (sm_wp d 107 47 [l0, l1, l2, l3] [.inl 0, .inl s2, .inl s1, .inr qs0] (Z, Rf, K, n, z) Q) := w_iconst t107_46 rfl
set_option maxRecDepth 10000 in
theorem b107_47 {d : Nat} {l0 : Option sm_V} {l1 : Option sm_V} {l2 : Option sm_V} {l3 : Option sm_V} {rs0 : Nat} {s1 : Int} {s2 : Int} {s3 : Int} {Z : Nat → Nat → Int} {Rf : Nat → Nat → Option Nat} {K : Nat → Nat × Nat} {n z : Nat} {Q : Option sm_V → sm_S → Prop} : sm_wp (d + 1) 107 47 [l0, l1, l2, l3] [.inl s3, .inl s2, .inl s1, .inr (some rs0)] (Z, Rf, K, n, z) Q = ((K rs0).1 = 5 ∧ sm_call d 52 [.inr (some rs0), .inl s1, .inl s2, .inl s3, .inl 0, .inl 0] (Z, Rf, K, n, z) (sm_cont (d + 1) 107 52 [l0, l1, l2, l3] [] Q)) := (w_iconst t107_47 rfl).trans ((w_iconst t107_48 rfl).trans (w_callV t107_49 rfl rfl rfl rfl (Nat.le_of_ble_eq_true rfl) (Nat.le_of_ble_eq_true rfl) rfl (by decide)))
set_option maxRecDepth 10000 in
theorem b107_52 {d : Nat} {l0 : Option sm_V} {l1 : Option sm_V} {l2 : Option sm_V} {l3 : Option sm_V} {s0 : Int} {Z : Nat → Nat → Int} {Rf : Nat → Nat → Option Nat} {K : Nat → Nat × Nat} {n z : Nat} {Q : Option sm_V → sm_S → Prop} : sm_wp d 107 52 [l0, l1, l2, l3] [.inl s0] (Z, Rf, K, n, z) Q = (if wr s0 = (-1 : Int) then sm_wp d 107 60 [l0, l1, l2, l3] [] (Z, Rf, K, n, z) Q else sm_wp d 107 56 [l0, l1, l2, l3] [] (Z, Rf, K, n, z) Q) := (w_iconst t107_52 rfl).trans (w_iceq t107_53 rfl wl_m1 rfl rfl)
set_option maxRecDepth 10000 in
theorem b107_56 {d : Nat} {l0 : Option sm_V} {l1 : Option sm_V} {l2 : Option sm_V} {l3 : Option sm_V} {Z : Nat → Nat → Int} {Rf : Nat → Nat → Option Nat} {K : Nat → Nat × Nat} {n z : Nat} {Q : Option sm_V → sm_S → Prop} : sm_wp d 107 56 [l0, l1, l2, l3] [] (Z, Rf, K, n, z) Q = (sm_wp d 107 61 [l0, l1, l2, l3] [.inl 1] (Z, Rf, K, n, z) Q) := (w_iconst t107_56 rfl).trans (w_goto t107_57 rfl)
set_option maxRecDepth 10000 in
theorem b107_60 {d : Nat} {l0 : Option sm_V} {l1 : Option sm_V} {l2 : Option sm_V} {l3 : Option sm_V} {Z : Nat → Nat → Int} {Rf : Nat → Nat → Option Nat} {K : Nat → Nat × Nat} {n z : Nat} {Q : Option sm_V → sm_S → Prop} : sm_wp d 107 60 [l0, l1, l2, l3] [] (Z, Rf, K, n, z) Q = (sm_wp d 107 61 [l0, l1, l2, l3] [.inl 0] (Z, Rf, K, n, z) Q) := w_iconst t107_60 rfl
set_option maxRecDepth 10000 in
theorem b107_61 {d : Nat} {l0 : Option sm_V} {l1 : Option sm_V} {l2 : Option sm_V} {l3 : Option sm_V} {s0 : Int} {Z : Nat → Nat → Int} {Rf : Nat → Nat → Option Nat} {K : Nat → Nat × Nat} {n z : Nat} {Q : Option sm_V → sm_S → Prop} : sm_wp d 107 61 [l0, l1, l2, l3] [.inl s0] (Z, Rf, K, n, z) Q = ((wr s0 = 0 ∨ wr s0 = 1) ∧ Q (some (.inl s0)) (Z, Rf, K, n, z)) := w_zret t107_61 rfl
theorem t108_0 : sm_at 108 0 = some (1, .iload_n 1, 0, 0, 0) := rfl
theorem t108_1 : sm_at 108 1 = some (1, .iconst 0, 0, 0, 0) := rfl
theorem t108_2 : sm_at 108 2 = some (1, .iconst 2, 0, 0, 0) := rfl
theorem t108_3 : sm_at 108 3 = some (3, .invokestatic 65, 112, 3, 0) := rfl
theorem t108_6 : sm_at 108 6 = some (3, .ifCond .ne 5, 0, 0, 0) := rfl
theorem t108_9 : sm_at 108 9 = some (1, .iconst (-1), 0, 0, 0) := rfl
theorem t108_10 : sm_at 108 10 = some (1, .ireturn, 0, 0, 0) := rfl
theorem t108_11 : sm_at 108 11 = some (1, .aload_n 0, 0, 0, 0) := rfl
theorem t108_12 : sm_at 108 12 = some (3, .getfield 29, 10, 4, 0) := rfl
theorem t108_15 : sm_at 108 15 = some (1, .aload_n 0, 0, 0, 0) := rfl
theorem t108_16 : sm_at 108 16 = some (3, .getfield 10, 10, 0, 0) := rfl
theorem t108_19 : sm_at 108 19 = some (1, .aload_n 0, 0, 0, 0) := rfl
theorem t108_20 : sm_at 108 20 = some (3, .getfield 22, 10, 3, 0) := rfl
theorem t108_23 : sm_at 108 23 = some (3, .invokevirtual 260, 73, 3, 0) := rfl
theorem t108_26 : sm_at 108 26 = some (1, .iload_n 1, 0, 0, 0) := rfl
theorem t108_27 : sm_at 108 27 = some (25, .lookupswitch 55 #[(0, 25), (1, 33)], 0, 0, 0) := rfl
theorem t108_52 : sm_at 108 52 = some (1, .aload_n 0, 0, 0, 0) := rfl
theorem t108_53 : sm_at 108 53 = some (3, .getfield 29, 10, 4, 0) := rfl
theorem t108_56 : sm_at 108 56 = some (3, .getfield 264, 8, 8, 0) := rfl
theorem t108_59 : sm_at 108 59 = some (1, .ireturn, 0, 0, 0) := rfl
theorem t108_60 : sm_at 108 60 = some (1, .aload_n 0, 0, 0, 0) := rfl
theorem t108_61 : sm_at 108 61 = some (3, .getfield 29, 10, 4, 0) := rfl
theorem t108_64 : sm_at 108 64 = some (3, .getfield 264, 8, 8, 0) := rfl
theorem t108_67 : sm_at 108 67 = some (3, .ifCond .ne 7, 0, 0, 0) := rfl
theorem t108_70 : sm_at 108 70 = some (1, .iconst 0, 0, 0, 0) := rfl
theorem t108_71 : sm_at 108 71 = some (3, .goto 10, 0, 0, 0) := rfl
theorem t108_74 : sm_at 108 74 = some (1, .aload_n 0, 0, 0, 0) := rfl
theorem t108_75 : sm_at 108 75 = some (3, .getfield 29, 10, 4, 0) := rfl
theorem t108_78 : sm_at 108 78 = some (3, .getfield 267, 8, 9, 0) := rfl
theorem t108_81 : sm_at 108 81 = some (1, .ireturn, 0, 0, 0) := rfl
theorem t108_82 : sm_at 108 82 = some (1, .aload_n 0, 0, 0, 0) := rfl
theorem t108_83 : sm_at 108 83 = some (3, .getfield 29, 10, 4, 0) := rfl
theorem t108_86 : sm_at 108 86 = some (3, .getfield 270, 8, 10, 0) := rfl
theorem t108_89 : sm_at 108 89 = some (1, .ireturn, 0, 0, 0) := rfl
set_option maxRecDepth 10000 in
theorem b108_0 {d : Nat} {l0 : Option sm_V} {x1 : Int} {Z : Nat → Nat → Int} {Rf : Nat → Nat → Option Nat} {K : Nat → Nat × Nat} {n z : Nat} {Q : Option sm_V → sm_S → Prop} : sm_wp (d + 1) 108 0 [l0, some (.inl x1)] [] (Z, Rf, K, n, z) Q = (sm_call d 112 [.inl x1, .inl 0, .inl 2] (Z, Rf, K, n, z) (sm_cont (d + 1) 108 6 [l0, some (.inl x1)] [] Q)) := (w_iload_n t108_0 rfl rfl).trans ((w_iconst t108_1 rfl).trans ((w_iconst t108_2 rfl).trans (w_callS t108_3 rfl rfl rfl rfl (Nat.le_of_ble_eq_true rfl) (Nat.le_of_ble_eq_true rfl) rfl)))
set_option maxRecDepth 10000 in
theorem b108_6 {d : Nat} {l0 : Option sm_V} {l1 : Option sm_V} {s0 : Int} {Z : Nat → Nat → Int} {Rf : Nat → Nat → Option Nat} {K : Nat → Nat × Nat} {n z : Nat} {Q : Option sm_V → sm_S → Prop} : sm_wp d 108 6 [l0, l1] [.inl s0] (Z, Rf, K, n, z) Q = (if wr s0 = 0 then sm_wp d 108 9 [l0, l1] [] (Z, Rf, K, n, z) Q else sm_wp d 108 11 [l0, l1] [] (Z, Rf, K, n, z) Q) := w_ifne t108_6 rfl rfl rfl
set_option maxRecDepth 10000 in
theorem b108_9 {d : Nat} {l0 : Option sm_V} {l1 : Option sm_V} {Z : Nat → Nat → Int} {Rf : Nat → Nat → Option Nat} {K : Nat → Nat × Nat} {n z : Nat} {Q : Option sm_V → sm_S → Prop} : sm_wp d 108 9 [l0, l1] [] (Z, Rf, K, n, z) Q = (Q (some (.inl ((-1)))) (Z, Rf, K, n, z)) := (w_iconst t108_9 rfl).trans (w_iret t108_10)
set_option maxRecDepth 10000 in
theorem b108_11 {d : Nat} {r0 : Nat} {l1 : Option sm_V} {Z : Nat → Nat → Int} {Rf : Nat → Nat → Option Nat} {K : Nat → Nat × Nat} {n z : Nat} {Q : Option sm_V → sm_S → Prop} : sm_wp (d + 1) 108 11 [some (.inr (some r0)), l1] [] (Z, Rf, K, n, z) Q = ((K r0).1 = 10 ∧ (Rf r0 4).isSome = true ∧ (K r0).1 = 10 ∧ (Rf r0 0).isSome = true ∧ (K r0).1 = 10 ∧ (Rf r0 3).isSome = true ∧ (K (((Rf r0 4).getD 0))).1 = 8 ∧ sm_call d 73 [.inr (some ((Rf r0 4).getD 0)), .inr (some ((Rf r0 0).getD 0)), .inr (some ((Rf r0 3).getD 0))] (Z, Rf, K, n, z) (sm_cont (d + 1) 108 26 [some (.inr (some r0)), l1] [] Q)) := (w_aload_n t108_11 rfl rfl).trans ((w_getR t108_12 rfl (by decide)).trans (congrArg (And _) (congrArg (And _) ((w_aload_n t108_15 rfl rfl).trans ((w_getR t108_16 rfl (by decide)).trans (congrArg (And _) (congrArg (And _) ((w_aload_n t108_19 rfl rfl).trans ((w_getR t108_20 rfl (by decide)).trans (congrArg (And _) (congrArg (And _) (w_callV t108_23 rfl rfl rfl rfl (Nat.le_of_ble_eq_true rfl) (Nat.le_of_ble_eq_true rfl) rfl (by decide)))))))))))))
set_option maxRecDepth 10000 in
theorem b108_26 {d : Nat} {l0 : Option sm_V} {x1 : Int} {Z : Nat → Nat → Int} {Rf : Nat → Nat → Option Nat} {K : Nat → Nat × Nat} {n z : Nat} {Q : Option sm_V → sm_S → Prop} : sm_wp d 108 26 [l0, some (.inl x1)] [] (Z, Rf, K, n, z) Q = (sm_wp d 108 (sm_sel (wr x1) 82 [(0, 52), (1, 60)]) [l0, some (.inl x1)] [] (Z, Rf, K, n, z) Q) := (w_iload_n t108_26 rfl rfl).trans (w_lsw t108_27 rfl rfl rfl)
set_option maxRecDepth 10000 in
theorem b108_52 {d : Nat} {r0 : Nat} {l1 : Option sm_V} {Z : Nat → Nat → Int} {Rf : Nat → Nat → Option Nat} {K : Nat → Nat × Nat} {n z : Nat} {Q : Option sm_V → sm_S → Prop} : sm_wp d 108 52 [some (.inr (some r0)), l1] [] (Z, Rf, K, n, z) Q = ((K r0).1 = 10 ∧ (Rf r0 4).isSome = true ∧ (K (((Rf r0 4).getD 0))).1 = 8 ∧ Q (some (.inl (Z (((Rf r0 4).getD 0)) 8))) (Z, Rf, K, n, z)) := (w_aload_n t108_52 rfl rfl).trans ((w_getR t108_53 rfl (by decide)).trans (congrArg (And _) (congrArg (And _) ((w_getI t108_56 rfl (by decide)).trans (congrArg (And _) (w_iret t108_59))))))
set_option maxRecDepth 10000 in
theorem b108_60 {d : Nat} {r0 : Nat} {l1 : Option sm_V} {Z : Nat → Nat → Int} {Rf : Nat → Nat → Option Nat} {K : Nat → Nat × Nat} {n z : Nat} {Q : Option sm_V → sm_S → Prop} : sm_wp d 108 60 [some (.inr (some r0)), l1] [] (Z, Rf, K, n, z) Q = ((K r0).1 = 10 ∧ (Rf r0 4).isSome = true ∧ (K (((Rf r0 4).getD 0))).1 = 8 ∧ (if wr (Z (((Rf r0 4).getD 0)) 8) = 0 then sm_wp d 108 70 [some (.inr (some r0)), l1] [] (Z, Rf, K, n, z) Q else sm_wp d 108 74 [some (.inr (some r0)), l1] [] (Z, Rf, K, n, z) Q)) := (w_aload_n t108_60 rfl rfl).trans ((w_getR t108_61 rfl (by decide)).trans (congrArg (And _) (congrArg (And _) ((w_getI t108_64 rfl (by decide)).trans (congrArg (And _) (w_ifne t108_67 rfl rfl rfl))))))
set_option maxRecDepth 10000 in
theorem b108_70 {d : Nat} {l0 : Option sm_V} {l1 : Option sm_V} {Z : Nat → Nat → Int} {Rf : Nat → Nat → Option Nat} {K : Nat → Nat × Nat} {n z : Nat} {Q : Option sm_V → sm_S → Prop} : sm_wp d 108 70 [l0, l1] [] (Z, Rf, K, n, z) Q = (sm_wp d 108 81 [l0, l1] [.inl 0] (Z, Rf, K, n, z) Q) := (w_iconst t108_70 rfl).trans (w_goto t108_71 rfl)
set_option maxRecDepth 10000 in
theorem b108_74 {d : Nat} {r0 : Nat} {l1 : Option sm_V} {Z : Nat → Nat → Int} {Rf : Nat → Nat → Option Nat} {K : Nat → Nat × Nat} {n z : Nat} {Q : Option sm_V → sm_S → Prop} : sm_wp d 108 74 [some (.inr (some r0)), l1] [] (Z, Rf, K, n, z) Q = ((K r0).1 = 10 ∧ (Rf r0 4).isSome = true ∧ (K (((Rf r0 4).getD 0))).1 = 8 ∧ sm_wp d 108 81 [some (.inr (some r0)), l1] [.inl (Z (((Rf r0 4).getD 0)) 9)] (Z, Rf, K, n, z) Q) := (w_aload_n t108_74 rfl rfl).trans ((w_getR t108_75 rfl (by decide)).trans (congrArg (And _) (congrArg (And _) ((w_getI t108_78 rfl (by decide)).trans (congrArg (And _) rfl)))))
set_option maxRecDepth 10000 in
theorem b108_81 {d : Nat} {l0 : Option sm_V} {l1 : Option sm_V} {s0 : Int} {Z : Nat → Nat → Int} {Rf : Nat → Nat → Option Nat} {K : Nat → Nat × Nat} {n z : Nat} {Q : Option sm_V → sm_S → Prop} : sm_wp d 108 81 [l0, l1] [.inl s0] (Z, Rf, K, n, z) Q = (Q (some (.inl s0)) (Z, Rf, K, n, z)) := w_iret t108_81
set_option maxRecDepth 10000 in
theorem b108_82 {d : Nat} {r0 : Nat} {l1 : Option sm_V} {Z : Nat → Nat → Int} {Rf : Nat → Nat → Option Nat} {K : Nat → Nat × Nat} {n z : Nat} {Q : Option sm_V → sm_S → Prop} : sm_wp d 108 82 [some (.inr (some r0)), l1] [] (Z, Rf, K, n, z) Q = ((K r0).1 = 10 ∧ (Rf r0 4).isSome = true ∧ (K (((Rf r0 4).getD 0))).1 = 8 ∧ Q (some (.inl (Z (((Rf r0 4).getD 0)) 10))) (Z, Rf, K, n, z)) := (w_aload_n t108_82 rfl rfl).trans ((w_getR t108_83 rfl (by decide)).trans (congrArg (And _) (congrArg (And _) ((w_getI t108_86 rfl (by decide)).trans (congrArg (And _) (w_iret t108_89))))))
theorem t109_0 : sm_at 109 0 = some (1, .aload_n 0, 0, 0, 0) := rfl
theorem t109_1 : sm_at 109 1 = some (3, .getfield 10, 10, 0, 0) := rfl
theorem t109_4 : sm_at 109 4 = some (1, .iload_n 1, 0, 0, 0) := rfl
theorem t109_5 : sm_at 109 5 = some (3, .invokevirtual 72, 8, 2, 0) := rfl
theorem t109_8 : sm_at 109 8 = some (3, .ifCond .eq 19, 0, 0, 0) := rfl
theorem t109_11 : sm_at 109 11 = some (1, .aload_n 0, 0, 0, 0) := rfl
theorem t109_12 : sm_at 109 12 = some (3, .getfield 10, 10, 0, 0) := rfl
theorem t109_15 : sm_at 109 15 = some (1, .iload_n 2, 0, 0, 0) := rfl
theorem t109_16 : sm_at 109 16 = some (3, .invokevirtual 72, 8, 2, 0) := rfl
theorem t109_19 : sm_at 109 19 = some (3, .ifCond .eq 8, 0, 0, 0) := rfl
theorem t109_22 : sm_at 109 22 = some (1, .iload_n 1, 0, 0, 0) := rfl
theorem t109_23 : sm_at 109 23 = some (1, .iload_n 2, 0, 0, 0) := rfl
theorem t109_24 : sm_at 109 24 = some (3, .if_icmp .ne 5, 0, 0, 0) := rfl
theorem t109_27 : sm_at 109 27 = some (1, .iconst (-1), 0, 0, 0) := rfl
theorem t109_28 : sm_at 109 28 = some (1, .ireturn, 0, 0, 0) := rfl
theorem t109_29 : sm_at 109 29 = some (1, .aload_n 0, 0, 0, 0) := rfl
theorem t109_30 : sm_at 109 30 = some (3, .getfield 36, 10, 5, 0) := rfl
theorem t109_33 : sm_at 109 33 = some (1, .aload_n 0, 0, 0, 0) := rfl
theorem t109_34 : sm_at 109 34 = some (3, .getfield 10, 10, 0, 0) := rfl
theorem t109_37 : sm_at 109 37 = some (1, .iload_n 1, 0, 0, 0) := rfl
theorem t109_38 : sm_at 109 38 = some (1, .iload_n 2, 0, 0, 0) := rfl
theorem t109_39 : sm_at 109 39 = some (3, .invokevirtual 273, 25, 4, 0) := rfl
theorem t109_42 : sm_at 109 42 = some (1, .ireturn, 0, 0, 0) := rfl
set_option maxRecDepth 10000 in
theorem b109_0 {d : Nat} {r0 : Nat} {x1 : Int} {l2 : Option sm_V} {Z : Nat → Nat → Int} {Rf : Nat → Nat → Option Nat} {K : Nat → Nat × Nat} {n z : Nat} {Q : Option sm_V → sm_S → Prop} : sm_wp (d + 1) 109 0 [some (.inr (some r0)), some (.inl x1), l2] [] (Z, Rf, K, n, z) Q = ((K r0).1 = 10 ∧ (Rf r0 0).isSome = true ∧ (K (((Rf r0 0).getD 0))).1 = 1 ∧ sm_call d 8 [.inr (some ((Rf r0 0).getD 0)), .inl x1] (Z, Rf, K, n, z) (sm_cont (d + 1) 109 8 [some (.inr (some r0)), some (.inl x1), l2] [] Q)) := (w_aload_n t109_0 rfl rfl).trans ((w_getR t109_1 rfl (by decide)).trans (congrArg (And _) (congrArg (And _) ((w_iload_n t109_4 rfl rfl).trans (w_callV t109_5 rfl rfl rfl rfl (Nat.le_of_ble_eq_true rfl) (Nat.le_of_ble_eq_true rfl) rfl (by decide))))))
set_option maxRecDepth 10000 in
theorem b109_8 {d : Nat} {l0 : Option sm_V} {l1 : Option sm_V} {l2 : Option sm_V} {s0 : Int} {Z : Nat → Nat → Int} {Rf : Nat → Nat → Option Nat} {K : Nat → Nat × Nat} {n z : Nat} {Q : Option sm_V → sm_S → Prop} : sm_wp d 109 8 [l0, l1, l2] [.inl s0] (Z, Rf, K, n, z) Q = (if wr s0 = 0 then sm_wp d 109 27 [l0, l1, l2] [] (Z, Rf, K, n, z) Q else sm_wp d 109 11 [l0, l1, l2] [] (Z, Rf, K, n, z) Q) := w_ifeq t109_8 rfl rfl rfl
set_option maxRecDepth 10000 in
theorem b109_11 {d : Nat} {r0 : Nat} {l1 : Option sm_V} {x2 : Int} {Z : Nat → Nat → Int} {Rf : Nat → Nat → Option Nat} {K : Nat → Nat × Nat} {n z : Nat} {Q : Option sm_V → sm_S → Prop} : sm_wp (d + 1) 109 11 [some (.inr (some r0)), l1, some (.inl x2)] [] (Z, Rf, K, n, z) Q = ((K r0).1 = 10 ∧ (Rf r0 0).isSome = true ∧ (K (((Rf r0 0).getD 0))).1 = 1 ∧ sm_call d 8 [.inr (some ((Rf r0 0).getD 0)), .inl x2] (Z, Rf, K, n, z) (sm_cont (d + 1) 109 19 [some (.inr (some r0)), l1, some (.inl x2)] [] Q)) := (w_aload_n t109_11 rfl rfl).trans ((w_getR t109_12 rfl (by decide)).trans (congrArg (And _) (congrArg (And _) ((w_iload_n t109_15 rfl rfl).trans (w_callV t109_16 rfl rfl rfl rfl (Nat.le_of_ble_eq_true rfl) (Nat.le_of_ble_eq_true rfl) rfl (by decide))))))
set_option maxRecDepth 10000 in
theorem b109_19 {d : Nat} {l0 : Option sm_V} {l1 : Option sm_V} {l2 : Option sm_V} {s0 : Int} {Z : Nat → Nat → Int} {Rf : Nat → Nat → Option Nat} {K : Nat → Nat × Nat} {n z : Nat} {Q : Option sm_V → sm_S → Prop} : sm_wp d 109 19 [l0, l1, l2] [.inl s0] (Z, Rf, K, n, z) Q = (if wr s0 = 0 then sm_wp d 109 27 [l0, l1, l2] [] (Z, Rf, K, n, z) Q else sm_wp d 109 22 [l0, l1, l2] [] (Z, Rf, K, n, z) Q) := w_ifeq t109_19 rfl rfl rfl
set_option maxRecDepth 10000 in
theorem b109_22 {d : Nat} {l0 : Option sm_V} {x1 : Int} {x2 : Int} {Z : Nat → Nat → Int} {Rf : Nat → Nat → Option Nat} {K : Nat → Nat × Nat} {n z : Nat} {Q : Option sm_V → sm_S → Prop} : sm_wp d 109 22 [l0, some (.inl x1), some (.inl x2)] [] (Z, Rf, K, n, z) Q = (if wr x1 = wr x2 then sm_wp d 109 27 [l0, some (.inl x1), some (.inl x2)] [] (Z, Rf, K, n, z) Q else sm_wp d 109 29 [l0, some (.inl x1), some (.inl x2)] [] (Z, Rf, K, n, z) Q) := (w_iload_n t109_22 rfl rfl).trans ((w_iload_n t109_23 rfl rfl).trans (w_icne t109_24 rfl rfl rfl rfl))
set_option maxRecDepth 10000 in
theorem b109_27 {d : Nat} {l0 : Option sm_V} {l1 : Option sm_V} {l2 : Option sm_V} {Z : Nat → Nat → Int} {Rf : Nat → Nat → Option Nat} {K : Nat → Nat × Nat} {n z : Nat} {Q : Option sm_V → sm_S → Prop} : sm_wp d 109 27 [l0, l1, l2] [] (Z, Rf, K, n, z) Q = (Q (some (.inl ((-1)))) (Z, Rf, K, n, z)) := (w_iconst t109_27 rfl).trans (w_iret t109_28)
set_option maxRecDepth 10000 in
theorem b109_29 {d : Nat} {r0 : Nat} {x1 : Int} {x2 : Int} {Z : Nat → Nat → Int} {Rf : Nat → Nat → Option Nat} {K : Nat → Nat × Nat} {n z : Nat} {Q : Option sm_V → sm_S → Prop} : sm_wp (d + 1) 109 29 [some (.inr (some r0)), some (.inl x1), some (.inl x2)] [] (Z, Rf, K, n, z) Q = ((K r0).1 = 10 ∧ (Rf r0 5).isSome = true ∧ (K r0).1 = 10 ∧ (Rf r0 0).isSome = true ∧ (K (((Rf r0 5).getD 0))).1 = 3 ∧ sm_call d 25 [.inr (some ((Rf r0 5).getD 0)), .inr (some ((Rf r0 0).getD 0)), .inl x1, .inl x2] (Z, Rf, K, n, z) (sm_cont (d + 1) 109 42 [some (.inr (some r0)), some (.inl x1), some (.inl x2)] [] Q)) := (w_aload_n t109_29 rfl rfl).trans ((w_getR t109_30 rfl (by decide)).trans (congrArg (And _) (congrArg (And _) ((w_aload_n t109_33 rfl rfl).trans ((w_getR t109_34 rfl (by decide)).trans (congrArg (And _) (congrArg (And _) ((w_iload_n t109_37 rfl rfl).trans ((w_iload_n t109_38 rfl rfl).trans (w_callV t109_39 rfl rfl rfl rfl (Nat.le_of_ble_eq_true rfl) (Nat.le_of_ble_eq_true rfl) rfl (by decide)))))))))))
set_option maxRecDepth 10000 in
theorem b109_42 {d : Nat} {l0 : Option sm_V} {l1 : Option sm_V} {l2 : Option sm_V} {s0 : Int} {Z : Nat → Nat → Int} {Rf : Nat → Nat → Option Nat} {K : Nat → Nat × Nat} {n z : Nat} {Q : Option sm_V → sm_S → Prop} : sm_wp d 109 42 [l0, l1, l2] [.inl s0] (Z, Rf, K, n, z) Q = (Q (some (.inl s0)) (Z, Rf, K, n, z)) := w_iret t109_42
theorem t110_0 : sm_at 110 0 = some (1, .iload_n 1, 0, 0, 0) := rfl
theorem t110_1 : sm_at 110 1 = some (3, .ifCond .eq 21, 0, 0, 0) := rfl
theorem t110_4 : sm_at 110 4 = some (1, .aload_n 0, 0, 0, 0) := rfl
theorem t110_5 : sm_at 110 5 = some (3, .getfield 16, 10, 1, 0) := rfl
theorem t110_8 : sm_at 110 8 = some (1, .aload_n 0, 0, 0, 0) := rfl
theorem t110_9 : sm_at 110 9 = some (3, .getfield 10, 10, 0, 0) := rfl
theorem t110_12 : sm_at 110 12 = some (3, .invokevirtual 277, 7, 2, 0) := rfl
theorem t110_15 : sm_at 110 15 = some (1, .aload_n 0, 0, 0, 0) := rfl
theorem t110_16 : sm_at 110 16 = some (1, .iconst 1, 0, 0, 0) := rfl
theorem t110_17 : sm_at 110 17 = some (3, .putfield 280, 10, 2, 0) := rfl
theorem t110_20 : sm_at 110 20 = some (1, .iconst 1, 0, 0, 0) := rfl
theorem t110_21 : sm_at 110 21 = some (1, .ireturn, 1, 0, 0) := rfl
theorem t110_22 : sm_at 110 22 = some (1, .aload_n 0, 0, 0, 0) := rfl
theorem t110_23 : sm_at 110 23 = some (3, .getfield 280, 10, 2, 0) := rfl
theorem t110_26 : sm_at 110 26 = some (3, .ifCond .ne 5, 0, 0, 0) := rfl
theorem t110_29 : sm_at 110 29 = some (1, .iconst 0, 0, 0, 0) := rfl
theorem t110_30 : sm_at 110 30 = some (1, .ireturn, 1, 0, 0) := rfl
theorem t110_31 : sm_at 110 31 = some (1, .aload_n 0, 0, 0, 0) := rfl
theorem t110_32 : sm_at 110 32 = some (3, .getfield 10, 10, 0, 0) := rfl
theorem t110_35 : sm_at 110 35 = some (1, .aload_n 0, 0, 0, 0) := rfl
theorem t110_36 : sm_at 110 36 = some (3, .getfield 16, 10, 1, 0) := rfl
theorem t110_39 : sm_at 110 39 = some (3, .invokevirtual 277, 7, 2, 0) := rfl
theorem t110_42 : sm_at 110 42 = some (1, .aload_n 0, 0, 0, 0) := rfl
theorem t110_43 : sm_at 110 43 = some (1, .iconst 0, 0, 0, 0) := rfl
theorem t110_44 : sm_at 110 44 = some (3, .putfield 69, 10, 12, 0) := rfl
theorem t110_47 : sm_at 110 47 = some (1, .iconst 1, 0, 0, 0) := rfl
theorem t110_48 : sm_at 110 48 = some (1, .ireturn, 1, 0, 0) := rfl
set_option maxRecDepth 10000 in
theorem b110_0 {d : Nat} {l0 : Option sm_V} {x1 : Int} {Z : Nat → Nat → Int} {Rf : Nat → Nat → Option Nat} {K : Nat → Nat × Nat} {n z : Nat} {Q : Option sm_V → sm_S → Prop} : sm_wp d 110 0 [l0, some (.inl x1)] [] (Z, Rf, K, n, z) Q = (if wr x1 = 0 then sm_wp d 110 22 [l0, some (.inl x1)] [] (Z, Rf, K, n, z) Q else sm_wp d 110 4 [l0, some (.inl x1)] [] (Z, Rf, K, n, z) Q) := (w_iload_n t110_0 rfl rfl).trans (w_ifeq t110_1 rfl rfl rfl)
set_option maxRecDepth 10000 in
theorem b110_4 {d : Nat} {r0 : Nat} {l1 : Option sm_V} {Z : Nat → Nat → Int} {Rf : Nat → Nat → Option Nat} {K : Nat → Nat × Nat} {n z : Nat} {Q : Option sm_V → sm_S → Prop} : sm_wp (d + 1) 110 4 [some (.inr (some r0)), l1] [] (Z, Rf, K, n, z) Q = ((K r0).1 = 10 ∧ (Rf r0 1).isSome = true ∧ (K r0).1 = 10 ∧ (Rf r0 0).isSome = true ∧ (K (((Rf r0 1).getD 0))).1 = 1 ∧ sm_call d 7 [.inr (some ((Rf r0 1).getD 0)), .inr (some ((Rf r0 0).getD 0))] (Z, Rf, K, n, z) (sm_cont (d + 1) 110 15 [some (.inr (some r0)), l1] [] Q)) := (w_aload_n t110_4 rfl rfl).trans ((w_getR t110_5 rfl (by decide)).trans (congrArg (And _) (congrArg (And _) ((w_aload_n t110_8 rfl rfl).trans ((w_getR t110_9 rfl (by decide)).trans (congrArg (And _) (congrArg (And _) (w_callV t110_12 rfl rfl rfl rfl (Nat.le_of_ble_eq_true rfl) (Nat.le_of_ble_eq_true rfl) rfl (by decide)))))))))
set_option maxRecDepth 10000 in
theorem b110_15 {d : Nat} {r0 : Nat} {l1 : Option sm_V} {Z : Nat → Nat → Int} {Rf : Nat → Nat → Option Nat} {K : Nat → Nat × Nat} {n z : Nat} {Q : Option sm_V → sm_S → Prop} : sm_wp d 110 15 [some (.inr (some r0)), l1] [] (Z, Rf, K, n, z) Q = ((K r0).1 = 10 ∧ ((1 : Int) = 0 ∨ (1 : Int) = 1) ∧ ((1 : Int) = 0 ∨ (1 : Int) = 1) ∧ Q (some (.inl 1)) (sm_u Z r0 2 1, Rf, K, n, z)) := (w_aload_n t110_15 rfl rfl).trans ((w_iconst t110_16 rfl).trans ((w_putB t110_17 rfl (by decide) wl_1).trans (congrArg (And _) (congrArg (And _) ((w_iconst t110_20 rfl).trans (w_zret t110_21 wl_1))))))
set_option maxRecDepth 10000 in
theorem b110_22 {d : Nat} {r0 : Nat} {l1 : Option sm_V} {Z : Nat → Nat → Int} {Rf : Nat → Nat → Option Nat} {K : Nat → Nat × Nat} {n z : Nat} {Q : Option sm_V → sm_S → Prop} : sm_wp d 110 22 [some (.inr (some r0)), l1] [] (Z, Rf, K, n, z) Q = ((K r0).1 = 10 ∧ (if wr (Z r0 2) = 0 then sm_wp d 110 29 [some (.inr (some r0)), l1] [] (Z, Rf, K, n, z) Q else sm_wp d 110 31 [some (.inr (some r0)), l1] [] (Z, Rf, K, n, z) Q)) := (w_aload_n t110_22 rfl rfl).trans ((w_getI t110_23 rfl (by decide)).trans (congrArg (And _) (w_ifne t110_26 rfl rfl rfl)))
set_option maxRecDepth 10000 in
theorem b110_29 {d : Nat} {l0 : Option sm_V} {l1 : Option sm_V} {Z : Nat → Nat → Int} {Rf : Nat → Nat → Option Nat} {K : Nat → Nat × Nat} {n z : Nat} {Q : Option sm_V → sm_S → Prop} : sm_wp d 110 29 [l0, l1] [] (Z, Rf, K, n, z) Q = (((0 : Int) = 0 ∨ (0 : Int) = 1) ∧ Q (some (.inl 0)) (Z, Rf, K, n, z)) := (w_iconst t110_29 rfl).trans (w_zret t110_30 wl_0)
set_option maxRecDepth 10000 in
theorem b110_31 {d : Nat} {r0 : Nat} {l1 : Option sm_V} {Z : Nat → Nat → Int} {Rf : Nat → Nat → Option Nat} {K : Nat → Nat × Nat} {n z : Nat} {Q : Option sm_V → sm_S → Prop} : sm_wp (d + 1) 110 31 [some (.inr (some r0)), l1] [] (Z, Rf, K, n, z) Q = ((K r0).1 = 10 ∧ (Rf r0 0).isSome = true ∧ (K r0).1 = 10 ∧ (Rf r0 1).isSome = true ∧ (K (((Rf r0 0).getD 0))).1 = 1 ∧ sm_call d 7 [.inr (some ((Rf r0 0).getD 0)), .inr (some ((Rf r0 1).getD 0))] (Z, Rf, K, n, z) (sm_cont (d + 1) 110 42 [some (.inr (some r0)), l1] [] Q)) := (w_aload_n t110_31 rfl rfl).trans ((w_getR t110_32 rfl (by decide)).trans (congrArg (And _) (congrArg (And _) ((w_aload_n t110_35 rfl rfl).trans ((w_getR t110_36 rfl (by decide)).trans (congrArg (And _) (congrArg (And _) (w_callV t110_39 rfl rfl rfl rfl (Nat.le_of_ble_eq_true rfl) (Nat.le_of_ble_eq_true rfl) rfl (by decide)))))))))
set_option maxRecDepth 10000 in
theorem b110_42 {d : Nat} {r0 : Nat} {l1 : Option sm_V} {Z : Nat → Nat → Int} {Rf : Nat → Nat → Option Nat} {K : Nat → Nat × Nat} {n z : Nat} {Q : Option sm_V → sm_S → Prop} : sm_wp d 110 42 [some (.inr (some r0)), l1] [] (Z, Rf, K, n, z) Q = ((K r0).1 = 10 ∧ ((1 : Int) = 0 ∨ (1 : Int) = 1) ∧ Q (some (.inl 1)) (sm_u Z r0 12 0, Rf, K, n, z)) := (w_aload_n t110_42 rfl rfl).trans ((w_iconst t110_43 rfl).trans ((w_putI t110_44 rfl (by decide)).trans (congrArg (And _) ((w_iconst t110_47 rfl).trans (w_zret t110_48 wl_1)))))
theorem t111_0 : sm_at 111 0 = some (1, .iload_n 1, 0, 0, 0) := rfl
theorem t111_1 : sm_at 111 1 = some (2, .bipush 10, 0, 0, 0) := rfl
theorem t111_3 : sm_at 111 3 = some (2, .bipush 13, 0, 0, 0) := rfl
theorem t111_5 : sm_at 111 5 = some (3, .invokestatic 65, 112, 3, 0) := rfl
theorem t111_8 : sm_at 111 8 = some (3, .ifCond .eq 18, 0, 0, 0) := rfl
theorem t111_11 : sm_at 111 11 = some (1, .aload_n 0, 0, 0, 0) := rfl
theorem t111_12 : sm_at 111 12 = some (3, .getfield 10, 10, 0, 0) := rfl
theorem t111_15 : sm_at 111 15 = some (1, .iload_n 1, 0, 0, 0) := rfl
theorem t111_16 : sm_at 111 16 = some (2, .bipush 10, 0, 0, 0) := rfl
theorem t111_18 : sm_at 111 18 = some (1, .isub, 0, 0, 0) := rfl
theorem t111_19 : sm_at 111 19 = some (3, .invokevirtual 284, 208, 2, 0) := rfl
theorem t111_22 : sm_at 111 22 = some (3, .getfield 142, 2, 0, 0) := rfl
theorem t111_25 : sm_at 111 25 = some (1, .ireturn, 0, 0, 0) := rfl
theorem t111_26 : sm_at 111 26 = some (1, .iload_n 1, 0, 0, 0) := rfl
theorem t111_27 : sm_at 111 27 = some (101, .tableswitch 239 0 21 #[101, 109, 117, 125, 133, 144, 155, 187, 201, 212, 239, 239, 239, 239, 239, 239, 239, 239, 239, 239, 217, 228], 0, 0, 0) := rfl
theorem t111_128 : sm_at 111 128 = some (1, .aload_n 0, 0, 0, 0) := rfl
theorem t111_129 : sm_at 111 129 = some (3, .getfield 10, 10, 0, 0) := rfl
theorem t111_132 : sm_at 111 132 = some (3, .getfield 226, 1, 0, 0) := rfl
theorem t111_135 : sm_at 111 135 = some (1, .ireturn, 0, 0, 0) := rfl
theorem t111_136 : sm_at 111 136 = some (1, .aload_n 0, 0, 0, 0) := rfl
theorem t111_137 : sm_at 111 137 = some (3, .getfield 10, 10, 0, 0) := rfl
theorem t111_140 : sm_at 111 140 = some (3, .getfield 229, 1, 1, 0) := rfl
theorem t111_143 : sm_at 111 143 = some (1, .ireturn, 0, 0, 0) := rfl
theorem t111_144 : sm_at 111 144 = some (1, .aload_n 0, 0, 0, 0) := rfl
theorem t111_145 : sm_at 111 145 = some (3, .getfield 10, 10, 0, 0) := rfl
theorem t111_148 : sm_at 111 148 = some (3, .getfield 62, 1, 2, 0) := rfl
theorem t111_151 : sm_at 111 151 = some (1, .ireturn, 0, 0, 0) := rfl
theorem t111_152 : sm_at 111 152 = some (1, .aload_n 0, 0, 0, 0) := rfl
theorem t111_153 : sm_at 111 153 = some (3, .getfield 10, 10, 0, 0) := rfl
theorem t111_156 : sm_at 111 156 = some (3, .getfield 151, 1, 3, 0) := rfl
theorem t111_159 : sm_at 111 159 = some (1, .ireturn, 0, 0, 0) := rfl
theorem t111_160 : sm_at 111 160 = some (1, .aload_n 0, 0, 0, 0) := rfl
theorem t111_161 : sm_at 111 161 = some (3, .getfield 10, 10, 0, 0) := rfl
theorem t111_164 : sm_at 111 164 = some (3, .getfield 115, 1, 13, 0) := rfl
theorem t111_167 : sm_at 111 167 = some (3, .getfield 209, 5, 2, 0) := rfl
theorem t111_170 : sm_at 111 170 = some (1, .ireturn, 0, 0, 0) := rfl
theorem t111_171 : sm_at 111 171 = some (1, .aload_n 0, 0, 0, 0) := rfl
theorem t111_172 : sm_at 111 172 = some (3, .getfield 10, 10, 0, 0) := rfl
theorem t111_175 : sm_at 111 175 = some (3, .getfield 105, 1, 12, 0) := rfl
theorem t111_178 : sm_at 111 178 = some (3, .getfield 209, 5, 2, 0) := rfl
theorem t111_181 : sm_at 111 181 = some (1, .ireturn, 0, 0, 0) := rfl
theorem t111_182 : sm_at 111 182 = some (1, .aload_n 0, 0, 0, 0) := rfl
theorem t111_183 : sm_at 111 183 = some (3, .getfield 22, 10, 3, 0) := rfl
theorem t111_186 : sm_at 111 186 = some (3, .getfield 170, 7, 1, 0) := rfl
theorem t111_189 : sm_at 111 189 = some (1, .aload_n 0, 0, 0, 0) := rfl
theorem t111_190 : sm_at 111 190 = some (3, .getfield 10, 10, 0, 0) := rfl
theorem t111_193 : sm_at 111 193 = some (1, .aload_n 0, 0, 0, 0) := rfl
theorem t111_194 : sm_at 111 194 = some (3, .getfield 10, 10, 0, 0) := rfl
theorem t111_197 : sm_at 111 197 = some (3, .getfield 174, 1, 18, 0) := rfl
theorem t111_200 : sm_at 111 200 = some (3, .invokevirtual 178, 1, 3, 0) := rfl
theorem t111_203 : sm_at 111 203 = some (1, .aload_n 0, 0, 0, 0) := rfl
theorem t111_204 : sm_at 111 204 = some (3, .getfield 22, 10, 3, 0) := rfl
theorem t111_207 : sm_at 111 207 = some (3, .getfield 170, 7, 1, 0) := rfl
theorem t111_210 : sm_at 111 210 = some (3, .getfield 288, 0, 3, 0) := rfl
theorem t111_213 : sm_at 111 213 = some (1, .ireturn, 0, 0, 0) := rfl
theorem t111_214 : sm_at 111 214 = some (1, .aload_n 0, 0, 0, 0) := rfl
theorem t111_215 : sm_at 111 215 = some (3, .getfield 10, 10, 0, 0) := rfl
theorem t111_218 : sm_at 111 218 = some (3, .getfield 174, 1, 18, 0) := rfl
theorem t111_221 : sm_at 111 221 = some (3, .getfield 206, 9, 2, 0) := rfl
theorem t111_224 : sm_at 111 224 = some (3, .getfield 209, 5, 2, 0) := rfl
set_option maxRecDepth 100000 in
theorem t111_227 : sm_at 111 227 = some (1, .ireturn, 0, 0, 0) := rfl
set_option maxRecDepth 100000 in
theorem t111_228 : sm_at 111 228 = some (1, .aload_n 0, 0, 0, 0) := rfl
set_option maxRecDepth 100000 in
theorem t111_229 : sm_at 111 229 = some (3, .getfield 10, 10, 0, 0) := rfl
set_option maxRecDepth 100000 in
theorem t111_232 : sm_at 111 232 = some (3, .getfield 174, 1, 18, 0) := rfl
set_option maxRecDepth 100000 in
theorem t111_235 : sm_at 111 235 = some (3, .invokevirtual 289, 81, 1, 0) := rfl
set_option maxRecDepth 100000 in
theorem t111_238 : sm_at 111 238 = some (1, .ireturn, 0, 0, 0) := rfl
set_option maxRecDepth 100000 in
theorem t111_239 : sm_at 111 239 = some (1, .aload_n 0, 0, 0, 0) := rfl
set_option maxRecDepth 100000 in
theorem t111_240 : sm_at 111 240 = some (3, .getfield 69, 10, 12, 0) := rfl
set_option maxRecDepth 100000 in
theorem t111_243 : sm_at 111 243 = some (1, .ireturn, 0, 0, 0) := rfl
set_option maxRecDepth 100000 in
theorem t111_244 : sm_at 111 244 = some (1, .aload_n 0, 0, 0, 0) := rfl
set_option maxRecDepth 100000 in
theorem t111_245 : sm_at 111 245 = some (3, .getfield 10, 10, 0, 0) := rfl
set_option maxRecDepth 100000 in
theorem t111_248 : sm_at 111 248 = some (3, .getfield 251, 1, 14, 0) := rfl
set_option maxRecDepth 100000 in
theorem t111_251 : sm_at 111 251 = some (3, .getfield 209, 5, 2, 0) := rfl
set_option maxRecDepth 100000 in
theorem t111_254 : sm_at 111 254 = some (1, .ireturn, 0, 0, 0) := rfl
set_option maxRecDepth 100000 in
theorem t111_255 : sm_at 111 255 = some (1, .aload_n 0, 0, 0, 0) := rfl
set_option maxRecDepth 100000 in
theorem t111_256 : sm_at 111 256 = some (3, .getfield 10, 10, 0, 0) := rfl
set_option maxRecDepth 100000 in
theorem t111_259 : sm_at 111 259 = some (3, .getfield 257, 1, 15, 0) := rfl
set_option maxRecDepth 100000 in
theorem t111_262 : sm_at 111 262 = some (3, .getfield 209, 5, 2, 0) := rfl
set_option maxRecDepth 100000 in
theorem t111_265 : sm_at 111 265 = some (1, .ireturn, 0, 0, 0) := rfl
set_option maxRecDepth 100000 in
theorem t111_266 : sm_at 111 266 = some (1, .iconst (-1), 0, 0, 0) := rfl
set_option maxRecDepth 100000 in
theorem t111_267 : sm_at 111 267 = some (1, .ireturn, 0, 0, 0) := rfl
set_option maxRecDepth 10000 in
theorem b111_0 {d : Nat} {l0 : Option sm_V} {x1 : Int} {Z : Nat → Nat → Int} {Rf : Nat → Nat → Option Nat} {K : Nat → Nat × Nat} {n z : Nat} {Q : Option sm_V → sm_S → Prop} : sm_wp (d + 1) 111 0 [l0, some (.inl x1)] [] (Z, Rf, K, n, z) Q = (sm_call d 112 [.inl x1, .inl 10, .inl 13] (Z, Rf, K, n, z) (sm_cont (d + 1) 111 8 [l0, some (.inl x1)] [] Q)) := (w_iload_n t111_0 rfl rfl).trans ((w_bipush t111_1 rfl).trans ((w_bipush t111_3 rfl).trans (w_callS t111_5 rfl rfl rfl rfl (Nat.le_of_ble_eq_true rfl) (Nat.le_of_ble_eq_true rfl) rfl)))
set_option maxRecDepth 10000 in
theorem b111_8 {d : Nat} {l0 : Option sm_V} {l1 : Option sm_V} {s0 : Int} {Z : Nat → Nat → Int} {Rf : Nat → Nat → Option Nat} {K : Nat → Nat × Nat} {n z : Nat} {Q : Option sm_V → sm_S → Prop} : sm_wp d 111 8 [l0, l1] [.inl s0] (Z, Rf, K, n, z) Q = (if wr s0 = 0 then sm_wp d 111 26 [l0, l1] [] (Z, Rf, K, n, z) Q else sm_wp d 111 11 [l0, l1] [] (Z, Rf, K, n, z) Q) := w_ifeq t111_8 rfl rfl rfl
set_option maxRecDepth 10000 in
theorem b111_11 {d : Nat} {r0 : Nat} {x1 : Int} {Z : Nat → Nat → Int} {Rf : Nat → Nat → Option Nat} {K : Nat → Nat × Nat} {n z : Nat} {Q : Option sm_V → sm_S → Prop} : sm_wp (d + 1) 111 11 [some (.inr (some r0)), some (.inl x1)] [] (Z, Rf, K, n, z) Q = ((K r0).1 = 10 ∧ (Rf r0 0).isSome = true ∧ (K (((Rf r0 0).getD 0))).1 = 1 ∧ sm_call d 208 [.inr (some ((Rf r0 0).getD 0)), .inl (x1 - 10)] (Z, Rf, K, n, z) (sm_cont (d + 1) 111 22 [some (.inr (some r0)), some (.inl x1)] [] Q)) := (w_aload_n t111_11 rfl rfl).trans ((w_getR t111_12 rfl (by decide)).trans (congrArg (And _) (congrArg (And _) ((w_iload_n t111_15 rfl rfl).trans ((w_bipush t111_16 rfl).trans ((w_isub t111_18 rfl).trans (w_callV t111_19 rfl rfl rfl rfl (Nat.le_of_ble_eq_true rfl) (Nat.le_of_ble_eq_true rfl) rfl (by decide))))))))
set_option maxRecDepth 10000 in
theorem b111_22 {d : Nat} {l0 : Option sm_V} {l1 : Option sm_V} {rs0 : Nat} {Z : Nat → Nat → Int} {Rf : Nat → Nat → Option Nat} {K : Nat → Nat × Nat} {n z : Nat} {Q : Option sm_V → sm_S → Prop} : sm_wp d 111 22 [l0, l1] [.inr (some rs0)] (Z, Rf, K, n, z) Q = ((K rs0).1 = 2 ∧ Q (some (.inl (Z rs0 0))) (Z, Rf, K, n, z)) := (w_getI t111_22 rfl (by decide)).trans (congrArg (And _) (w_iret t111_25))
set_option maxRecDepth 10000 in
theorem b111_26 {d : Nat} {l0 : Option sm_V} {x1 : Int} {Z : Nat → Nat → Int} {Rf : Nat → Nat → Option Nat} {K : Nat → Nat × Nat} {n z : Nat} {Q : Option sm_V → sm_S → Prop} : sm_wp d 111 26 [l0, some (.inl x1)] [] (Z, Rf, K, n, z) Q = (sm_wp d 111 (sm_sel (wr x1) 266 [(0, 128), (1, 136), (2, 144), (3, 152), (4, 160), (5, 171), (6, 182), (7, 214), (8, 228), (9, 239), (10, 266), (11, 266), (12, 266), (13, 266), (14, 266), (15, 266), (16, 266), (17, 266), (18, 266), (19, 266), (20, 244), (21, 255)]) [l0, some (.inl x1)] [] (Z, Rf, K, n, z) Q) := (w_iload_n t111_26 rfl rfl).trans (w_tsw t111_27 rfl rfl rfl (by decide))
set_option maxRecDepth 10000 in
theorem b111_128 {d : Nat} {r0 : Nat} {l1 : Option sm_V} {Z : Nat → Nat → Int} {Rf : Nat → Nat → Option Nat} {K : Nat → Nat × Nat} {n z : Nat} {Q : Option sm_V → sm_S → Prop} : sm_wp d 111 128 [some (.inr (some r0)), l1] [] (Z, Rf, K, n, z) Q = ((K r0).1 = 10 ∧ (Rf r0 0).isSome = true ∧ (K (((Rf r0 0).getD 0))).1 = 1 ∧ Q (some (.inl (Z (((Rf r0 0).getD 0)) 0))) (Z, Rf, K, n, z)) := (w_aload_n t111_128 rfl rfl).trans ((w_getR t111_129 rfl (by decide)).trans (congrArg (And _) (congrArg (And _) ((w_getI t111_132 rfl (by decide)).trans (congrArg (And _) (w_iret t111_135))))))
set_option maxRecDepth 10000 in
theorem b111_136 {d : Nat} {r0 : Nat} {l1 : Option sm_V} {Z : Nat → Nat → Int} {Rf : Nat → Nat → Option Nat} {K : Nat → Nat × Nat} {n z : Nat} {Q : Option sm_V → sm_S → Prop} : sm_wp d 111 136 [some (.inr (some r0)), l1] [] (Z, Rf, K, n, z) Q = ((K r0).1 = 10 ∧ (Rf r0 0).isSome = true ∧ (K (((Rf r0 0).getD 0))).1 = 1 ∧ Q (some (.inl (Z (((Rf r0 0).getD 0)) 1))) (Z, Rf, K, n, z)) := (w_aload_n t111_136 rfl rfl).trans ((w_getR t111_137 rfl (by decide)).trans (congrArg (And _) (congrArg (And _) ((w_getI t111_140 rfl (by decide)).trans (congrArg (And _) (w_iret t111_143))))))
set_option maxRecDepth 10000 in
theorem b111_144 {d : Nat} {r0 : Nat} {l1 : Option sm_V} {Z : Nat → Nat → Int} {Rf : Nat → Nat → Option Nat} {K : Nat → Nat × Nat} {n z : Nat} {Q : Option sm_V → sm_S → Prop} : sm_wp d 111 144 [some (.inr (some r0)), l1] [] (Z, Rf, K, n, z) Q = ((K r0).1 = 10 ∧ (Rf r0 0).isSome = true ∧ (K (((Rf r0 0).getD 0))).1 = 1 ∧ Q (some (.inl (Z (((Rf r0 0).getD 0)) 2))) (Z, Rf, K, n, z)) := (w_aload_n t111_144 rfl rfl).trans ((w_getR t111_145 rfl (by decide)).trans (congrArg (And _) (congrArg (And _) ((w_getI t111_148 rfl (by decide)).trans (congrArg (And _) (w_iret t111_151))))))
set_option maxRecDepth 10000 in
theorem b111_152 {d : Nat} {r0 : Nat} {l1 : Option sm_V} {Z : Nat → Nat → Int} {Rf : Nat → Nat → Option Nat} {K : Nat → Nat × Nat} {n z : Nat} {Q : Option sm_V → sm_S → Prop} : sm_wp d 111 152 [some (.inr (some r0)), l1] [] (Z, Rf, K, n, z) Q = ((K r0).1 = 10 ∧ (Rf r0 0).isSome = true ∧ (K (((Rf r0 0).getD 0))).1 = 1 ∧ Q (some (.inl (Z (((Rf r0 0).getD 0)) 3))) (Z, Rf, K, n, z)) := (w_aload_n t111_152 rfl rfl).trans ((w_getR t111_153 rfl (by decide)).trans (congrArg (And _) (congrArg (And _) ((w_getI t111_156 rfl (by decide)).trans (congrArg (And _) (w_iret t111_159))))))
set_option maxRecDepth 10000 in
theorem b111_160 {d : Nat} {r0 : Nat} {l1 : Option sm_V} {Z : Nat → Nat → Int} {Rf : Nat → Nat → Option Nat} {K : Nat → Nat × Nat} {n z : Nat} {Q : Option sm_V → sm_S → Prop} : sm_wp d 111 160 [some (.inr (some r0)), l1] [] (Z, Rf, K, n, z) Q = ((K r0).1 = 10 ∧ (Rf r0 0).isSome = true ∧ (K (((Rf r0 0).getD 0))).1 = 1 ∧ (Rf (((Rf r0 0).getD 0)) 13).isSome = true ∧ (K (((Rf (((Rf r0 0).getD 0)) 13).getD 0))).1 = 5 ∧ Q (some (.inl (Z (((Rf (((Rf r0 0).getD 0)) 13).getD 0)) 2))) (Z, Rf, K, n, z)) := (w_aload_n t111_160 rfl rfl).trans ((w_getR t111_161 rfl (by decide)).trans (congrArg (And _) (congrArg (And _) ((w_getR t111_164 rfl (by decide)).trans (congrArg (And _) (congrArg (And _) ((w_getI t111_167 rfl (by decide)).trans (congrArg (And _) (w_iret t111_170)))))))))
set_option maxRecDepth 10000 in
theorem b111_171 {d : Nat} {r0 : Nat} {l1 : Option sm_V} {Z : Nat → Nat → Int} {Rf : Nat → Nat → Option Nat} {K : Nat → Nat × Nat} {n z : Nat} {Q : Option sm_V → sm_S → Prop} : sm_wp d 111 171 [some (.inr (some r0)), l1] [] (Z, Rf, K, n, z) Q = ((K r0).1 = 10 ∧ (Rf r0 0).isSome = true ∧ (K (((Rf r0 0).getD 0))).1 = 1 ∧ (Rf (((Rf r0 0).getD 0)) 12).isSome = true ∧ (K (((Rf (((Rf r0 0).getD 0)) 12).getD 0))).1 = 5 ∧ Q (some (.inl (Z (((Rf (((Rf r0 0).getD 0)) 12).getD 0)) 2))) (Z, Rf, K, n, z)) := (w_aload_n t111_171 rfl rfl).trans ((w_getR t111_172 rfl (by decide)).trans (congrArg (And _) (congrArg (And _) ((w_getR t111_175 rfl (by decide)).trans (congrArg (And _) (congrArg (And _) ((w_getI t111_178 rfl (by decide)).trans (congrArg (And _) (w_iret t111_181)))))))))
set_option maxRecDepth 10000 in
theorem b111_182 {d : Nat} {r0 : Nat} {l1 : Option sm_V} {Z : Nat → Nat → Int} {Rf : Nat → Nat → Option Nat} {K : Nat → Nat × Nat} {n z : Nat} {Q : Option sm_V → sm_S → Prop} : sm_wp (d + 1) 111 182 [some (.inr (some r0)), l1] [] (Z, Rf, K, n, z) Q = ((K r0).1 = 10 ∧ (Rf r0 3).isSome = true ∧ (K (((Rf r0 3).getD 0))).1 = 7 ∧ (Rf (((Rf r0 3).getD 0)) 1).isSome = true ∧ (K r0).1 = 10 ∧ (Rf r0 0).isSome = true ∧ (K r0).1 = 10 ∧ (Rf r0 0).isSome = true ∧ (K (((Rf r0 0).getD 0))).1 = 1 ∧ (Rf (((Rf r0 0).getD 0)) 18).isSome = true ∧ (K (((Rf (((Rf r0 3).getD 0)) 1).getD 0))).1 = 0 ∧ sm_call d 1 [.inr (some ((Rf (((Rf r0 3).getD 0)) 1).getD 0)), .inr (some ((Rf r0 0).getD 0)), .inr (some ((Rf (((Rf r0 0).getD 0)) 18).getD 0))] (Z, Rf, K, n, z) (sm_cont (d + 1) 111 203 [some (.inr (some r0)), l1] [] Q)) := (w_aload_n t111_182 rfl rfl).trans ((w_getR t111_183 rfl (by decide)).trans (congrArg (And _) (congrArg (And _) ((w_getR t111_186 rfl (by decide)).trans (congrArg (And _) (congrArg (And _) ((w_aload_n t111_189 rfl rfl).trans ((w_getR t111_190 rfl (by decide)).trans (congrArg (And _) (congrArg (And _) ((w_aload_n t111_193 rfl rfl).trans ((w_getR t111_194 rfl (by decide)).trans (congrArg (And _) (congrArg (And _) ((w_getR t111_197 rfl (by decide)).trans (congrArg (And _) (congrArg (And _) (w_callV t111_200 rfl rfl rfl rfl (Nat.le_of_ble_eq_true rfl) (Nat.le_of_ble_eq_true rfl) rfl (by decide)))))))))))))))))))
set_option maxRecDepth 10000 in
theorem b111_203 {d : Nat} {r0 : Nat} {l1 : Option sm_V} {Z : Nat → Nat → Int} {Rf : Nat → Nat → Option Nat} {K : Nat → Nat × Nat} {n z : Nat} {Q : Option sm_V → sm_S → Prop} : sm_wp d 111 203 [some (.inr (some r0)), l1] [] (Z, Rf, K, n, z) Q = ((K r0).1 = 10 ∧ (Rf r0 3).isSome = true ∧ (K (((Rf r0 3).getD 0))).1 = 7 ∧ (Rf (((Rf r0 3).getD 0)) 1).isSome = true ∧ (K (((Rf (((Rf r0 3).getD 0)) 1).getD 0))).1 = 0 ∧ Q (some (.inl (Z (((Rf (((Rf r0 3).getD 0)) 1).getD 0)) 3))) (Z, Rf, K, n, z)) := (w_aload_n t111_203 rfl rfl).trans ((w_getR t111_204 rfl (by decide)).trans (congrArg (And _) (congrArg (And _) ((w_getR t111_207 rfl (by decide)).trans (congrArg (And _) (congrArg (And _) ((w_getI t111_210 rfl (by decide)).trans (congrArg (And _) (w_iret t111_213)))))))))
set_option maxRecDepth 10000 in
theorem b111_214 {d : Nat} {r0 : Nat} {l1 : Option sm_V} {Z : Nat → Nat → Int} {Rf : Nat → Nat → Option Nat} {K : Nat → Nat × Nat} {n z : Nat} {Q : Option sm_V → sm_S → Prop} : sm_wp d 111 214 [some (.inr (some r0)), l1] [] (Z, Rf, K, n, z) Q = ((K r0).1 = 10 ∧ (Rf r0 0).isSome = true ∧ (K (((Rf r0 0).getD 0))).1 = 1 ∧ (Rf (((Rf r0 0).getD 0)) 18).isSome = true ∧ (K (((Rf (((Rf r0 0).getD 0)) 18).getD 0))).1 = 9 ∧ (Rf (((Rf (((Rf r0 0).getD 0)) 18).getD 0)) 2).isSome = true ∧ (K (((Rf (((Rf (((Rf r0 0).getD 0)) 18).getD 0)) 2).getD 0))).1 = 5 ∧ Q (some (.inl (Z (((Rf (((Rf (((Rf r0 0).getD 0)) 18).getD 0)) 2).getD 0)) 2))) (Z, Rf, K, n, z)) := (w_aload_n t111_214 rfl rfl).trans ((w_getR t111_215 rfl (by decide)).trans (congrArg (And _) (congrArg (And _) ((w_getR t111_218 rfl (by decide)).trans (congrArg (And _) (congrArg (And _) ((w_getR t111_221 rfl (by decide)).trans (congrArg (And _) (congrArg (And _) ((w_getI t111_224 rfl (by decide)).trans (congrArg (And _) (w_iret t111_227))))))))))))
set_option maxRecDepth 10000 in
theorem b111_228 {d : Nat} {r0 : Nat} {l1 : Option sm_V} {Z : Nat → Nat → Int} {Rf : Nat → Nat → Option Nat} {K : Nat → Nat × Nat} {n z : Nat} {Q : Option sm_V → sm_S → Prop} : sm_wp (d + 1) 111 228 [some (.inr (some r0)), l1] [] (Z, Rf, K, n, z) Q = ((K r0).1 = 10 ∧ (Rf r0 0).isSome = true ∧ (K (((Rf r0 0).getD 0))).1 = 1 ∧ (Rf (((Rf r0 0).getD 0)) 18).isSome = true ∧ (K (((Rf (((Rf r0 0).getD 0)) 18).getD 0))).1 = 9 ∧ sm_call d 81 [.inr (some ((Rf (((Rf r0 0).getD 0)) 18).getD 0))] (Z, Rf, K, n, z) (sm_cont (d + 1) 111 238 [some (.inr (some r0)), l1] [] Q)) := (w_aload_n t111_228 rfl rfl).trans ((w_getR t111_229 rfl (by decide)).trans (congrArg (And _) (congrArg (And _) ((w_getR t111_232 rfl (by decide)).trans (congrArg (And _) (congrArg (And _) (w_callV t111_235 rfl rfl rfl rfl (Nat.le_of_ble_eq_true rfl) (Nat.le_of_ble_eq_true rfl) rfl (by decide))))))))
set_option maxRecDepth 10000 in
theorem b111_238 {d : Nat} {l0 : Option sm_V} {l1 : Option sm_V} {s0 : Int} {Z : Nat → Nat → Int} {Rf : Nat → Nat → Option Nat} {K : Nat → Nat × Nat} {n z : Nat} {Q : Option sm_V → sm_S → Prop} : sm_wp d 111 238 [l0, l1] [.inl s0] (Z, Rf, K, n, z) Q = (Q (some (.inl s0)) (Z, Rf, K, n, z)) := w_iret t111_238
set_option maxRecDepth 10000 in
theorem b111_239 {d : Nat} {r0 : Nat} {l1 : Option sm_V} {Z : Nat → Nat → Int} {Rf : Nat → Nat → Option Nat} {K : Nat → Nat × Nat} {n z : Nat} {Q : Option sm_V → sm_S → Prop} : sm_wp d 111 239 [some (.inr (some r0)), l1] [] (Z, Rf, K, n, z) Q = ((K r0).1 = 10 ∧ Q (some (.inl (Z r0 12))) (Z, Rf, K, n, z)) := (w_aload_n t111_239 rfl rfl).trans ((w_getI t111_240 rfl (by decide)).trans (congrArg (And _) (w_iret t111_243)))
set_option maxRecDepth 10000 in
theorem b111_244 {d : Nat} {r0 : Nat} {l1 : Option sm_V} {Z : Nat → Nat → Int} {Rf : Nat → Nat → Option Nat} {K : Nat → Nat × Nat} {n z : Nat} {Q : Option sm_V → sm_S → Prop} : sm_wp d 111 244 [some (.inr (some r0)), l1] [] (Z, Rf, K, n, z) Q = ((K r0).1 = 10 ∧ (Rf r0 0).isSome = true ∧ (K (((Rf r0 0).getD 0))).1 = 1 ∧ (Rf (((Rf r0 0).getD 0)) 14).isSome = true ∧ (K (((Rf (((Rf r0 0).getD 0)) 14).getD 0))).1 = 5 ∧ Q (some (.inl (Z (((Rf (((Rf r0 0).getD 0)) 14).getD 0)) 2))) (Z, Rf, K, n, z)) := (w_aload_n t111_244 rfl rfl).trans ((w_getR t111_245 rfl (by decide)).trans (congrArg (And _) (congrArg (And _) ((w_getR t111_248 rfl (by decide)).trans (congrArg (And _) (congrArg (And _) ((w_getI t111_251 rfl (by decide)).trans (congrArg (And _) (w_iret t111_254)))))))))
set_option maxRecDepth 10000 in
theorem b111_255 {d : Nat} {r0 : Nat} {l1 : Option sm_V} {Z : Nat → Nat → Int} {Rf : Nat → Nat → Option Nat} {K : Nat → Nat × Nat} {n z : Nat} {Q : Option sm_V → sm_S → Prop} : sm_wp d 111 255 [some (.inr (some r0)), l1] [] (Z, Rf, K, n, z) Q = ((K r0).1 = 10 ∧ (Rf r0 0).isSome = true ∧ (K (((Rf r0 0).getD 0))).1 = 1 ∧ (Rf (((Rf r0 0).getD 0)) 15).isSome = true ∧ (K (((Rf (((Rf r0 0).getD 0)) 15).getD 0))).1 = 5 ∧ Q (some (.inl (Z (((Rf (((Rf r0 0).getD 0)) 15).getD 0)) 2))) (Z, Rf, K, n, z)) := (w_aload_n t111_255 rfl rfl).trans ((w_getR t111_256 rfl (by decide)).trans (congrArg (And _) (congrArg (And _) ((w_getR t111_259 rfl (by decide)).trans (congrArg (And _) (congrArg (And _) ((w_getI t111_262 rfl (by decide)).trans (congrArg (And _) (w_iret t111_265)))))))))
set_option maxRecDepth 10000 in
theorem b111_266 {d : Nat} {l0 : Option sm_V} {l1 : Option sm_V} {Z : Nat → Nat → Int} {Rf : Nat → Nat → Option Nat} {K : Nat → Nat × Nat} {n z : Nat} {Q : Option sm_V → sm_S → Prop} : sm_wp d 111 266 [l0, l1] [] (Z, Rf, K, n, z) Q = (Q (some (.inl ((-1)))) (Z, Rf, K, n, z)) := (w_iconst t111_266 rfl).trans (w_iret t111_267)
theorem t112_0 : sm_at 112 0 = some (1, .iload_n 0, 0, 0, 0) := rfl
theorem t112_1 : sm_at 112 1 = some (1, .iload_n 1, 0, 0, 0) := rfl
theorem t112_2 : sm_at 112 2 = some (3, .if_icmp .lt 12, 0, 0, 0) := rfl
theorem t112_5 : sm_at 112 5 = some (1, .iload_n 0, 0, 0, 0) := rfl
theorem t112_6 : sm_at 112 6 = some (1, .iload_n 2, 0, 0, 0) := rfl
theorem t112_7 : sm_at 112 7 = some (3, .if_icmp .gt 7, 0, 0, 0) := rfl
theorem t112_10 : sm_at 112 10 = some (1, .iconst 1, 0, 0, 0) := rfl
theorem t112_11 : sm_at 112 11 = some (3, .goto 4, 0, 0, 0) := rfl
theorem t112_14 : sm_at 112 14 = some (1, .iconst 0, 0, 0, 0) := rfl
theorem t112_15 : sm_at 112 15 = some (1, .ireturn, 1, 0, 0) := rfl
set_option maxRecDepth 10000 in
theorem b112_0 {d : Nat} {x0 : Int} {x1 : Int} {l2 : Option sm_V} {Z : Nat → Nat → Int} {Rf : Nat → Nat → Option Nat} {K : Nat → Nat × Nat} {n z : Nat} {Q : Option sm_V → sm_S → Prop} : sm_wp d 112 0 [some (.inl x0), some (.inl x1), l2] [] (Z, Rf, K, n, z) Q = (if wr x0 < wr x1 then sm_wp d 112 14 [some (.inl x0), some (.inl x1), l2] [] (Z, Rf, K, n, z) Q else sm_wp d 112 5 [some (.inl x0), some (.inl x1), l2] [] (Z, Rf, K, n, z) Q) := (w_iload_n t112_0 rfl rfl).trans ((w_iload_n t112_1 rfl rfl).trans (w_iclt t112_2 rfl rfl rfl rfl))
set_option maxRecDepth 10000 in
theorem b112_5 {d : Nat} {x0 : Int} {l1 : Option sm_V} {x2 : Int} {Z : Nat → Nat → Int} {Rf : Nat → Nat → Option Nat} {K : Nat → Nat × Nat} {n z : Nat} {Q : Option sm_V → sm_S → Prop} : sm_wp d 112 5 [some (.inl x0), l1, some (.inl x2)] [] (Z, Rf, K, n, z) Q = (if wr x2 < wr x0 then sm_wp d 112 14 [some (.inl x0), l1, some (.inl x2)] [] (Z, Rf, K, n, z) Q else sm_wp d 112 10 [some (.inl x0), l1, some (.inl x2)] [] (Z, Rf, K, n, z) Q) := (w_iload_n t112_5 rfl rfl).trans ((w_iload_n t112_6 rfl rfl).trans (w_icgt t112_7 rfl rfl rfl rfl))
set_option maxRecDepth 10000 in
theorem b112_10 {d : Nat} {l0 : Option sm_V} {l1 : Option sm_V} {l2 : Option sm_V} {Z : Nat → Nat → Int} {Rf : Nat → Nat → Option Nat} {K : Nat → Nat × Nat} {n z : Nat} {Q : Option sm_V → sm_S → Prop} : sm_wp d 112 10 [l0, l1, l2] [] (Z, Rf, K, n, z) Q = (sm_wp d 112 15 [l0, l1, l2] [.inl 1] (Z, Rf, K, n, z) Q) := (w_iconst t112_10 rfl).trans (w_goto t112_11 rfl)
set_option maxRecDepth 10000 in
theorem b112_14 {d : Nat} {l0 : Option sm_V} {l1 : Option sm_V} {l2 : Option sm_V} {Z : Nat → Nat → Int} {Rf : Nat → Nat → Option Nat} {K : Nat → Nat × Nat} {n z : Nat} {Q : Option sm_V → sm_S → Prop} : sm_wp d 112 14 [l0, l1, l2] [] (Z, Rf, K, n, z) Q = (sm_wp d 112 15 [l0, l1, l2] [.inl 0] (Z, Rf, K, n, z) Q) := w_iconst t112_14 rfl
set_option maxRecDepth 10000 in
theorem b112_15 {d : Nat} {l0 : Option sm_V} {l1 : Option sm_V} {l2 : Option sm_V} {s0 : Int} {Z : Nat → Nat → Int} {Rf : Nat → Nat → Option Nat} {K : Nat → Nat × Nat} {n z : Nat} {Q : Option sm_V → sm_S → Prop} : sm_wp d 112 15 [l0, l1, l2] [.inl s0] (Z, Rf, K, n, z) Q = ((wr s0 = 0 ∨ wr s0 = 1) ∧ Q (some (.inl s0)) (Z, Rf, K, n, z)) := w_zret t112_15 rfl
theorem t113_0 : sm_at 113 0 = some (1, .iload_n 2, 0, 0, 0) := rfl
theorem t113_1 : sm_at 113 1 = some (1, .iconst 0, 0, 0, 0) := rfl
theorem t113_2 : sm_at 113 2 = some (1, .iload_n 3, 0, 0, 0) := rfl
theorem t113_3 : sm_at 113 3 = some (3, .invokestatic 65, 112, 3, 0) := rfl
theorem t113_6 : sm_at 113 6 = some (3, .ifCond .eq 15, 0, 0, 0) := rfl
theorem t113_9 : sm_at 113 9 = some (1, .iload_n 1, 0, 0, 0) := rfl
theorem t113_10 : sm_at 113 10 = some (1, .iconst 0, 0, 0, 0) := rfl
theorem t113_11 : sm_at 113 11 = some (1, .aload_n 0, 0, 0, 0) := rfl
theorem t113_12 : sm_at 113 12 = some (1, .arraylength, 0, 0, 0) := rfl
theorem t113_13 : sm_at 113 13 = some (1, .iconst 1, 0, 0, 0) := rfl
theorem t113_14 : sm_at 113 14 = some (1, .isub, 0, 0, 0) := rfl
theorem t113_15 : sm_at 113 15 = some (3, .invokestatic 65, 112, 3, 0) := rfl
theorem t113_18 : sm_at 113 18 = some (3, .ifCond .ne 5, 0, 0, 0) := rfl
theorem t113_21 : sm_at 113 21 = some (1, .iconst 0, 0, 0, 0) := rfl
theorem t113_22 : sm_at 113 22 = some (1, .ireturn, 1, 0, 0) := rfl
theorem t113_23 : sm_at 113 23 = some (1, .aload_n 0, 0, 0, 0) := rfl
theorem t113_24 : sm_at 113 24 = some (1, .iload_n 1, 0, 0, 0) := rfl
theorem t113_25 : sm_at 113 25 = some (1, .iload_n 2, 0, 0, 0) := rfl
theorem t113_26 : sm_at 113 26 = some (1, .iastore, 0, 0, 0) := rfl
theorem t113_27 : sm_at 113 27 = some (1, .iconst 1, 0, 0, 0) := rfl
theorem t113_28 : sm_at 113 28 = some (1, .ireturn, 1, 0, 0) := rfl
set_option maxRecDepth 10000 in
theorem b113_0 {d : Nat} {l0 : Option sm_V} {l1 : Option sm_V} {x2 : Int} {x3 : Int} {Z : Nat → Nat → Int} {Rf : Nat → Nat → Option Nat} {K : Nat → Nat × Nat} {n z : Nat} {Q : Option sm_V → sm_S → Prop} : sm_wp (d + 1) 113 0 [l0, l1, some (.inl x2), some (.inl x3)] [] (Z, Rf, K, n, z) Q = (sm_call d 112 [.inl x2, .inl 0, .inl x3] (Z, Rf, K, n, z) (sm_cont (d + 1) 113 6 [l0, l1, some (.inl x2), some (.inl x3)] [] Q)) := (w_iload_n t113_0 rfl rfl).trans ((w_iconst t113_1 rfl).trans ((w_iload_n t113_2 rfl rfl).trans (w_callS t113_3 rfl rfl rfl rfl (Nat.le_of_ble_eq_true rfl) (Nat.le_of_ble_eq_true rfl) rfl)))
set_option maxRecDepth 10000 in
theorem b113_6 {d : Nat} {l0 : Option sm_V} {l1 : Option sm_V} {l2 : Option sm_V} {l3 : Option sm_V} {s0 : Int} {Z : Nat → Nat → Int} {Rf : Nat → Nat → Option Nat} {K : Nat → Nat × Nat} {n z : Nat} {Q : Option sm_V → sm_S → Prop} : sm_wp d 113 6 [l0, l1, l2, l3] [.inl s0] (Z, Rf, K, n, z) Q = (if wr s0 = 0 then sm_wp d 113 21 [l0, l1, l2, l3] [] (Z, Rf, K, n, z) Q else sm_wp d 113 9 [l0, l1, l2, l3] [] (Z, Rf, K, n, z) Q) := w_ifeq t113_6 rfl rfl rfl
set_option maxRecDepth 10000 in
theorem b113_9 {d : Nat} {r0 : Nat} {x1 : Int} {l2 : Option sm_V} {l3 : Option sm_V} {Z : Nat → Nat → Int} {Rf : Nat → Nat → Option Nat} {K : Nat → Nat × Nat} {n z : Nat} {Q : Option sm_V → sm_S → Prop} : sm_wp (d + 1) 113 9 [some (.inr (some r0)), some (.inl x1), l2, l3] [] (Z, Rf, K, n, z) Q = (((K r0).1 = 100 ∨ (K r0).1 = 101 ∨ (K r0).1 = 102 ∨ (K r0).1 = 104) ∧ sm_call d 112 [.inl x1, .inl 0, .inl ((((K r0).2 : Int)) - 1)] (Z, Rf, K, n, z) (sm_cont (d + 1) 113 18 [some (.inr (some r0)), some (.inl x1), l2, l3] [] Q)) := (w_iload_n t113_9 rfl rfl).trans ((w_iconst t113_10 rfl).trans ((w_aload_n t113_11 rfl rfl).trans ((w_alen t113_12 rfl).trans (congrArg (And _) ((w_iconst t113_13 rfl).trans ((w_isub t113_14 rfl).trans (w_callS t113_15 rfl rfl rfl rfl (Nat.le_of_ble_eq_true rfl) (Nat.le_of_ble_eq_true rfl) rfl)))))))
set_option maxRecDepth 10000 in
theorem b113_18 {d : Nat} {l0 : Option sm_V} {l1 : Option sm_V} {l2 : Option sm_V} {l3 : Option sm_V} {s0 : Int} {Z : Nat → Nat → Int} {Rf : Nat → Nat → Option Nat} {K : Nat → Nat × Nat} {n z : Nat} {Q : Option sm_V → sm_S → Prop} : sm_wp d 113 18 [l0, l1, l2, l3] [.inl s0] (Z, Rf, K, n, z) Q = (if wr s0 = 0 then sm_wp d 113 21 [l0, l1, l2, l3] [] (Z, Rf, K, n, z) Q else sm_wp d 113 23 [l0, l1, l2, l3] [] (Z, Rf, K, n, z) Q) := w_ifne t113_18 rfl rfl rfl
set_option maxRecDepth 10000 in
theorem b113_21 {d : Nat} {l0 : Option sm_V} {l1 : Option sm_V} {l2 : Option sm_V} {l3 : Option sm_V} {Z : Nat → Nat → Int} {Rf : Nat → Nat → Option Nat} {K : Nat → Nat × Nat} {n z : Nat} {Q : Option sm_V → sm_S → Prop} : sm_wp d 113 21 [l0, l1, l2, l3] [] (Z, Rf, K, n, z) Q = (((0 : Int) = 0 ∨ (0 : Int) = 1) ∧ Q (some (.inl 0)) (Z, Rf, K, n, z)) := (w_iconst t113_21 rfl).trans (w_zret t113_22 wl_0)
set_option maxRecDepth 10000 in
theorem b113_23 {d : Nat} {r0 : Nat} {x1 : Int} {x2 : Int} {l3 : Option sm_V} {Z : Nat → Nat → Int} {Rf : Nat → Nat → Option Nat} {K : Nat → Nat × Nat} {n z : Nat} {Q : Option sm_V → sm_S → Prop} : sm_wp d 113 23 [some (.inr (some r0)), some (.inl x1), some (.inl x2), l3] [] (Z, Rf, K, n, z) Q = (sm_wt (K r0) (wr x1) ∧ ((1 : Int) = 0 ∨ (1 : Int) = 1) ∧ Q (some (.inl 1)) (sm_u Z r0 ((wr x1).toNat) x2, Rf, K, n, z)) := (w_aload_n t113_23 rfl rfl).trans ((w_iload_n t113_24 rfl rfl).trans ((w_iload_n t113_25 rfl rfl).trans ((w_iast t113_26 rfl rfl).trans (congrArg (And _) ((w_iconst t113_27 rfl).trans (w_zret t113_28 wl_1))))))
theorem t114_0 : sm_at 114 0 = some (1, .aload_n 0, 0, 0, 0) := rfl
theorem t114_1 : sm_at 114 1 = some (3, .getfield 10, 10, 0, 0) := rfl
theorem t114_4 : sm_at 114 4 = some (1, .iload_n 1, 0, 0, 0) := rfl
theorem t114_5 : sm_at 114 5 = some (3, .invokevirtual 72, 8, 2, 0) := rfl
theorem t114_8 : sm_at 114 8 = some (3, .ifCond .eq 16, 0, 0, 0) := rfl
theorem t114_11 : sm_at 114 11 = some (1, .aload_n 0, 0, 0, 0) := rfl
theorem t114_12 : sm_at 114 12 = some (3, .getfield 10, 10, 0, 0) := rfl
theorem t114_15 : sm_at 114 15 = some (3, .getfield 93, 1, 7, 0) := rfl
theorem t114_18 : sm_at 114 18 = some (1, .iload_n 1, 0, 0, 0) := rfl
theorem t114_19 : sm_at 114 19 = some (1, .iaload, 0, 0, 0) := rfl
theorem t114_20 : sm_at 114 20 = some (1, .iload_n 2, 0, 0, 0) := rfl
theorem t114_21 : sm_at 114 21 = some (3, .if_icmp .eq 5, 0, 0, 0) := rfl
theorem t114_24 : sm_at 114 24 = some (1, .iconst 0, 0, 0, 0) := rfl
theorem t114_25 : sm_at 114 25 = some (1, .ireturn, 1, 0, 0) := rfl
theorem t114_26 : sm_at 114 26 = some (1, .aload_n 0, 0, 0, 0) := rfl
theorem t114_27 : sm_at 114 27 = some (3, .getfield 10, 10, 0, 0) := rfl
theorem t114_30 : sm_at 114 30 = some (3, .getfield 93, 1, 7, 0) := rfl
theorem t114_33 : sm_at 114 33 = some (1, .iload_n 1, 0, 0, 0) := rfl
theorem t114_34 : sm_at 114 34 = some (1, .iconst 1, 0, 0, 0) := rfl
theorem t114_35 : sm_at 114 35 = some (1, .iload_n 2, 0, 0, 0) := rfl
theorem t114_36 : sm_at 114 36 = some (1, .isub, 0, 0, 0) := rfl
theorem t114_37 : sm_at 114 37 = some (1, .iastore, 0, 0, 0) := rfl
theorem t114_38 : sm_at 114 38 = some (1, .aload_n 0, 0, 0, 0) := rfl
theorem t114_39 : sm_at 114 39 = some (3, .getfield 69, 10, 12, 0) := rfl
theorem t114_42 : sm_at 114 42 = some (2, .bipush 10, 0, 0, 0) := rfl
theorem t114_44 : sm_at 114 44 = some (3, .if_icmp .lt 24, 0, 0, 0) := rfl
theorem t114_47 : sm_at 114 47 = some (1, .aload_n 0, 0, 0, 0) := rfl
theorem t114_48 : sm_at 114 48 = some (3, .getfield 51, 10, 11, 0) := rfl
theorem t114_51 : sm_at 114 51 = some (1, .iconst 1, 0, 0, 0) := rfl
theorem t114_52 : sm_at 114 52 = some (1, .aload_n 0, 0, 0, 0) := rfl
theorem t114_53 : sm_at 114 53 = some (3, .getfield 51, 10, 11, 0) := rfl
theorem t114_56 : sm_at 114 56 = some (1, .iconst 0, 0, 0, 0) := rfl
theorem t114_57 : sm_at 114 57 = some (2, .bipush 9, 0, 0, 0) := rfl
theorem t114_59 : sm_at 114 59 = some (3, .invokestatic 291, 1000, 5, 0) := rfl
theorem t114_62 : sm_at 114 62 = some (1, .aload_n 0, 0, 0, 0) := rfl
theorem t114_63 : sm_at 114 63 = some (2, .bipush 9, 0, 0, 0) := rfl
theorem t114_65 : sm_at 114 65 = some (3, .putfield 69, 10, 12, 0) := rfl
theorem t114_68 : sm_at 114 68 = some (1, .aload_n 0, 0, 0, 0) := rfl
theorem t114_69 : sm_at 114 69 = some (3, .getfield 51, 10, 11, 0) := rfl
theorem t114_72 : sm_at 114 72 = some (1, .aload_n 0, 0, 0, 0) := rfl
theorem t114_73 : sm_at 114 73 = some (3, .getfield 69, 10, 12, 0) := rfl
theorem t114_76 : sm_at 114 76 = some (1, .iload_n 1, 0, 0, 0) := rfl
theorem t114_77 : sm_at 114 77 = some (1, .iastore, 0, 0, 0) := rfl
theorem t114_78 : sm_at 114 78 = some (1, .aload_n 0, 0, 0, 0) := rfl
theorem t114_79 : sm_at 114 79 = some (1, .dup, 0, 0, 0) := rfl
theorem t114_80 : sm_at 114 80 = some (3, .getfield 69, 10, 12, 0) := rfl
theorem t114_83 : sm_at 114 83 = some (1, .iconst 1, 0, 0, 0) := rfl
theorem t114_84 : sm_at 114 84 = some (1, .iadd, 0, 0, 0) := rfl
theorem t114_85 : sm_at 114 85 = some (3, .putfield 69, 10, 12, 0) := rfl
theorem t114_88 : sm_at 114 88 = some (1, .iconst 1, 0, 0, 0) := rfl
theorem t114_89 : sm_at 114 89 = some (1, .ireturn, 1, 0, 0) := rfl
set_option maxRecDepth 10000 in
theorem b114_0 {d : Nat} {r0 : Nat} {x1 : Int} {l2 : Option sm_V} {Z : Nat → Nat → Int} {Rf : Nat → Nat → Option Nat} {K : Nat → Nat × Nat} {n z : Nat} {Q : Option sm_V → sm_S → Prop} : sm_wp (d + 1) 114 0 [some (.inr (some r0)), some (.inl x1), l2] [] (Z, Rf, K, n, z) Q = ((K r0).1 = 10 ∧ (Rf r0 0).isSome = true ∧ (K (((Rf r0 0).getD 0))).1 = 1 ∧ sm_call d 8 [.inr (some ((Rf r0 0).getD 0)), .inl x1] (Z, Rf, K, n, z) (sm_cont (d + 1) 114 8 [some (.inr (some r0)), some (.inl x1), l2] [] Q)) := (w_aload_n t114_0 rfl rfl).trans ((w_getR t114_1 rfl (by decide)).trans (congrArg (And _) (congrArg (And _) ((w_iload_n t114_4 rfl rfl).trans (w_callV t114_5 rfl rfl rfl rfl (Nat.le_of_ble_eq_true rfl) (Nat.le_of_ble_eq_true rfl) rfl (by decide))))))
set_option maxRecDepth 10000 in
theorem b114_8 {d : Nat} {l0 : Option sm_V} {l1 : Option sm_V} {l2 : Option sm_V} {s0 : Int} {Z : Nat → Nat → Int} {Rf : Nat → Nat → Option Nat} {K : Nat → Nat × Nat} {n z : Nat} {Q : Option sm_V → sm_S → Prop} : sm_wp d 114 8 [l0, l1, l2] [.inl s0] (Z, Rf, K, n, z) Q = (if wr s0 = 0 then sm_wp d 114 24 [l0, l1, l2] [] (Z, Rf, K, n, z) Q else sm_wp d 114 11 [l0, l1, l2] [] (Z, Rf, K, n, z) Q) := w_ifeq t114_8 rfl rfl rfl
set_option maxRecDepth 10000 in
theorem b114_11 {d : Nat} {r0 : Nat} {x1 : Int} {x2 : Int} {Z : Nat → Nat → Int} {Rf : Nat → Nat → Option Nat} {K : Nat → Nat × Nat} {n z : Nat} {Q : Option sm_V → sm_S → Prop} : sm_wp d 114 11 [some (.inr (some r0)), some (.inl x1), some (.inl x2)] [] (Z, Rf, K, n, z) Q = ((K r0).1 = 10 ∧ (Rf r0 0).isSome = true ∧ (K (((Rf r0 0).getD 0))).1 = 1 ∧ (Rf (((Rf r0 0).getD 0)) 7).isSome = true ∧ sm_rd (K (((Rf (((Rf r0 0).getD 0)) 7).getD 0))) (wr x1) ∧ (if wr (Z (((Rf (((Rf r0 0).getD 0)) 7).getD 0)) ((wr x1).toNat)) = wr x2 then sm_wp d 114 26 [some (.inr (some r0)), some (.inl x1), some (.inl x2)] [] (Z, Rf, K, n, z) Q else sm_wp d 114 24 [some (.inr (some r0)), some (.inl x1), some (.inl x2)] [] (Z, Rf, K, n, z) Q)) := (w_aload_n t114_11 rfl rfl).trans ((w_getR t114_12 rfl (by decide)).trans (congrArg (And _) (congrArg (And _) ((w_getR t114_15 rfl (by decide)).trans (congrArg (And _) (congrArg (And _) ((w_iload_n t114_18 rfl rfl).trans ((w_iald t114_19 rfl rfl).trans (congrArg (And _) ((w_iload_n t114_20 rfl rfl).trans (w_iceq t114_21 rfl rfl rfl rfl)))))))))))
set_option maxRecDepth 10000 in
theorem b114_24 {d : Nat} {l0 : Option sm_V} {l1 : Option sm_V} {l2 : Option sm_V} {Z : Nat → Nat → Int} {Rf : Nat → Nat → Option Nat} {K : Nat → Nat × Nat} {n z : Nat} {Q : Option sm_V → sm_S → Prop} : sm_wp d 114 24 [l0, l1, l2] [] (Z, Rf, K, n, z) Q = (((0 : Int) = 0 ∨ (0 : Int) = 1) ∧ Q (some (.inl 0)) (Z, Rf, K, n, z)) := (w_iconst t114_24 rfl).trans (w_zret t114_25 wl_0)
set_option maxRecDepth 10000 in
theorem b114_26 {d : Nat} {r0 : Nat} {x1 : Int} {x2 : Int} {Z : Nat → Nat → Int} {Rf : Nat → Nat → Option Nat} {K : Nat → Nat × Nat} {n z : Nat} {Q : Option sm_V → sm_S → Prop} : sm_wp d 114 26 [some (.inr (some r0)), some (.inl x1), some (.inl x2)] [] (Z, Rf, K, n, z) Q = ((K r0).1 = 10 ∧ (Rf r0 0).isSome = true ∧ (K (((Rf r0 0).getD 0))).1 = 1 ∧ (Rf (((Rf r0 0).getD 0)) 7).isSome = true ∧ sm_wt (K (((Rf (((Rf r0 0).getD 0)) 7).getD 0))) (wr x1) ∧ (K r0).1 = 10 ∧ (if wr ((sm_u Z (((Rf (((Rf r0 0).getD 0)) 7).getD 0)) ((wr x1).toNat) (1 - x2)) r0 12) < (10 : Int) then sm_wp d 114 68 [some (.inr (some r0)), some (.inl x1), some (.inl x2)] [] (sm_u Z (((Rf (((Rf r0 0).getD 0)) 7).getD 0)) ((wr x1).toNat) (1 - x2), Rf, K, n, z) Q else sm_wp d 114 47 [some (.inr (some r0)), some (.inl x1), some (.inl x2)] [] (sm_u Z (((Rf (((Rf r0 0).getD 0)) 7).getD 0)) ((wr x1).toNat) (1 - x2), Rf, K, n, z) Q)) := (w_aload_n t114_26 rfl rfl).trans ((w_getR t114_27 rfl (by decide)).trans (congrArg (And _) (congrArg (And _) ((w_getR t114_30 rfl (by decide)).trans (congrArg (And _) (congrArg (And _) ((w_iload_n t114_33 rfl rfl).trans ((w_iconst t114_34 rfl).trans ((w_iload_n t114_35 rfl rfl).trans ((w_isub t114_36 rfl).trans ((w_iast t114_37 rfl rfl).trans (congrArg (And _) ((w_aload_n t114_38 rfl rfl).trans ((w_getI t114_39 rfl (by decide)).trans (congrArg (And _) ((w_bipush t114_42 rfl).trans (w_iclt t114_44 rfl wl_10 rfl rfl)))))))))))))))))
set_option maxRecDepth 10000 in
theorem b114_47 {d : Nat} {r0 : Nat} {l1 : Option sm_V} {l2 : Option sm_V} {Z : Nat → Nat → Int} {Rf : Nat → Nat → Option Nat} {K : Nat → Nat × Nat} {n z : Nat} {Q : Option sm_V → sm_S → Prop} : sm_wp d 114 47 [some (.inr (some r0)), l1, l2] [] (Z, Rf, K, n, z) Q = ((K r0).1 = 10 ∧ (Rf r0 11).isSome = true ∧ (K r0).1 = 10 ∧ (Rf r0 11).isSome = true ∧ sm_cp (K (((Rf r0 11).getD 0))) (K (((Rf r0 11).getD 0))) ((1 : Int)) ((0 : Int)) ((9 : Int)) ∧ (K r0).1 = 10 ∧ sm_wp d 114 68 [some (.inr (some r0)), l1, l2] [] (sm_u (sm_mv Z (((Rf r0 11).getD 0)) (((Rf r0 11).getD 0)) ((1 : Int)) ((0 : Int)) ((9 : Int))) r0 12 9, Rf, K, n, z) Q) := (w_aload_n t114_47 rfl rfl).trans ((w_getR t114_48 rfl (by decide)).trans (congrArg (And _) (congrArg (And _) ((w_iconst t114_51 rfl).trans ((w_aload_n t114_52 rfl rfl).trans ((w_getR t114_53 rfl (by decide)).trans (congrArg (And _) (congrArg (And _) ((w_iconst t114_56 rfl).trans ((w_bipush t114_57 rfl).trans ((w_copy t114_59 rfl (Nat.le_of_ble_eq_true rfl) wl_1 wl_0 wl_9).trans (congrArg (And _) ((w_aload_n t114_62 rfl rfl).trans ((w_bipush t114_63 rfl).trans ((w_putI t114_65 rfl (by decide)).trans (congrArg (And _) rfl))))))))))))))))
set_option maxRecDepth 10000 in
theorem b114_68 {d : Nat} {r0 : Nat} {x1 : Int} {l2 : Option sm_V} {Z : Nat → Nat → Int} {Rf : Nat → Nat → Option Nat} {K : Nat → Nat × Nat} {n z : Nat} {Q : Option sm_V → sm_S → Prop} : sm_wp d 114 68 [some (.inr (some r0)), some (.inl x1), l2] [] (Z, Rf, K, n, z) Q = ((K r0).1 = 10 ∧ (Rf r0 11).isSome = true ∧ (K r0).1 = 10 ∧ sm_wt (K (((Rf r0 11).getD 0))) (wr (Z r0 12)) ∧ (K r0).1 = 10 ∧ (K r0).1 = 10 ∧ ((1 : Int) = 0 ∨ (1 : Int) = 1) ∧ Q (some (.inl 1)) (sm_u (sm_u Z (((Rf r0 11).getD 0)) ((wr (Z r0 12)).toNat) x1) r0 12 (((sm_u Z (((Rf r0 11).getD 0)) ((wr (Z r0 12)).toNat) x1) r0 12) + 1), Rf, K, n, z)) := (w_aload_n t114_68 rfl rfl).trans ((w_getR t114_69 rfl (by decide)).trans (congrArg (And _) (congrArg (And _) ((w_aload_n t114_72 rfl rfl).trans ((w_getI t114_73 rfl (by decide)).trans (congrArg (And _) ((w_iload_n t114_76 rfl rfl).trans ((w_iast t114_77 rfl rfl).trans (congrArg (And _) ((w_aload_n t114_78 rfl rfl).trans ((w_dup t114_79 rfl).trans ((w_getI t114_80 rfl (by decide)).trans (congrArg (And _) ((w_iconst t114_83 rfl).trans ((w_iadd t114_84 rfl).trans ((w_putI t114_85 rfl (by decide)).trans (congrArg (And _) ((w_iconst t114_88 rfl).trans (w_zret t114_89 wl_1)))))))))))))))))))
theorem t115_0 : sm_at 115 0 = some (2, .bipush 24, 0, 0, 0) := rfl
theorem t115_2 : sm_at 115 2 = some (1, .istore_n 2, 0, 0, 0) := rfl
theorem t115_3 : sm_at 115 3 = some (1, .iload_n 2, 0, 0, 0) := rfl
theorem t115_4 : sm_at 115 4 = some (3, .ifCond .lt 45, 0, 0, 0) := rfl
theorem t115_7 : sm_at 115 7 = some (1, .aload_n 0, 0, 0, 0) := rfl
theorem t115_8 : sm_at 115 8 = some (3, .getfield 118, 10, 8, 0) := rfl
theorem t115_11 : sm_at 115 11 = some (3, .sipush 400, 0, 0, 0) := rfl
theorem t115_14 : sm_at 115 14 = some (3, .if_icmp .ge 29, 0, 0, 0) := rfl
theorem t115_17 : sm_at 115 17 = some (1, .aload_n 0, 0, 0, 0) := rfl
theorem t115_18 : sm_at 115 18 = some (3, .getfield 47, 10, 7, 0) := rfl
theorem t115_21 : sm_at 115 21 = some (1, .aload_n 0, 0, 0, 0) := rfl
theorem t115_22 : sm_at 115 22 = some (3, .getfield 118, 10, 8, 0) := rfl
theorem t115_25 : sm_at 115 25 = some (1, .iload_n 1, 0, 0, 0) := rfl
theorem t115_26 : sm_at 115 26 = some (1, .iload_n 2, 0, 0, 0) := rfl
theorem t115_27 : sm_at 115 27 = some (1, .iushr, 0, 0, 0) := rfl
theorem t115_28 : sm_at 115 28 = some (3, .sipush 255, 0, 0, 0) := rfl
theorem t115_31 : sm_at 115 31 = some (1, .iand, 0, 0, 0) := rfl
theorem t115_32 : sm_at 115 32 = some (1, .iastore, 0, 0, 0) := rfl
theorem t115_33 : sm_at 115 33 = some (1, .aload_n 0, 0, 0, 0) := rfl
theorem t115_34 : sm_at 115 34 = some (1, .dup, 0, 0, 0) := rfl
theorem t115_35 : sm_at 115 35 = some (3, .getfield 118, 10, 8, 0) := rfl
theorem t115_38 : sm_at 115 38 = some (1, .iconst 1, 0, 0, 0) := rfl
theorem t115_39 : sm_at 115 39 = some (1, .iadd, 0, 0, 0) := rfl
theorem t115_40 : sm_at 115 40 = some (3, .putfield 118, 10, 8, 0) := rfl
theorem t115_43 : sm_at 115 43 = some (3, .iinc 2 (-8), 0, 0, 0) := rfl
theorem t115_46 : sm_at 115 46 = some (3, .goto (-43), 0, 0, 0) := rfl
theorem t115_49 : sm_at 115 49 = some (1, .return_, 0, 0, 0) := rfl
set_option maxRecDepth 10000 in
theorem b115_0 {d : Nat} {l0 : Option sm_V} {l1 : Option sm_V} {l2 : Option sm_V} {Z : Nat → Nat → Int} {Rf : Nat → Nat → Option Nat} {K : Nat → Nat × Nat} {n z : Nat} {Q : Option sm_V → sm_S → Prop} : sm_wp d 115 0 [l0, l1, l2] [] (Z, Rf, K, n, z) Q = (sm_wp d 115 3 [l0, l1, some (.inl 24)] [] (Z, Rf, K, n, z) Q) := (w_bipush t115_0 rfl).trans (w_istore_n t115_2 rfl (Nat.le_of_ble_eq_true rfl) rfl)
set_option maxRecDepth 10000 in
theorem b115_3 {d : Nat} {l0 : Option sm_V} {l1 : Option sm_V} {x2 : Int} {Z : Nat → Nat → Int} {Rf : Nat → Nat → Option Nat} {K : Nat → Nat × Nat} {n z : Nat} {Q : Option sm_V → sm_S → Prop} : sm_wp d 115 3 [l0, l1, some (.inl x2)] [] (Z, Rf, K, n, z) Q = (if wr x2 < 0 then sm_wp d 115 49 [l0, l1, some (.inl x2)] [] (Z, Rf, K, n, z) Q else sm_wp d 115 7 [l0, l1, some (.inl x2)] [] (Z, Rf, K, n, z) Q) := (w_iload_n t115_3 rfl rfl).trans (w_iflt t115_4 rfl rfl rfl)
set_option maxRecDepth 10000 in
theorem b115_7 {d : Nat} {r0 : Nat} {l1 : Option sm_V} {l2 : Option sm_V} {Z : Nat → Nat → Int} {Rf : Nat → Nat → Option Nat} {K : Nat → Nat × Nat} {n z : Nat} {Q : Option sm_V → sm_S → Prop} : sm_wp d 115 7 [some (.inr (some r0)), l1, l2] [] (Z, Rf, K, n, z) Q = ((K r0).1 = 10 ∧ (if (400 : Int) ≤ wr (Z r0 8) then sm_wp d 115 43 [some (.inr (some r0)), l1, l2] [] (Z, Rf, K, n, z) Q else sm_wp d 115 17 [some (.inr (some r0)), l1, l2] [] (Z, Rf, K, n, z) Q)) := (w_aload_n t115_7 rfl rfl).trans ((w_getI t115_8 rfl (by decide)).trans (congrArg (And _) ((w_sipush t115_11 rfl).trans (w_icge t115_14 rfl wl_400 rfl rfl))))
set_option maxRecDepth 10000 in
theorem b115_17 {d : Nat} {r0 : Nat} {x1 : Int} {x2 : Int} {Z : Nat → Nat → Int} {Rf : Nat → Nat → Option Nat} {K : Nat → Nat × Nat} {n z : Nat} {Q : Option sm_V → sm_S → Prop} : sm_wp d 115 17 [some (.inr (some r0)), some (.inl x1), some (.inl x2)] [] (Z, Rf, K, n, z) Q = ((K r0).1 = 10 ∧ (Rf r0 7).isSome = true ∧ (K r0).1 = 10 ∧ sm_wt (K (((Rf r0 7).getD 0))) (wr (Z r0 8)) ∧ (K r0).1 = 10 ∧ (K r0).1 = 10 ∧ sm_wp d 115 43 [some (.inr (some r0)), some (.inl x1), some (.inl x2)] [] (sm_u (sm_u Z (((Rf r0 7).getD 0)) ((wr (Z r0 8)).toNat) (sm_and (sm_ushr x1 x2) 255)) r0 8 (((sm_u Z (((Rf r0 7).getD 0)) ((wr (Z r0 8)).toNat) (sm_and (sm_ushr x1 x2) 255)) r0 8) + 1), Rf, K, n, z) Q) := (w_aload_n t115_17 rfl rfl).trans ((w_getR t115_18 rfl (by decide)).trans (congrArg (And _) (congrArg (And _) ((w_aload_n t115_21 rfl rfl).trans ((w_getI t115_22 rfl (by decide)).trans (congrArg (And _) ((w_iload_n t115_25 rfl rfl).trans ((w_iload_n t115_26 rfl rfl).trans ((w_iushr t115_27 rfl).trans ((w_sipush t115_28 rfl).trans ((w_iand t115_31 rfl).trans ((w_iast t115_32 rfl rfl).trans (congrArg (And _) ((w_aload_n t115_33 rfl rfl).trans ((w_dup t115_34 rfl).trans ((w_getI t115_35 rfl (by decide)).trans (congrArg (And _) ((w_iconst t115_38 rfl).trans ((w_iadd t115_39 rfl).trans ((w_putI t115_40 rfl (by decide)).trans (congrArg (And _) rfl)))))))))))))))))))))
set_option maxRecDepth 10000 in
theorem b115_43 {d : Nat} {l0 : Option sm_V} {l1 : Option sm_V} {x2 : Int} {Z : Nat → Nat → Int} {Rf : Nat → Nat → Option Nat} {K : Nat → Nat × Nat} {n z : Nat} {Q : Option sm_V → sm_S → Prop} : sm_wp d 115 43 [l0, l1, some (.inl x2)] [] (Z, Rf, K, n, z) Q = (sm_wp d 115 3 [l0, l1, some (.inl (x2 + (-8)))] [] (Z, Rf, K, n, z) Q) := (w_iinc t115_43 rfl rfl (Nat.le_of_ble_eq_true rfl) rfl).trans (w_goto t115_46 rfl)
set_option maxRecDepth 10000 in
theorem b115_49 {d : Nat} {l0 : Option sm_V} {l1 : Option sm_V} {l2 : Option sm_V} {Z : Nat → Nat → Int} {Rf : Nat → Nat → Option Nat} {K : Nat → Nat × Nat} {n z : Nat} {Q : Option sm_V → sm_S → Prop} : sm_wp d 115 49 [l0, l1, l2] [] (Z, Rf, K, n, z) Q = (Q none (Z, Rf, K, n, z)) := w_vret t115_49
theorem t116_0 : sm_at 116 0 = some (1, .aload_n 0, 0, 0, 0) := rfl
theorem t116_1 : sm_at 116 1 = some (1, .iconst 0, 0, 0, 0) := rfl
theorem t116_2 : sm_at 116 2 = some (3, .putfield 69, 10, 12, 0) := rfl
theorem t116_5 : sm_at 116 5 = some (1, .aload_n 0, 0, 0, 0) := rfl
theorem t116_6 : sm_at 116 6 = some (3, .getfield 22, 10, 3, 0) := rfl
theorem t116_9 : sm_at 116 9 = some (3, .getfield 157, 7, 0, 0) := rfl
theorem t116_12 : sm_at 116 12 = some (1, .aload_n 0, 0, 0, 0) := rfl
theorem t116_13 : sm_at 116 13 = some (3, .getfield 10, 10, 0, 0) := rfl
theorem t116_16 : sm_at 116 16 = some (3, .invokevirtual 161, 57, 2, 0) := rfl
theorem t116_19 : sm_at 116 19 = some (1, .aload_n 0, 0, 0, 0) := rfl
theorem t116_20 : sm_at 116 20 = some (3, .getfield 22, 10, 3, 0) := rfl
theorem t116_23 : sm_at 116 23 = some (1, .aload_n 0, 0, 0, 0) := rfl
theorem t116_24 : sm_at 116 24 = some (3, .getfield 10, 10, 0, 0) := rfl
theorem t116_27 : sm_at 116 27 = some (1, .aload_n 0, 0, 0, 0) := rfl
theorem t116_28 : sm_at 116 28 = some (3, .getfield 10, 10, 0, 0) := rfl
theorem t116_31 : sm_at 116 31 = some (3, .getfield 174, 1, 18, 0) := rfl
theorem t116_34 : sm_at 116 34 = some (3, .invokevirtual 297, 60, 3, 0) := rfl
theorem t116_37 : sm_at 116 37 = some (1, .aload_n 0, 0, 0, 0) := rfl
theorem t116_38 : sm_at 116 38 = some (3, .getfield 22, 10, 3, 0) := rfl
theorem t116_41 : sm_at 116 41 = some (3, .getfield 170, 7, 1, 0) := rfl
theorem t116_44 : sm_at 116 44 = some (1, .aload_n 0, 0, 0, 0) := rfl
theorem t116_45 : sm_at 116 45 = some (3, .getfield 10, 10, 0, 0) := rfl
theorem t116_48 : sm_at 116 48 = some (1, .aload_n 0, 0, 0, 0) := rfl
theorem t116_49 : sm_at 116 49 = some (3, .getfield 10, 10, 0, 0) := rfl
theorem t116_52 : sm_at 116 52 = some (3, .getfield 174, 1, 18, 0) := rfl
theorem t116_55 : sm_at 116 55 = some (3, .invokevirtual 178, 1, 3, 0) := rfl
theorem t116_58 : sm_at 116 58 = some (1, .aload_n 0, 0, 0, 0) := rfl
theorem t116_59 : sm_at 116 59 = some (3, .getfield 10, 10, 0, 0) := rfl
theorem t116_62 : sm_at 116 62 = some (1, .aload_n 0, 0, 0, 0) := rfl
theorem t116_63 : sm_at 116 63 = some (3, .getfield 22, 10, 3, 0) := rfl
theorem t116_66 : sm_at 116 66 = some (3, .getfield 170, 7, 1, 0) := rfl
theorem t116_69 : sm_at 116 69 = some (3, .invokevirtual 300, 20, 2, 0) := rfl
theorem t116_72 : sm_at 116 72 = some (1, .aload_n 0, 0, 0, 0) := rfl
theorem t116_73 : sm_at 116 73 = some (3, .getfield 22, 10, 3, 0) := rfl
theorem t116_76 : sm_at 116 76 = some (3, .getfield 170, 7, 1, 0) := rfl
theorem t116_79 : sm_at 116 79 = some (3, .getfield 288, 0, 3, 0) := rfl
theorem t116_82 : sm_at 116 82 = some (1, .ireturn, 0, 0, 0) := rfl
set_option maxRecDepth 10000 in
theorem b116_0 {d : Nat} {r0 : Nat} {Z : Nat → Nat → Int} {Rf : Nat → Nat → Option Nat} {K : Nat → Nat × Nat} {n z : Nat} {Q : Option sm_V → sm_S → Prop} : sm_wp (d + 1) 116 0 [some (.inr (some r0))] [] (Z, Rf, K, n, z) Q = ((K r0).1 = 10 ∧ (K r0).1 = 10 ∧ (Rf r0 3).isSome = true ∧ (K (((Rf r0 3).getD 0))).1 = 7 ∧ (Rf (((Rf r0 3).getD 0)) 0).isSome = true ∧ (K r0).1 = 10 ∧ (Rf r0 0).isSome = true ∧ (K (((Rf (((Rf r0 3).getD 0)) 0).getD 0))).1 = 6 ∧ sm_call d 57 [.inr (some ((Rf (((Rf r0 3).getD 0)) 0).getD 0)), .inr (some ((Rf r0 0).getD 0))] (sm_u Z r0 12 0, Rf, K, n, z) (sm_cont (d + 1) 116 19 [some (.inr (some r0))] [] Q)) := (w_aload_n t116_0 rfl rfl).trans ((w_iconst t116_1 rfl).trans ((w_putI t116_2 rfl (by decide)).trans (congrArg (And _) ((w_aload_n t116_5 rfl rfl).trans ((w_getR t116_6 rfl (by decide)).trans (congrArg (And _) (congrArg (And _) ((w_getR t116_9 rfl (by decide)).trans (congrArg (And _) (congrArg (And _) ((w_aload_n t116_12 rfl rfl).trans ((w_getR t116_13 rfl (by decide)).trans (congrArg (And _) (congrArg (And _) (w_callV t116_16 rfl rfl rfl rfl (Nat.le_of_ble_eq_true rfl) (Nat.le_of_ble_eq_true rfl) rfl (by decide))))))))))))))))
set_option maxRecDepth 10000 in
theorem b116_19 {d : Nat} {r0 : Nat} {Z : Nat → Nat → Int} {Rf : Nat → Nat → Option Nat} {K : Nat → Nat × Nat} {n z : Nat} {Q : Option sm_V → sm_S → Prop} : sm_wp (d + 1) 116 19 [some (.inr (some r0))] [] (Z, Rf, K, n, z) Q = ((K r0).1 = 10 ∧ (Rf r0 3).isSome = true ∧ (K r0).1 = 10 ∧ (Rf r0 0).isSome = true ∧ (K r0).1 = 10 ∧ (Rf r0 0).isSome = true ∧ (K (((Rf r0 0).getD 0))).1 = 1 ∧ (Rf (((Rf r0 0).getD 0)) 18).isSome = true ∧ (K (((Rf r0 3).getD 0))).1 = 7 ∧ sm_call d 60 [.inr (some ((Rf r0 3).getD 0)), .inr (some ((Rf r0 0).getD 0)), .inr (some ((Rf (((Rf r0 0).getD 0)) 18).getD 0))] (Z, Rf, K, n, z) (sm_cont (d + 1) 116 37 [some (.inr (some r0))] [] Q)) := (w_aload_n t116_19 rfl rfl).trans ((w_getR t116_20 rfl (by decide)).trans (congrArg (And _) (congrArg (And _) ((w_aload_n t116_23 rfl rfl).trans ((w_getR t116_24 rfl (by decide)).trans (congrArg (And _) (congrArg (And _) ((w_aload_n t116_27 rfl rfl).trans ((w_getR t116_28 rfl (by decide)).trans (congrArg (And _) (congrArg (And _) ((w_getR t116_31 rfl (by decide)).trans (congrArg (And _) (congrArg (And _) (w_callV t116_34 rfl rfl rfl rfl (Nat.le_of_ble_eq_true rfl) (Nat.le_of_ble_eq_true rfl) rfl (by decide))))))))))))))))
set_option maxRecDepth 10000 in
theorem b116_37 {d : Nat} {r0 : Nat} {Z : Nat → Nat → Int} {Rf : Nat → Nat → Option Nat} {K : Nat → Nat × Nat} {n z : Nat} {Q : Option sm_V → sm_S → Prop} : sm_wp (d + 1) 116 37 [some (.inr (some r0))] [] (Z, Rf, K, n, z) Q = ((K r0).1 = 10 ∧ (Rf r0 3).isSome = true ∧ (K (((Rf r0 3).getD 0))).1 = 7 ∧ (Rf (((Rf r0 3).getD 0)) 1).isSome = true ∧ (K r0).1 = 10 ∧ (Rf r0 0).isSome = true ∧ (K r0).1 = 10 ∧ (Rf r0 0).isSome = true ∧ (K (((Rf r0 0).getD 0))).1 = 1 ∧ (Rf (((Rf r0 0).getD 0)) 18).isSome = true ∧ (K (((Rf (((Rf r0 3).getD 0)) 1).getD 0))).1 = 0 ∧ sm_call d 1 [.inr (some ((Rf (((Rf r0 3).getD 0)) 1).getD 0)), .inr (some ((Rf r0 0).getD 0)), .inr (some ((Rf (((Rf r0 0).getD 0)) 18).getD 0))] (Z, Rf, K, n, z) (sm_cont (d + 1) 116 58 [some (.inr (some r0))] [] Q)) := (w_aload_n t116_37 rfl rfl).trans ((w_getR t116_38 rfl (by decide)).trans (congrArg (And _) (congrArg (And _) ((w_getR t116_41 rfl (by decide)).trans (congrArg (And _) (congrArg (And _) ((w_aload_n t116_44 rfl rfl).trans ((w_getR t116_45 rfl (by decide)).trans (congrArg (And _) (congrArg (And _) ((w_aload_n t116_48 rfl rfl).trans ((w_getR t116_49 rfl (by decide)).trans (congrArg (And _) (congrArg (And _) ((w_getR t116_52 rfl (by decide)).trans (congrArg (And _) (congrArg (And _) (w_callV t116_55 rfl rfl rfl rfl (Nat.le_of_ble_eq_true rfl) (Nat.le_of_ble_eq_true rfl) rfl (by decide)))))))))))))))))))
set_option maxRecDepth 10000 in
theorem b116_58 {d : Nat} {r0 : Nat} {Z : Nat → Nat → Int} {Rf : Nat → Nat → Option Nat} {K : Nat → Nat × Nat} {n z : Nat} {Q : Option sm_V → sm_S → Prop} : sm_wp (d + 1) 116 58 [some (.inr (some r0))] [] (Z, Rf, K, n, z) Q = ((K r0).1 = 10 ∧ (Rf r0 0).isSome = true ∧ (K r0).1 = 10 ∧ (Rf r0 3).isSome = true ∧ (K (((Rf r0 3).getD 0))).1 = 7 ∧ (Rf (((Rf r0 3).getD 0)) 1).isSome = true ∧ (K (((Rf r0 0).getD 0))).1 = 1 ∧ sm_call d 20 [.inr (some ((Rf r0 0).getD 0)), .inr (some ((Rf (((Rf r0 3).getD 0)) 1).getD 0))] (Z, Rf, K, n, z) (sm_cont (d + 1) 116 72 [some (.inr (some r0))] [] Q)) := (w_aload_n t116_58 rfl rfl).trans ((w_getR t116_59 rfl (by decide)).trans (congrArg (And _) (congrArg (And _) ((w_aload_n t116_62 rfl rfl).trans ((w_getR t116_63 rfl (by decide)).trans (congrArg (And _) (congrArg (And _) ((w_getR t116_66 rfl (by decide)).trans (congrArg (And _) (congrArg (And _) (w_callV t116_69 rfl rfl rfl rfl (Nat.le_of_ble_eq_true rfl) (Nat.le_of_ble_eq_true rfl) rfl (by decide))))))))))))
set_option maxRecDepth 10000 in
theorem b116_72 {d : Nat} {r0 : Nat} {Z : Nat → Nat → Int} {Rf : Nat → Nat → Option Nat} {K : Nat → Nat × Nat} {n z : Nat} {Q : Option sm_V → sm_S → Prop} : sm_wp d 116 72 [some (.inr (some r0))] [] (Z, Rf, K, n, z) Q = ((K r0).1 = 10 ∧ (Rf r0 3).isSome = true ∧ (K (((Rf r0 3).getD 0))).1 = 7 ∧ (Rf (((Rf r0 3).getD 0)) 1).isSome = true ∧ (K (((Rf (((Rf r0 3).getD 0)) 1).getD 0))).1 = 0 ∧ Q (some (.inl (Z (((Rf (((Rf r0 3).getD 0)) 1).getD 0)) 3))) (Z, Rf, K, n, z)) := (w_aload_n t116_72 rfl rfl).trans ((w_getR t116_73 rfl (by decide)).trans (congrArg (And _) (congrArg (And _) ((w_getR t116_76 rfl (by decide)).trans (congrArg (And _) (congrArg (And _) ((w_getI t116_79 rfl (by decide)).trans (congrArg (And _) (w_iret t116_82)))))))))
theorem t117_0 : sm_at 117 0 = some (1, .aload_n 0, 0, 0, 0) := rfl
theorem t117_1 : sm_at 117 1 = some (3, .invokespecial 1, 1001, 1, 0) := rfl
theorem t117_4 : sm_at 117 4 = some (1, .aload_n 0, 0, 0, 0) := rfl
theorem t117_5 : sm_at 117 5 = some (3, .sipush 5480, 0, 0, 0) := rfl
theorem t117_8 : sm_at 117 8 = some (2, .newarray .int, 0, 0, 0) := rfl
theorem t117_10 : sm_at 117 10 = some (3, .putfield 7, 11, 0, 0) := rfl
theorem t117_13 : sm_at 117 13 = some (1, .aload_n 0, 0, 0, 0) := rfl
theorem t117_14 : sm_at 117 14 = some (3, .sipush 5480, 0, 0, 0) := rfl
theorem t117_17 : sm_at 117 17 = some (2, .newarray .int, 0, 0, 0) := rfl
theorem t117_19 : sm_at 117 19 = some (3, .putfield 13, 11, 1, 0) := rfl
theorem t117_22 : sm_at 117 22 = some (1, .aload_n 0, 0, 0, 0) := rfl
theorem t117_23 : sm_at 117 23 = some (3, .sipush 1340, 0, 0, 0) := rfl
theorem t117_26 : sm_at 117 26 = some (2, .newarray .int, 0, 0, 0) := rfl
theorem t117_28 : sm_at 117 28 = some (3, .putfield 16, 11, 2, 0) := rfl
theorem t117_31 : sm_at 117 31 = some (1, .aload_n 0, 0, 0, 0) := rfl
theorem t117_32 : sm_at 117 32 = some (2, .bipush 20, 0, 0, 0) := rfl
theorem t117_34 : sm_at 117 34 = some (2, .newarray .int, 0, 0, 0) := rfl
theorem t117_36 : sm_at 117 36 = some (3, .putfield 19, 11, 3, 0) := rfl
theorem t117_39 : sm_at 117 39 = some (1, .aload_n 0, 0, 0, 0) := rfl
theorem t117_40 : sm_at 117 40 = some (2, .bipush 48, 0, 0, 0) := rfl
theorem t117_42 : sm_at 117 42 = some (2, .newarray .int, 0, 0, 0) := rfl
theorem t117_44 : sm_at 117 44 = some (3, .putfield 22, 11, 7, 0) := rfl
theorem t117_47 : sm_at 117 47 = some (1, .aload_n 0, 0, 0, 0) := rfl
theorem t117_48 : sm_at 117 48 = some (3, .sipush 820, 0, 0, 0) := rfl
theorem t117_51 : sm_at 117 51 = some (2, .newarray .int, 0, 0, 0) := rfl
theorem t117_53 : sm_at 117 53 = some (3, .putfield 25, 11, 8, 0) := rfl
theorem t117_56 : sm_at 117 56 = some (1, .aload_n 0, 0, 0, 0) := rfl
theorem t117_57 : sm_at 117 57 = some (3, .sipush 400, 0, 0, 0) := rfl
theorem t117_60 : sm_at 117 60 = some (2, .newarray .int, 0, 0, 0) := rfl
theorem t117_62 : sm_at 117 62 = some (3, .putfield 28, 11, 9, 0) := rfl
theorem t117_65 : sm_at 117 65 = some (1, .aload_n 0, 0, 0, 0) := rfl
theorem t117_66 : sm_at 117 66 = some (3, .sipush 420, 0, 0, 0) := rfl
theorem t117_69 : sm_at 117 69 = some (2, .newarray .int, 0, 0, 0) := rfl
theorem t117_71 : sm_at 117 71 = some (3, .putfield 31, 11, 10, 0) := rfl
theorem t117_74 : sm_at 117 74 = some (1, .aload_n 0, 0, 0, 0) := rfl
theorem t117_75 : sm_at 117 75 = some (2, .bipush 10, 0, 0, 0) := rfl
theorem t117_77 : sm_at 117 77 = some (2, .newarray .int, 0, 0, 0) := rfl
theorem t117_79 : sm_at 117 79 = some (3, .putfield 34, 11, 11, 0) := rfl
theorem t117_82 : sm_at 117 82 = some (1, .aload_n 0, 0, 0, 0) := rfl
theorem t117_83 : sm_at 117 83 = some (1, .iconst (-1), 0, 0, 0) := rfl
theorem t117_84 : sm_at 117 84 = some (3, .putfield 37, 11, 23, 0) := rfl
theorem t117_87 : sm_at 117 87 = some (1, .aload_n 0, 0, 0, 0) := rfl
theorem t117_88 : sm_at 117 88 = some (2, .bipush 8, 0, 0, 0) := rfl
theorem t117_90 : sm_at 117 90 = some (2, .newarray .int, 0, 0, 0) := rfl
theorem t117_92 : sm_at 117 92 = some (3, .putfield 41, 11, 24, 0) := rfl
theorem t117_95 : sm_at 117 95 = some (1, .aload_n 0, 0, 0, 0) := rfl
theorem t117_96 : sm_at 117 96 = some (2, .bipush 8, 0, 0, 0) := rfl
theorem t117_98 : sm_at 117 98 = some (2, .newarray .int, 0, 0, 0) := rfl
theorem t117_100 : sm_at 117 100 = some (3, .putfield 44, 11, 25, 0) := rfl
theorem t117_103 : sm_at 117 103 = some (1, .aload_n 0, 0, 0, 0) := rfl
theorem t117_104 : sm_at 117 104 = some (2, .bipush 8, 0, 0, 0) := rfl
theorem t117_106 : sm_at 117 106 = some (2, .newarray .int, 0, 0, 0) := rfl
theorem t117_108 : sm_at 117 108 = some (3, .putfield 47, 11, 26, 0) := rfl
theorem t117_111 : sm_at 117 111 = some (1, .aload_n 0, 0, 0, 0) := rfl
theorem t117_112 : sm_at 117 112 = some (2, .bipush 8, 0, 0, 0) := rfl
theorem t117_114 : sm_at 117 114 = some (2, .newarray .int, 0, 0, 0) := rfl
theorem t117_116 : sm_at 117 116 = some (3, .putfield 50, 11, 27, 0) := rfl
theorem t117_119 : sm_at 117 119 = some (1, .aload_n 0, 0, 0, 0) := rfl
theorem t117_120 : sm_at 117 120 = some (2, .bipush 100, 0, 0, 0) := rfl
theorem t117_122 : sm_at 117 122 = some (2, .newarray .int, 0, 0, 0) := rfl
set_option maxRecDepth 100000 in
theorem t117_124 : sm_at 117 124 = some (3, .putfield 53, 11, 28, 0) := rfl
set_option maxRecDepth 100000 in
theorem t117_127 : sm_at 117 127 = some (1, .aload_n 0, 0, 0, 0) := rfl
set_option maxRecDepth 100000 in
theorem t117_128 : sm_at 117 128 = some (2, .bipush 100, 0, 0, 0) := rfl
set_option maxRecDepth 100000 in
theorem t117_130 : sm_at 117 130 = some (2, .newarray .int, 0, 0, 0) := rfl
set_option maxRecDepth 100000 in
theorem t117_132 : sm_at 117 132 = some (3, .putfield 56, 11, 29, 0) := rfl
set_option maxRecDepth 100000 in
theorem t117_135 : sm_at 117 135 = some (1, .aload_n 0, 0, 0, 0) := rfl
set_option maxRecDepth 100000 in
theorem t117_136 : sm_at 117 136 = some (3, .sipush 400, 0, 0, 0) := rfl
set_option maxRecDepth 100000 in
theorem t117_139 : sm_at 117 139 = some (2, .newarray .int, 0, 0, 0) := rfl
set_option maxRecDepth 100000 in
theorem t117_141 : sm_at 117 141 = some (3, .putfield 59, 11, 35, 0) := rfl
set_option maxRecDepth 100000 in
theorem t117_144 : sm_at 117 144 = some (1, .aload_n 0, 0, 0, 0) := rfl
set_option maxRecDepth 100000 in
theorem t117_145 : sm_at 117 145 = some (2, .bipush 100, 0, 0, 0) := rfl
set_option maxRecDepth 100000 in
theorem t117_147 : sm_at 117 147 = some (2, .newarray .int, 0, 0, 0) := rfl
set_option maxRecDepth 100000 in
theorem t117_149 : sm_at 117 149 = some (3, .putfield 62, 11, 36, 0) := rfl
set_option maxRecDepth 100000 in
theorem t117_152 : sm_at 117 152 = some (1, .aload_n 0, 0, 0, 0) := rfl
set_option maxRecDepth 100000 in
theorem t117_153 : sm_at 117 153 = some (2, .bipush 6, 0, 0, 0) := rfl
set_option maxRecDepth 100000 in
theorem t117_155 : sm_at 117 155 = some (2, .bipush 6, 0, 0, 0) := rfl
set_option maxRecDepth 100000 in
theorem t117_157 : sm_at 117 157 = some (3, .invokevirtual 65, 118, 3, 0) := rfl
set_option maxRecDepth 100000 in
theorem t117_160 : sm_at 117 160 = some (1, .return_, 0, 0, 0) := rfl
set_option maxRecDepth 10000 in
theorem b117_0 {d : Nat} {r0 : Nat} {Z : Nat → Nat → Int} {Rf : Nat → Nat → Option Nat} {K : Nat → Nat × Nat} {n z : Nat} {Q : Option sm_V → sm_S → Prop} : sm_wp (d + 1) 117 0 [some (.inr (some r0))] [] (Z, Rf, K, n, z) Q = ((n < 1000000 ∧ 0 ≤ (5480 : Int) ∧ (5480 : Int) ≤ 65536) ∧ ((sm_k K n (100, 5480)) r0).1 = 11 ∧ (n + 1 < 1000000 ∧ 0 ≤ (5480 : Int) ∧ (5480 : Int) ≤ 65536) ∧ ((sm_k (sm_k K n (100, 5480)) (n + 1) (100, 5480)) r0).1 = 11 ∧ (n + 1 + 1 < 1000000 ∧ 0 ≤ (1340 : Int) ∧ (1340 : Int) ≤ 65536) ∧ ((sm_k (sm_k (sm_k K n (100, 5480)) (n + 1) (100, 5480)) (n + 1 + 1) (100, 1340)) r0).1 = 11 ∧ (n + 1 + 1 + 1 < 1000000 ∧ 0 ≤ (20 : Int) ∧ (20 : Int) ≤ 65536) ∧ ((sm_k (sm_k (sm_k (sm_k K n (100, 5480)) (n + 1) (100, 5480)) (n + 1 + 1) (100, 1340)) (n + 1 + 1 + 1) (100, 20)) r0).1 = 11 ∧ (n + 1 + 1 + 1 + 1 < 1000000 ∧ 0 ≤ (48 : Int) ∧ (48 : Int) ≤ 65536) ∧ ((sm_k (sm_k (sm_k (sm_k (sm_k K n (100, 5480)) (n + 1) (100, 5480)) (n + 1 + 1) (100, 1340)) (n + 1 + 1 + 1) (100, 20)) (n + 1 + 1 + 1 + 1) (100, 48)) r0).1 = 11 ∧ (n + 1 + 1 + 1 + 1 + 1 < 1000000 ∧ 0 ≤ (820 : Int) ∧ (820 : Int) ≤ 65536) ∧ ((sm_k (sm_k (sm_k (sm_k (sm_k (sm_k K n (100, 5480)) (n + 1) (100, 5480)) (n + 1 + 1) (100, 1340)) (n + 1 + 1 + 1) (100, 20)) (n + 1 + 1 + 1 + 1) (100, 48)) (n + 1 + 1 + 1 + 1 + 1) (100, 820)) r0).1 = 11 ∧ (n + 1 + 1 + 1 + 1 + 1 + 1 < 1000000 ∧ 0 ≤ (400 : Int) ∧ (400 : Int) ≤ 65536) ∧ ((sm_k (sm_k (sm_k (sm_k (sm_k (sm_k (sm_k K n (100, 5480)) (n + 1) (100, 5480)) (n + 1 + 1) (100, 1340)) (n + 1 + 1 + 1) (100, 20)) (n + 1 + 1 + 1 + 1) (100, 48)) (n + 1 + 1 + 1 + 1 + 1) (100, 820)) (n + 1 + 1 + 1 + 1 + 1 + 1) (100, 400)) r0).1 = 11 ∧ (n + 1 + 1 + 1 + 1 + 1 + 1 + 1 < 1000000 ∧ 0 ≤ (420 : Int) ∧ (420 : Int) ≤ 65536) ∧ ((sm_k (sm_k (sm_k (sm_k (sm_k (sm_k (sm_k (sm_k K n (100, 5480)) (n + 1) (100, 5480)) (n + 1 + 1) (100, 1340)) (n + 1 + 1 + 1) (100, 20)) (n + 1 + 1 + 1 + 1) (100, 48)) (n + 1 + 1 + 1 + 1 + 1) (100, 820)) (n + 1 + 1 + 1 + 1 + 1 + 1) (100, 400)) (n + 1 + 1 + 1 + 1 + 1 + 1 + 1) (100, 420)) r0).1 = 11 ∧ (n + 1 + 1 + 1 + 1 + 1 + 1 + 1 + 1 < 1000000 ∧ 0 ≤ (10 : Int) ∧ (10 : Int) ≤ 65536) ∧ ((sm_k (sm_k (sm_k (sm_k (sm_k (sm_k (sm_k (sm_k (sm_k K n (100, 5480)) (n + 1) (100, 5480)) (n + 1 + 1) (100, 1340)) (n + 1 + 1 + 1) (100, 20)) (n + 1 + 1 + 1 + 1) (100, 48)) (n + 1 + 1 + 1 + 1 + 1) (100, 820)) (n + 1 + 1 + 1 + 1 + 1 + 1) (100, 400)) (n + 1 + 1 + 1 + 1 + 1 + 1 + 1) (100, 420)) (n + 1 + 1 + 1 + 1 + 1 + 1 + 1 + 1) (100, 10)) r0).1 = 11 ∧ ((sm_k (sm_k (sm_k (sm_k (sm_k (sm_k (sm_k (sm_k (sm_k K n (100, 5480)) (n + 1) (100, 5480)) (n + 1 + 1) (100, 1340)) (n + 1 + 1 + 1) (100, 20)) (n + 1 + 1 + 1 + 1) (100, 48)) (n + 1 + 1 + 1 + 1 + 1) (100, 820)) (n + 1 + 1 + 1 + 1 + 1 + 1) (100, 400)) (n + 1 + 1 + 1 + 1 + 1 + 1 + 1) (100, 420)) (n + 1 + 1 + 1 + 1 + 1 + 1 + 1 + 1) (100, 10)) r0).1 = 11 ∧ (n + 1 + 1 + 1 + 1 + 1 + 1 + 1 + 1 + 1 < 1000000 ∧ 0 ≤ (8 : Int) ∧ (8 : Int) ≤ 65536) ∧ ((sm_k (sm_k (sm_k (sm_k (sm_k (sm_k (sm_k (sm_k (sm_k (sm_k K n (100, 5480)) (n + 1) (100, 5480)) (n + 1 + 1) (100, 1340)) (n + 1 + 1 + 1) (100, 20)) (n + 1 + 1 + 1 + 1) (100, 48)) (n + 1 + 1 + 1 + 1 + 1) (100, 820)) (n + 1 + 1 + 1 + 1 + 1 + 1) (100, 400)) (n + 1 + 1 + 1 + 1 + 1 + 1 + 1) (100, 420)) (n + 1 + 1 + 1 + 1 + 1 + 1 + 1 + 1) (100, 10)) (n + 1 + 1 + 1 + 1 + 1 + 1 + 1 + 1 + 1) (100, 8)) r0).1 = 11 ∧ (n + 1 + 1 + 1 + 1 + 1 + 1 + 1 + 1 + 1 + 1 < 1000000 ∧ 0 ≤ (8 : Int) ∧ (8 : Int) ≤ 65536) ∧ ((sm_k (sm_k (sm_k (sm_k (sm_k (sm_k (sm_k (sm_k (sm_k (sm_k (sm_k K n (100, 5480)) (n + 1) (100, 5480)) (n + 1 + 1) (100, 1340)) (n + 1 + 1 + 1) (100, 20)) (n + 1 + 1 + 1 + 1) (100, 48)) (n + 1 + 1 + 1 + 1 + 1) (100, 820)) (n + 1 + 1 + 1 + 1 + 1 + 1) (100, 400)) (n + 1 + 1 + 1 + 1 + 1 + 1 + 1) (100, 420)) (n + 1 + 1 + 1 + 1 + 1 + 1 + 1 + 1) (100, 10)) (n + 1 + 1 + 1 + 1 + 1 + 1 + 1 + 1 + 1) (100, 8)) (n + 1 + 1 + 1 + 1 + 1 + 1 + 1 + 1 + 1 + 1) (100, 8)) r0).1 = 11 ∧ (n + 1 + 1 + 1 + 1 + 1 + 1 + 1 + 1 + 1 + 1 + 1 < 1000000 ∧ 0 ≤ (8 : Int) ∧ (8 : Int) ≤ 65536) ∧ ((sm_k (sm_k (sm_k (sm_k (sm_k (sm_k (sm_k (sm_k (sm_k (sm_k (sm_k (sm_k K n (100, 5480)) (n + 1) (100, 5480)) (n + 1 + 1) (100, 1340)) (n + 1 + 1 + 1) (100, 20)) (n + 1 + 1 + 1 + 1) (100, 48)) (n + 1 + 1 + 1 + 1 + 1) (100, 820)) (n + 1 + 1 + 1 + 1 + 1 + 1) (100, 400)) (n + 1 + 1 + 1 + 1 + 1 + 1 + 1) (100, 420)) (n + 1 + 1 + 1 + 1 + 1 + 1 + 1 + 1) (100, 10)) (n + 1 + 1 + 1 + 1 + 1 + 1 + 1 + 1 + 1) (100, 8)) (n + 1 + 1 + 1 + 1 + 1 + 1 + 1 + 1 + 1 + 1) (100, 8)) (n + 1 + 1 + 1 + 1 + 1 + 1 + 1 + 1 + 1 + 1 + 1) (100, 8)) r0).1 = 11 ∧ (n + 1 + 1 + 1 + 1 + 1 + 1 + 1 + 1 + 1 + 1 + 1 + 1 < 1000000 ∧ 0 ≤ (8 : Int) ∧ (8 : Int) ≤ 65536) ∧ ((sm_k (sm_k (sm_k (sm_k (sm_k (sm_k (sm_k (sm_k (sm_k (sm_k (sm_k (sm_k (sm_k K n (100, 5480)) (n + 1) (100, 5480)) (n + 1 + 1) (100, 1340)) (n + 1 + 1 + 1) (100, 20)) (n + 1 + 1 + 1 + 1) (100, 48)) (n + 1 + 1 + 1 + 1 + 1) (100, 820)) (n + 1 + 1 + 1 + 1 + 1 + 1) (100, 400)) (n + 1 + 1 + 1 + 1 + 1 + 1 + 1) (100, 420)) (n + 1 + 1 + 1 + 1 + 1 + 1 + 1 + 1) (100, 10)) (n + 1 + 1 + 1 + 1 + 1 + 1 + 1 + 1 + 1) (100, 8)) (n + 1 + 1 + 1 + 1 + 1 + 1 + 1 + 1 + 1 + 1) (100, 8)) (n + 1 + 1 + 1 + 1 + 1 + 1 + 1 + 1 + 1 + 1 + 1) (100, 8)) (n + 1 + 1 + 1 + 1 + 1 + 1 + 1 + 1 + 1 + 1 + 1 + 1) (100, 8)) r0).1 = 11 ∧ (n + 1 + 1 + 1 + 1 + 1 + 1 + 1 + 1 + 1 + 1 + 1 + 1 + 1 < 1000000 ∧ 0 ≤ (100 : Int) ∧ (100 : Int) ≤ 65536) ∧ ((sm_k (sm_k (sm_k (sm_k (sm_k (sm_k (sm_k (sm_k (sm_k (sm_k (sm_k (sm_k (sm_k (sm_k K n (100, 5480)) (n + 1) (100, 5480)) (n + 1 + 1) (100, 1340)) (n + 1 + 1 + 1) (100, 20)) (n + 1 + 1 + 1 + 1) (100, 48)) (n + 1 + 1 + 1 + 1 + 1) (100, 820)) (n + 1 + 1 + 1 + 1 + 1 + 1) (100, 400)) (n + 1 + 1 + 1 + 1 + 1 + 1 + 1) (100, 420)) (n + 1 + 1 + 1 + 1 + 1 + 1 + 1 + 1) (100, 10)) (n + 1 + 1 + 1 + 1 + 1 + 1 + 1 + 1 + 1) (100, 8)) (n + 1 + 1 + 1 + 1 + 1 + 1 + 1 + 1 + 1 + 1) (100, 8)) (n + 1 + 1 + 1 + 1 + 1 + 1 + 1 + 1 + 1 + 1 + 1) (100, 8)) (n + 1 + 1 + 1 + 1 + 1 + 1 + 1 + 1 + 1 + 1 + 1 + 1) (100, 8)) (n + 1 + 1 + 1 + 1 + 1 + 1 + 1 + 1 + 1 + 1 + 1 + 1 + 1) (100, 100)) r0).1 = 11 ∧ (n + 1 + 1 + 1 + 1 + 1 + 1 + 1 + 1 + 1 + 1 + 1 + 1 + 1 + 1 < 1000000 ∧ 0 ≤ (100 : Int) ∧ (100 : Int) ≤ 65536) ∧ ((sm_k (sm_k (sm_k (sm_k (sm_k (sm_k (sm_k (sm_k (sm_k (sm_k (sm_k (sm_k (sm_k (sm_k (sm_k K n (100, 5480)) (n + 1) (100, 5480)) (n + 1 + 1) (100, 1340)) (n + 1 + 1 + 1) (100, 20)) (n + 1 + 1 + 1 + 1) (100, 48)) (n + 1 + 1 + 1 + 1 + 1) (100, 820)) (n + 1 + 1 + 1 + 1 + 1 + 1) (100, 400)) (n + 1 + 1 + 1 + 1 + 1 + 1 + 1) (100, 420)) (n + 1 + 1 + 1 + 1 + 1 + 1 + 1 + 1) (100, 10)) (n + 1 + 1 + 1 + 1 + 1 + 1 + 1 + 1 + 1) (100, 8)) (n + 1 + 1 + 1 + 1 + 1 + 1 + 1 + 1 + 1 + 1) (100, 8)) (n + 1 + 1 + 1 + 1 + 1 + 1 + 1 + 1 + 1 + 1 + 1) (100, 8)) (n + 1 + 1 + 1 + 1 + 1 + 1 + 1 + 1 + 1 + 1 + 1 + 1) (100, 8)) (n + 1 + 1 + 1 + 1 + 1 + 1 + 1 + 1 + 1 + 1 + 1 + 1 + 1) (100, 100)) (n + 1 + 1 + 1 + 1 + 1 + 1 + 1 + 1 + 1 + 1 + 1 + 1 + 1 + 1) (100, 100)) r0).1 = 11 ∧ (n + 1 + 1 + 1 + 1 + 1 + 1 + 1 + 1 + 1 + 1 + 1 + 1 + 1 + 1 + 1 < 1000000 ∧ 0 ≤ (400 : Int) ∧ (400 : Int) ≤ 65536) ∧ ((sm_k (sm_k (sm_k (sm_k (sm_k (sm_k (sm_k (sm_k (sm_k (sm_k (sm_k (sm_k (sm_k (sm_k (sm_k (sm_k K n (100, 5480)) (n + 1) (100, 5480)) (n + 1 + 1) (100, 1340)) (n + 1 + 1 + 1) (100, 20)) (n + 1 + 1 + 1 + 1) (100, 48)) (n + 1 + 1 + 1 + 1 + 1) (100, 820)) (n + 1 + 1 + 1 + 1 + 1 + 1) (100, 400)) (n + 1 + 1 + 1 + 1 + 1 + 1 + 1) (100, 420)) (n + 1 + 1 + 1 + 1 + 1 + 1 + 1 + 1) (100, 10)) (n + 1 + 1 + 1 + 1 + 1 + 1 + 1 + 1 + 1) (100, 8)) (n + 1 + 1 + 1 + 1 + 1 + 1 + 1 + 1 + 1 + 1) (100, 8)) (n + 1 + 1 + 1 + 1 + 1 + 1 + 1 + 1 + 1 + 1 + 1) (100, 8)) (n + 1 + 1 + 1 + 1 + 1 + 1 + 1 + 1 + 1 + 1 + 1 + 1) (100, 8)) (n + 1 + 1 + 1 + 1 + 1 + 1 + 1 + 1 + 1 + 1 + 1 + 1 + 1) (100, 100)) (n + 1 + 1 + 1 + 1 + 1 + 1 + 1 + 1 + 1 + 1 + 1 + 1 + 1 + 1) (100, 100)) (n + 1 + 1 + 1 + 1 + 1 + 1 + 1 + 1 + 1 + 1 + 1 + 1 + 1 + 1 + 1) (100, 400)) r0).1 = 11 ∧ (n + 1 + 1 + 1 + 1 + 1 + 1 + 1 + 1 + 1 + 1 + 1 + 1 + 1 + 1 + 1 + 1 < 1000000 ∧ 0 ≤ (100 : Int) ∧ (100 : Int) ≤ 65536) ∧ ((sm_k (sm_k (sm_k (sm_k (sm_k (sm_k (sm_k (sm_k (sm_k (sm_k (sm_k (sm_k (sm_k (sm_k (sm_k (sm_k (sm_k K n (100, 5480)) (n + 1) (100, 5480)) (n + 1 + 1) (100, 1340)) (n + 1 + 1 + 1) (100, 20)) (n + 1 + 1 + 1 + 1) (100, 48)) (n + 1 + 1 + 1 + 1 + 1) (100, 820)) (n + 1 + 1 + 1 + 1 + 1 + 1) (100, 400)) (n + 1 + 1 + 1 + 1 + 1 + 1 + 1) (100, 420)) (n + 1 + 1 + 1 + 1 + 1 + 1 + 1 + 1) (100, 10)) (n + 1 + 1 + 1 + 1 + 1 + 1 + 1 + 1 + 1) (100, 8)) (n + 1 + 1 + 1 + 1 + 1 + 1 + 1 + 1 + 1 + 1) (100, 8)) (n + 1 + 1 + 1 + 1 + 1 + 1 + 1 + 1 + 1 + 1 + 1) (100, 8)) (n + 1 + 1 + 1 + 1 + 1 + 1 + 1 + 1 + 1 + 1 + 1 + 1) (100, 8)) (n + 1 + 1 + 1 + 1 + 1 + 1 + 1 + 1 + 1 + 1 + 1 + 1 + 1) (100, 100)) (n + 1 + 1 + 1 + 1 + 1 + 1 + 1 + 1 + 1 + 1 + 1 + 1 + 1 + 1) (100, 100)) (n + 1 + 1 + 1 + 1 + 1 + 1 + 1 + 1 + 1 + 1 + 1 + 1 + 1 + 1 + 1) (100, 400)) (n + 1 + 1 + 1 + 1 + 1 + 1 + 1 + 1 + 1 + 1 + 1 + 1 + 1 + 1 + 1 + 1) (100, 100)) r0).1 = 11 ∧ ((sm_k (sm_k (sm_k (sm_k (sm_k (sm_k (sm_k (sm_k (sm_k (sm_k (sm_k (sm_k (sm_k (sm_k (sm_k (sm_k (sm_k K n (100, 5480)) (n + 1) (100, 5480)) (n + 1 + 1) (100, 1340)) (n + 1 + 1 + 1) (100, 20)) (n + 1 + 1 + 1 + 1) (100, 48)) (n + 1 + 1 + 1 + 1 + 1) (100, 820)) (n + 1 + 1 + 1 + 1 + 1 + 1) (100, 400)) (n + 1 + 1 + 1 + 1 + 1 + 1 + 1) (100, 420)) (n + 1 + 1 + 1 + 1 + 1 + 1 + 1 + 1) (100, 10)) (n + 1 + 1 + 1 + 1 + 1 + 1 + 1 + 1 + 1) (100, 8)) (n + 1 + 1 + 1 + 1 + 1 + 1 + 1 + 1 + 1 + 1) (100, 8)) (n + 1 + 1 + 1 + 1 + 1 + 1 + 1 + 1 + 1 + 1 + 1) (100, 8)) (n + 1 + 1 + 1 + 1 + 1 + 1 + 1 + 1 + 1 + 1 + 1 + 1) (100, 8)) (n + 1 + 1 + 1 + 1 + 1 + 1 + 1 + 1 + 1 + 1 + 1 + 1 + 1) (100, 100)) (n + 1 + 1 + 1 + 1 + 1 + 1 + 1 + 1 + 1 + 1 + 1 + 1 + 1 + 1) (100, 100)) (n + 1 + 1 + 1 + 1 + 1 + 1 + 1 + 1 + 1 + 1 + 1 + 1 + 1 + 1 + 1) (100, 400)) (n + 1 + 1 + 1 + 1 + 1 + 1 + 1 + 1 + 1 + 1 + 1 + 1 + 1 + 1 + 1 + 1) (100, 100)) r0).1 = 11 ∧ sm_call d 118 [.inr (some r0), .inl 6, .inl 6] (sm_r (sm_r (sm_r (sm_r (sm_r (sm_r (sm_r (sm_r (sm_u (sm_r (sm_r (sm_r (sm_r (sm_r (sm_r (sm_r (sm_r (sm_r Z n (fun _ => 0)) (n + 1) (fun _ => 0)) (n + 1 + 1) (fun _ => 0)) (n + 1 + 1 + 1) (fun _ => 0)) (n + 1 + 1 + 1 + 1) (fun _ => 0)) (n + 1 + 1 + 1 + 1 + 1) (fun _ => 0)) (n + 1 + 1 + 1 + 1 + 1 + 1) (fun _ => 0)) (n + 1 + 1 + 1 + 1 + 1 + 1 + 1) (fun _ => 0)) (n + 1 + 1 + 1 + 1 + 1 + 1 + 1 + 1) (fun _ => 0)) r0 23 ((-1))) (n + 1 + 1 + 1 + 1 + 1 + 1 + 1 + 1 + 1) (fun _ => 0)) (n + 1 + 1 + 1 + 1 + 1 + 1 + 1 + 1 + 1 + 1) (fun _ => 0)) (n + 1 + 1 + 1 + 1 + 1 + 1 + 1 + 1 + 1 + 1 + 1) (fun _ => 0)) (n + 1 + 1 + 1 + 1 + 1 + 1 + 1 + 1 + 1 + 1 + 1 + 1) (fun _ => 0)) (n + 1 + 1 + 1 + 1 + 1 + 1 + 1 + 1 + 1 + 1 + 1 + 1 + 1) (fun _ => 0)) (n + 1 + 1 + 1 + 1 + 1 + 1 + 1 + 1 + 1 + 1 + 1 + 1 + 1 + 1) (fun _ => 0)) (n + 1 + 1 + 1 + 1 + 1 + 1 + 1 + 1 + 1 + 1 + 1 + 1 + 1 + 1 + 1) (fun _ => 0)) (n + 1 + 1 + 1 + 1 + 1 + 1 + 1 + 1 + 1 + 1 + 1 + 1 + 1 + 1 + 1 + 1) (fun _ => 0), sm_u (sm_r (sm_u (sm_r (sm_u (sm_r (sm_u (sm_r (sm_u (sm_r (sm_u (sm_r (sm_u (sm_r (sm_u (sm_r (sm_u (sm_r (sm_u (sm_r (sm_u (sm_r (sm_u (sm_r (sm_u (sm_r (sm_u (sm_r (sm_u (sm_r (sm_u (sm_r (sm_u (sm_r Rf n (fun _ => none)) r0 0 (some n)) (n + 1) (fun _ => none)) r0 1 (some (n + 1))) (n + 1 + 1) (fun _ => none)) r0 2 (some (n + 1 + 1))) (n + 1 + 1 + 1) (fun _ => none)) r0 3 (some (n + 1 + 1 + 1))) (n + 1 + 1 + 1 + 1) (fun _ => none)) r0 7 (some (n + 1 + 1 + 1 + 1))) (n + 1 + 1 + 1 + 1 + 1) (fun _ => none)) r0 8 (some (n + 1 + 1 + 1 + 1 + 1))) (n + 1 + 1 + 1 + 1 + 1 + 1) (fun _ => none)) r0 9 (some (n + 1 + 1 + 1 + 1 + 1 + 1))) (n + 1 + 1 + 1 + 1 + 1 + 1 + 1) (fun _ => none)) r0 10 (some (n + 1 + 1 + 1 + 1 + 1 + 1 + 1))) (n + 1 + 1 + 1 + 1 + 1 + 1 + 1 + 1) (fun _ => none)) r0 11 (some (n + 1 + 1 + 1 + 1 + 1 + 1 + 1 + 1))) (n + 1 + 1 + 1 + 1 + 1 + 1 + 1 + 1 + 1) (fun _ => none)) r0 24 (some (n + 1 + 1 + 1 + 1 + 1 + 1 + 1 + 1 + 1))) (n + 1 + 1 + 1 + 1 + 1 + 1 + 1 + 1 + 1 + 1) (fun _ => none)) r0 25 (some (n + 1 + 1 + 1 + 1 + 1 + 1 + 1 + 1 + 1 + 1))) (n + 1 + 1 + 1 + 1 + 1 + 1 + 1 + 1 + 1 + 1 + 1) (fun _ => none)) r0 26 (some (n + 1 + 1 + 1 + 1 + 1 + 1 + 1 + 1 + 1 + 1 + 1))) (n + 1 + 1 + 1 + 1 + 1 + 1 + 1 + 1 + 1 + 1 + 1 + 1) (fun _ => none)) r0 27 (some (n + 1 + 1 + 1 + 1 + 1 + 1 + 1 + 1 + 1 + 1 + 1 + 1))) (n + 1 + 1 + 1 + 1 + 1 + 1 + 1 + 1 + 1 + 1 + 1 + 1 + 1) (fun _ => none)) r0 28 (some (n + 1 + 1 + 1 + 1 + 1 + 1 + 1 + 1 + 1 + 1 + 1 + 1 + 1))) (n + 1 + 1 + 1 + 1 + 1 + 1 + 1 + 1 + 1 + 1 + 1 + 1 + 1 + 1) (fun _ => none)) r0 29 (some (n + 1 + 1 + 1 + 1 + 1 + 1 + 1 + 1 + 1 + 1 + 1 + 1 + 1 + 1))) (n + 1 + 1 + 1 + 1 + 1 + 1 + 1 + 1 + 1 + 1 + 1 + 1 + 1 + 1 + 1) (fun _ => none)) r0 35 (some (n + 1 + 1 + 1 + 1 + 1 + 1 + 1 + 1 + 1 + 1 + 1 + 1 + 1 + 1 + 1))) (n + 1 + 1 + 1 + 1 + 1 + 1 + 1 + 1 + 1 + 1 + 1 + 1 + 1 + 1 + 1 + 1) (fun _ => none)) r0 36 (some (n + 1 + 1 + 1 + 1 + 1 + 1 + 1 + 1 + 1 + 1 + 1 + 1 + 1 + 1 + 1 + 1)), sm_k (sm_k (sm_k (sm_k (sm_k (sm_k (sm_k (sm_k (sm_k (sm_k (sm_k (sm_k (sm_k (sm_k (sm_k (sm_k (sm_k K n (100, 5480)) (n + 1) (100, 5480)) (n + 1 + 1) (100, 1340)) (n + 1 + 1 + 1) (100, 20)) (n + 1 + 1 + 1 + 1) (100, 48)) (n + 1 + 1 + 1 + 1 + 1) (100, 820)) (n + 1 + 1 + 1 + 1 + 1 + 1) (100, 400)) (n + 1 + 1 + 1 + 1 + 1 + 1 + 1) (100, 420)) (n + 1 + 1 + 1 + 1 + 1 + 1 + 1 + 1) (100, 10)) (n + 1 + 1 + 1 + 1 + 1 + 1 + 1 + 1 + 1) (100, 8)) (n + 1 + 1 + 1 + 1 + 1 + 1 + 1 + 1 + 1 + 1) (100, 8)) (n + 1 + 1 + 1 + 1 + 1 + 1 + 1 + 1 + 1 + 1 + 1) (100, 8)) (n + 1 + 1 + 1 + 1 + 1 + 1 + 1 + 1 + 1 + 1 + 1 + 1) (100, 8)) (n + 1 + 1 + 1 + 1 + 1 + 1 + 1 + 1 + 1 + 1 + 1 + 1 + 1) (100, 100)) (n + 1 + 1 + 1 + 1 + 1 + 1 + 1 + 1 + 1 + 1 + 1 + 1 + 1 + 1) (100, 100)) (n + 1 + 1 + 1 + 1 + 1 + 1 + 1 + 1 + 1 + 1 + 1 + 1 + 1 + 1 + 1) (100, 400)) (n + 1 + 1 + 1 + 1 + 1 + 1 + 1 + 1 + 1 + 1 + 1 + 1 + 1 + 1 + 1 + 1) (100, 100), n + 1 + 1 + 1 + 1 + 1 + 1 + 1 + 1 + 1 + 1 + 1 + 1 + 1 + 1 + 1 + 1 + 1, z + 5480 + 5480 + 1340 + 20 + 48 + 820 + 400 + 420 + 10 + 8 + 8 + 8 + 8 + 100 + 100 + 400 + 100) (sm_cont (d + 1) 117 160 [some (.inr (some r0))] [] Q)) := (w_aload_n t117_0 rfl rfl).trans ((w_oinit t117_1 rfl (Nat.le_of_ble_eq_true rfl)).trans ((w_aload_n t117_4 rfl rfl).trans ((w_sipush t117_5 rfl).trans ((w_newa t117_8 rfl wl_5480).trans (congrArg (And _) ((w_putR t117_10 rfl (by decide)).trans (congrArg (And _) ((w_aload_n t117_13 rfl rfl).trans ((w_sipush t117_14 rfl).trans ((w_newa t117_17 rfl wl_5480).trans (congrArg (And _) ((w_putR t117_19 rfl (by decide)).trans (congrArg (And _) ((w_aload_n t117_22 rfl rfl).trans ((w_sipush t117_23 rfl).trans ((w_newa t117_26 rfl wl_1340).trans (congrArg (And _) ((w_putR t117_28 rfl (by decide)).trans (congrArg (And _) ((w_aload_n t117_31 rfl rfl).trans ((w_bipush t117_32 rfl).trans ((w_newa t117_34 rfl wl_20).trans (congrArg (And _) ((w_putR t117_36 rfl (by decide)).trans (congrArg (And _) ((w_aload_n t117_39 rfl rfl).trans ((w_bipush t117_40 rfl).trans ((w_newa t117_42 rfl wl_48).trans (congrArg (And _) ((w_putR t117_44 rfl (by decide)).trans (congrArg (And _) ((w_aload_n t117_47 rfl rfl).trans ((w_sipush t117_48 rfl).trans ((w_newa t117_51 rfl wl_820).trans (congrArg (And _) ((w_putR t117_53 rfl (by decide)).trans (congrArg (And _) ((w_aload_n t117_56 rfl rfl).trans ((w_sipush t117_57 rfl).trans ((w_newa t117_60 rfl wl_400).trans (congrArg (And _) ((w_putR t117_62 rfl (by decide)).trans (congrArg (And _) ((w_aload_n t117_65 rfl rfl).trans ((w_sipush t117_66 rfl).trans ((w_newa t117_69 rfl wl_420).trans (congrArg (And _) ((w_putR t117_71 rfl (by decide)).trans (congrArg (And _) ((w_aload_n t117_74 rfl rfl).trans ((w_bipush t117_75 rfl).trans ((w_newa t117_77 rfl wl_10).trans (congrArg (And _) ((w_putR t117_79 rfl (by decide)).trans (congrArg (And _) ((w_aload_n t117_82 rfl rfl).trans ((w_iconst t117_83 rfl).trans ((w_putI t117_84 rfl (by decide)).trans (congrArg (And _) ((w_aload_n t117_87 rfl rfl).trans ((w_bipush t117_88 rfl).trans ((w_newa t117_90 rfl wl_8).trans (congrArg (And _) ((w_putR t117_92 rfl (by decide)).trans (congrArg (And _) ((w_aload_n t117_95 rfl rfl).trans ((w_bipush t117_96 rfl).trans ((w_newa t117_98 rfl wl_8).trans (congrArg (And _) ((w_putR t117_100 rfl (by decide)).trans (congrArg (And _) ((w_aload_n t117_103 rfl rfl).trans ((w_bipush t117_104 rfl).trans ((w_newa t117_106 rfl wl_8).trans (congrArg (And _) ((w_putR t117_108 rfl (by decide)).trans (congrArg (And _) ((w_aload_n t117_111 rfl rfl).trans ((w_bipush t117_112 rfl).trans ((w_newa t117_114 rfl wl_8).trans (congrArg (And _) ((w_putR t117_116 rfl (by decide)).trans (congrArg (And _) ((w_aload_n t117_119 rfl rfl).trans ((w_bipush t117_120 rfl).trans ((w_newa t117_122 rfl wl_100).trans (congrArg (And _) ((w_putR t117_124 rfl (by decide)).trans (congrArg (And _) ((w_aload_n t117_127 rfl rfl).trans ((w_bipush t117_128 rfl).trans ((w_newa t117_130 rfl wl_100).trans (congrArg (And _) ((w_putR t117_132 rfl (by decide)).trans (congrArg (And _) ((w_aload_n t117_135 rfl rfl).trans ((w_sipush t117_136 rfl).trans ((w_newa t117_139 rfl wl_400).trans (congrArg (And _) ((w_putR t117_141 rfl (by decide)).trans (congrArg (And _) ((w_aload_n t117_144 rfl rfl).trans ((w_bipush t117_145 rfl).trans ((w_newa t117_147 rfl wl_100).trans (congrArg (And _) ((w_putR t117_149 rfl (by decide)).trans (congrArg (And _) ((w_aload_n t117_152 rfl rfl).trans ((w_bipush t117_153 rfl).trans ((w_bipush t117_155 rfl).trans (w_callV t117_157 rfl rfl rfl rfl (Nat.le_of_ble_eq_true rfl) (Nat.le_of_ble_eq_true rfl) rfl (by decide))))))))))))))))))))))))))))))))))))))))))))))))))))))))))))))))))))))))))))))))))))))))))))))))))))))))))))))))
set_option maxRecDepth 10000 in
theorem b117_160 {d : Nat} {l0 : Option sm_V} {Z : Nat → Nat → Int} {Rf : Nat → Nat → Option Nat} {K : Nat → Nat × Nat} {n z : Nat} {Q : Option sm_V → sm_S → Prop} : sm_wp d 117 160 [l0] [] (Z, Rf, K, n, z) Q = (Q none (Z, Rf, K, n, z)) := w_vret t117_160
theorem t118_0 : sm_at 118 0 = some (1, .aload_n 0, 0, 0, 0) := rfl
theorem t118_1 : sm_at 118 1 = some (3, .getfield 7, 11, 0, 0) := rfl
theorem t118_4 : sm_at 118 4 = some (1, .iconst 2, 0, 0, 0) := rfl
theorem t118_5 : sm_at 118 5 = some (1, .iaload, 0, 0, 0) := rfl
theorem t118_6 : sm_at 118 6 = some (1, .istore_n 3, 0, 0, 0) := rfl
theorem t118_7 : sm_at 118 7 = some (1, .iconst 0, 0, 0, 0) := rfl
theorem t118_8 : sm_at 118 8 = some (2, .istore 4, 0, 0, 0) := rfl
theorem t118_10 : sm_at 118 10 = some (2, .iload 4, 0, 0, 0) := rfl
theorem t118_12 : sm_at 118 12 = some (3, .sipush 5480, 0, 0, 0) := rfl
theorem t118_15 : sm_at 118 15 = some (3, .if_icmp .ge 17, 0, 0, 0) := rfl
theorem t118_18 : sm_at 118 18 = some (1, .aload_n 0, 0, 0, 0) := rfl
theorem t118_19 : sm_at 118 19 = some (3, .getfield 7, 11, 0, 0) := rfl
theorem t118_22 : sm_at 118 22 = some (2, .iload 4, 0, 0, 0) := rfl
theorem t118_24 : sm_at 118 24 = some (1, .iconst 0, 0, 0, 0) := rfl
theorem t118_25 : sm_at 118 25 = some (1, .iastore, 0, 0, 0) := rfl
theorem t118_26 : sm_at 118 26 = some (3, .iinc 4 1, 0, 0, 0) := rfl
theorem t118_29 : sm_at 118 29 = some (3, .goto (-19), 0, 0, 0) := rfl
theorem t118_32 : sm_at 118 32 = some (1, .aload_n 0, 0, 0, 0) := rfl
theorem t118_33 : sm_at 118 33 = some (3, .getfield 7, 11, 0, 0) := rfl
theorem t118_36 : sm_at 118 36 = some (1, .iconst 2, 0, 0, 0) := rfl
theorem t118_37 : sm_at 118 37 = some (1, .iload_n 3, 0, 0, 0) := rfl
theorem t118_38 : sm_at 118 38 = some (1, .iastore, 0, 0, 0) := rfl
theorem t118_39 : sm_at 118 39 = some (1, .aload_n 0, 0, 0, 0) := rfl
theorem t118_40 : sm_at 118 40 = some (3, .getfield 7, 11, 0, 0) := rfl
theorem t118_43 : sm_at 118 43 = some (1, .iconst 0, 0, 0, 0) := rfl
theorem t118_44 : sm_at 118 44 = some (1, .iload_n 1, 0, 0, 0) := rfl
theorem t118_45 : sm_at 118 45 = some (1, .iastore, 0, 0, 0) := rfl
theorem t118_46 : sm_at 118 46 = some (1, .aload_n 0, 0, 0, 0) := rfl
theorem t118_47 : sm_at 118 47 = some (3, .getfield 7, 11, 0, 0) := rfl
theorem t118_50 : sm_at 118 50 = some (1, .iconst 1, 0, 0, 0) := rfl
theorem t118_51 : sm_at 118 51 = some (1, .iload_n 2, 0, 0, 0) := rfl
theorem t118_52 : sm_at 118 52 = some (1, .iastore, 0, 0, 0) := rfl
theorem t118_53 : sm_at 118 53 = some (1, .iconst 0, 0, 0, 0) := rfl
theorem t118_54 : sm_at 118 54 = some (2, .istore 4, 0, 0, 0) := rfl
theorem t118_56 : sm_at 118 56 = some (2, .iload 4, 0, 0, 0) := rfl
theorem t118_58 : sm_at 118 58 = some (2, .bipush 100, 0, 0, 0) := rfl
theorem t118_60 : sm_at 118 60 = some (3, .if_icmp .ge 21, 0, 0, 0) := rfl
theorem t118_63 : sm_at 118 63 = some (1, .aload_n 0, 0, 0, 0) := rfl
theorem t118_64 : sm_at 118 64 = some (3, .getfield 7, 11, 0, 0) := rfl
theorem t118_67 : sm_at 118 67 = some (3, .sipush 420, 0, 0, 0) := rfl
theorem t118_70 : sm_at 118 70 = some (2, .iload 4, 0, 0, 0) := rfl
theorem t118_72 : sm_at 118 72 = some (1, .iadd, 0, 0, 0) := rfl
theorem t118_73 : sm_at 118 73 = some (1, .iconst 1, 0, 0, 0) := rfl
theorem t118_74 : sm_at 118 74 = some (1, .iastore, 0, 0, 0) := rfl
theorem t118_75 : sm_at 118 75 = some (3, .iinc 4 1, 0, 0, 0) := rfl
theorem t118_78 : sm_at 118 78 = some (3, .goto (-22), 0, 0, 0) := rfl
theorem t118_81 : sm_at 118 81 = some (1, .aload_n 0, 0, 0, 0) := rfl
theorem t118_82 : sm_at 118 82 = some (3, .invokevirtual 69, 119, 1, 0) := rfl
theorem t118_85 : sm_at 118 85 = some (1, .aload_n 0, 0, 0, 0) := rfl
theorem t118_86 : sm_at 118 86 = some (1, .iconst 0, 0, 0, 0) := rfl
theorem t118_87 : sm_at 118 87 = some (3, .putfield 72, 11, 4, 0) := rfl
theorem t118_90 : sm_at 118 90 = some (1, .return_, 0, 0, 0) := rfl
set_option maxRecDepth 10000 in
theorem b118_0 {d : Nat} {r0 : Nat} {l1 : Option sm_V} {l2 : Option sm_V} {l3 : Option sm_V} {l4 : Option sm_V} {Z : Nat → Nat → Int} {Rf : Nat → Nat → Option Nat} {K : Nat → Nat × Nat} {n z : Nat} {Q : Option sm_V → sm_S → Prop} : sm_wp d 118 0 [some (.inr (some r0)), l1, l2, l3, l4] [] (Z, Rf, K, n, z) Q = ((K r0).1 = 11 ∧ (Rf r0 0).isSome = true ∧ sm_rd (K (((Rf r0 0).getD 0))) ((2 : Int)) ∧ sm_wp d 118 10 [some (.inr (some r0)), l1, l2, some (.inl (Z (((Rf r0 0).getD 0)) 2)), some (.inl 0)] [] (Z, Rf, K, n, z) Q) := (w_aload_n t118_0 rfl rfl).trans ((w_getR t118_1 rfl (by decide)).trans (congrArg (And _) (congrArg (And _) ((w_iconst t118_4 rfl).trans ((w_iald t118_5 rfl wl_2).trans (congrArg (And _) ((w_istore_n t118_6 rfl (Nat.le_of_ble_eq_true rfl) rfl).trans ((w_iconst t118_7 rfl).trans (w_istore t118_8 rfl (Nat.le_of_ble_eq_true rfl) rfl)))))))))
set_option maxRecDepth 10000 in
theorem b118_10 {d : Nat} {l0 : Option sm_V} {l1 : Option sm_V} {l2 : Option sm_V} {l3 : Option sm_V} {x4 : Int} {Z : Nat → Nat → Int} {Rf : Nat → Nat → Option Nat} {K : Nat → Nat × Nat} {n z : Nat} {Q : Option sm_V → sm_S → Prop} : sm_wp d 118 10 [l0, l1, l2, l3, some (.inl x4)] [] (Z, Rf, K, n, z) Q = (if (5480 : Int) ≤ wr x4 then sm_wp d 118 32 [l0, l1, l2, l3, some (.inl x4)] [] (Z, Rf, K, n, z) Q else sm_wp d 118 18 [l0, l1, l2, l3, some (.inl x4)] [] (Z, Rf, K, n, z) Q) := (w_iload t118_10 rfl rfl).trans ((w_sipush t118_12 rfl).trans (w_icge t118_15 rfl wl_5480 rfl rfl))
set_option maxRecDepth 10000 in
theorem b118_18 {d : Nat} {r0 : Nat} {l1 : Option sm_V} {l2 : Option sm_V} {l3 : Option sm_V} {x4 : Int} {Z : Nat → Nat → Int} {Rf : Nat → Nat → Option Nat} {K : Nat → Nat × Nat} {n z : Nat} {Q : Option sm_V → sm_S → Prop} : sm_wp d 118 18 [some (.inr (some r0)), l1, l2, l3, some (.inl x4)] [] (Z, Rf, K, n, z) Q = ((K r0).1 = 11 ∧ (Rf r0 0).isSome = true ∧ sm_wt (K (((Rf r0 0).getD 0))) (wr x4) ∧ sm_wp d 118 10 [some (.inr (some r0)), l1, l2, l3, some (.inl (x4 + 1))] [] (sm_u Z (((Rf r0 0).getD 0)) ((wr x4).toNat) 0, Rf, K, n, z) Q) := (w_aload_n t118_18 rfl rfl).trans ((w_getR t118_19 rfl (by decide)).trans (congrArg (And _) (congrArg (And _) ((w_iload t118_22 rfl rfl).trans ((w_iconst t118_24 rfl).trans ((w_iast t118_25 rfl rfl).trans (congrArg (And _) ((w_iinc t118_26 rfl rfl (Nat.le_of_ble_eq_true rfl) rfl).trans (w_goto t118_29 rfl)))))))))
set_option maxRecDepth 10000 in
theorem b118_32 {d : Nat} {r0 : Nat} {x1 : Int} {x2 : Int} {x3 : Int} {l4 : Option sm_V} {Z : Nat → Nat → Int} {Rf : Nat → Nat → Option Nat} {K : Nat → Nat × Nat} {n z : Nat} {Q : Option sm_V → sm_S → Prop} : sm_wp d 118 32 [some (.inr (some r0)), some (.inl x1), some (.inl x2), some (.inl x3), l4] [] (Z, Rf, K, n, z) Q = ((K r0).1 = 11 ∧ (Rf r0 0).isSome = true ∧ sm_wt (K (((Rf r0 0).getD 0))) ((2 : Int)) ∧ (K r0).1 = 11 ∧ (Rf r0 0).isSome = true ∧ sm_wt (K (((Rf r0 0).getD 0))) ((0 : Int)) ∧ (K r0).1 = 11 ∧ (Rf r0 0).isSome = true ∧ sm_wt (K (((Rf r0 0).getD 0))) ((1 : Int)) ∧ sm_wp d 118 56 [some (.inr (some r0)), some (.inl x1), some (.inl x2), some (.inl x3), some (.inl 0)] [] (sm_u (sm_u (sm_u Z (((Rf r0 0).getD 0)) 2 x3) (((Rf r0 0).getD 0)) 0 x1) (((Rf r0 0).getD 0)) 1 x2, Rf, K, n, z) Q) := (w_aload_n t118_32 rfl rfl).trans ((w_getR t118_33 rfl (by decide)).trans (congrArg (And _) (congrArg (And _) ((w_iconst t118_36 rfl).trans ((w_iload_n t118_37 rfl rfl).trans ((w_iast t118_38 rfl wl_2).trans (congrArg (And _) ((w_aload_n t118_39 rfl rfl).trans ((w_getR t118_40 rfl (by decide)).trans (congrArg (And _) (congrArg (And _) ((w_iconst t118_43 rfl).trans ((w_iload_n t118_44 rfl rfl).trans ((w_iast t118_45 rfl wl_0).trans (congrArg (And _) ((w_aload_n t118_46 rfl rfl).trans ((w_getR t118_47 rfl (by decide)).trans (congrArg (And _) (congrArg (And _) ((w_iconst t118_50 rfl).trans ((w_iload_n t118_51 rfl rfl).trans ((w_iast t118_52 rfl wl_1).trans (congrArg (And _) ((w_iconst t118_53 rfl).trans (w_istore t118_54 rfl (Nat.le_of_ble_eq_true rfl) rfl)))))))))))))))))))))))))
set_option maxRecDepth 10000 in
theorem b118_56 {d : Nat} {l0 : Option sm_V} {l1 : Option sm_V} {l2 : Option sm_V} {l3 : Option sm_V} {x4 : Int} {Z : Nat → Nat → Int} {Rf : Nat → Nat → Option Nat} {K : Nat → Nat × Nat} {n z : Nat} {Q : Option sm_V → sm_S → Prop} : sm_wp d 118 56 [l0, l1, l2, l3, some (.inl x4)] [] (Z, Rf, K, n, z) Q = (if (100 : Int) ≤ wr x4 then sm_wp d 118 81 [l0, l1, l2, l3, some (.inl x4)] [] (Z, Rf, K, n, z) Q else sm_wp d 118 63 [l0, l1, l2, l3, some (.inl x4)] [] (Z, Rf, K, n, z) Q) := (w_iload t118_56 rfl rfl).trans ((w_bipush t118_58 rfl).trans (w_icge t118_60 rfl wl_100 rfl rfl))
set_option maxRecDepth 10000 in
theorem b118_63 {d : Nat} {r0 : Nat} {l1 : Option sm_V} {l2 : Option sm_V} {l3 : Option sm_V} {x4 : Int} {Z : Nat → Nat → Int} {Rf : Nat → Nat → Option Nat} {K : Nat → Nat × Nat} {n z : Nat} {Q : Option sm_V → sm_S → Prop} : sm_wp d 118 63 [some (.inr (some r0)), l1, l2, l3, some (.inl x4)] [] (Z, Rf, K, n, z) Q = ((K r0).1 = 11 ∧ (Rf r0 0).isSome = true ∧ sm_wt (K (((Rf r0 0).getD 0))) (wr (420 + x4)) ∧ sm_wp d 118 56 [some (.inr (some r0)), l1, l2, l3, some (.inl (x4 + 1))] [] (sm_u Z (((Rf r0 0).getD 0)) ((wr (420 + x4)).toNat) 1, Rf, K, n, z) Q) := (w_aload_n t118_63 rfl rfl).trans ((w_getR t118_64 rfl (by decide)).trans (congrArg (And _) (congrArg (And _) ((w_sipush t118_67 rfl).trans ((w_iload t118_70 rfl rfl).trans ((w_iadd t118_72 rfl).trans ((w_iconst t118_73 rfl).trans ((w_iast t118_74 rfl rfl).trans (congrArg (And _) ((w_iinc t118_75 rfl rfl (Nat.le_of_ble_eq_true rfl) rfl).trans (w_goto t118_78 rfl)))))))))))
set_option maxRecDepth 10000 in
theorem b118_81 {d : Nat} {r0 : Nat} {l1 : Option sm_V} {l2 : Option sm_V} {l3 : Option sm_V} {l4 : Option sm_V} {Z : Nat → Nat → Int} {Rf : Nat → Nat → Option Nat} {K : Nat → Nat × Nat} {n z : Nat} {Q : Option sm_V → sm_S → Prop} : sm_wp (d + 1) 118 81 [some (.inr (some r0)), l1, l2, l3, l4] [] (Z, Rf, K, n, z) Q = ((K r0).1 = 11 ∧ sm_call d 119 [.inr (some r0)] (Z, Rf, K, n, z) (sm_cont (d + 1) 118 85 [some (.inr (some r0)), l1, l2, l3, l4] [] Q)) := (w_aload_n t118_81 rfl rfl).trans (w_callV t118_82 rfl rfl rfl rfl (Nat.le_of_ble_eq_true rfl) (Nat.le_of_ble_eq_true rfl) rfl (by decide))
set_option maxRecDepth 10000 in
theorem b118_85 {d : Nat} {r0 : Nat} {l1 : Option sm_V} {l2 : Option sm_V} {l3 : Option sm_V} {l4 : Option sm_V} {Z : Nat → Nat → Int} {Rf : Nat → Nat → Option Nat} {K : Nat → Nat × Nat} {n z : Nat} {Q : Option sm_V → sm_S → Prop} : sm_wp d 118 85 [some (.inr (some r0)), l1, l2, l3, l4] [] (Z, Rf, K, n, z) Q = ((K r0).1 = 11 ∧ Q none (sm_u Z r0 4 0, Rf, K, n, z)) := (w_aload_n t118_85 rfl rfl).trans ((w_iconst t118_86 rfl).trans ((w_putI t118_87 rfl (by decide)).trans (congrArg (And _) (w_vret t118_90))))
theorem t119_0 : sm_at 119 0 = some (1, .iconst 0, 0, 0, 0) := rfl
theorem t119_1 : sm_at 119 1 = some (1, .istore_n 1, 0, 0, 0) := rfl
theorem t119_2 : sm_at 119 2 = some (1, .iload_n 1, 0, 0, 0) := rfl
theorem t119_3 : sm_at 119 3 = some (3, .sipush 242, 0, 0, 0) := rfl
theorem t119_6 : sm_at 119 6 = some (3, .if_icmp .ge 31, 0, 0, 0) := rfl
theorem t119_9 : sm_at 119 9 = some (1, .aload_n 0, 0, 0, 0) := rfl
theorem t119_10 : sm_at 119 10 = some (3, .getfield 7, 11, 0, 0) := rfl
theorem t119_13 : sm_at 119 13 = some (3, .sipush 850, 0, 0, 0) := rfl
theorem t119_16 : sm_at 119 16 = some (1, .iload_n 1, 0, 0, 0) := rfl
theorem t119_17 : sm_at 119 17 = some (1, .iadd, 0, 0, 0) := rfl
theorem t119_18 : sm_at 119 18 = some (1, .iconst (-1), 0, 0, 0) := rfl
theorem t119_19 : sm_at 119 19 = some (1, .iastore, 0, 0, 0) := rfl
theorem t119_20 : sm_at 119 20 = some (1, .aload_n 0, 0, 0, 0) := rfl
theorem t119_21 : sm_at 119 21 = some (3, .getfield 7, 11, 0, 0) := rfl
theorem t119_24 : sm_at 119 24 = some (3, .sipush 1092, 0, 0, 0) := rfl
theorem t119_27 : sm_at 119 27 = some (1, .iload_n 1, 0, 0, 0) := rfl
theorem t119_28 : sm_at 119 28 = some (1, .iadd, 0, 0, 0) := rfl
theorem t119_29 : sm_at 119 29 = some (1, .iconst (-1), 0, 0, 0) := rfl
theorem t119_30 : sm_at 119 30 = some (1, .iastore, 0, 0, 0) := rfl
theorem t119_31 : sm_at 119 31 = some (3, .iinc 1 1, 0, 0, 0) := rfl
theorem t119_34 : sm_at 119 34 = some (3, .goto (-32), 0, 0, 0) := rfl
theorem t119_37 : sm_at 119 37 = some (1, .aload_n 0, 0, 0, 0) := rfl
theorem t119_38 : sm_at 119 38 = some (3, .getfield 7, 11, 0, 0) := rfl
theorem t119_41 : sm_at 119 41 = some (2, .bipush 6, 0, 0, 0) := rfl
theorem t119_43 : sm_at 119 43 = some (1, .iconst 0, 0, 0, 0) := rfl
theorem t119_44 : sm_at 119 44 = some (1, .iastore, 0, 0, 0) := rfl
theorem t119_45 : sm_at 119 45 = some (1, .return_, 0, 0, 0) := rfl
set_option maxRecDepth 10000 in
theorem b119_0 {d : Nat} {l0 : Option sm_V} {l1 : Option sm_V} {Z : Nat → Nat → Int} {Rf : Nat → Nat → Option Nat} {K : Nat → Nat × Nat} {n z : Nat} {Q : Option sm_V → sm_S → Prop} : sm_wp d 119 0 [l0, l1] [] (Z, Rf, K, n, z) Q = (sm_wp d 119 2 [l0, some (.inl 0)] [] (Z, Rf, K, n, z) Q) := (w_iconst t119_0 rfl).trans (w_istore_n t119_1 rfl (Nat.le_of_ble_eq_true rfl) rfl)
set_option maxRecDepth 10000 in
theorem b119_2 {d : Nat} {l0 : Option sm_V} {x1 : Int} {Z : Nat → Nat → Int} {Rf : Nat → Nat → Option Nat} {K : Nat → Nat × Nat} {n z : Nat} {Q : Option sm_V → sm_S → Prop} : sm_wp d 119 2 [l0, some (.inl x1)] [] (Z, Rf, K, n, z) Q = (if (242 : Int) ≤ wr x1 then sm_wp d 119 37 [l0, some (.inl x1)] [] (Z, Rf, K, n, z) Q else sm_wp d 119 9 [l0, some (.inl x1)] [] (Z, Rf, K, n, z) Q) := (w_iload_n t119_2 rfl rfl).trans ((w_sipush t119_3 rfl).trans (w_icge t119_6 rfl wl_242 rfl rfl))
set_option maxRecDepth 10000 in
theorem b119_9 {d : Nat} {r0 : Nat} {x1 : Int} {Z : Nat → Nat → Int} {Rf : Nat → Nat → Option Nat} {K : Nat → Nat × Nat} {n z : Nat} {Q : Option sm_V → sm_S → Prop} : sm_wp d 119 9 [some (.inr (some r0)), some (.inl x1)] [] (Z, Rf, K, n, z) Q = ((K r0).1 = 11 ∧ (Rf r0 0).isSome = true ∧ sm_wt (K (((Rf r0 0).getD 0))) (wr (850 + x1)) ∧ (K r0).1 = 11 ∧ (Rf r0 0).isSome = true ∧ sm_wt (K (((Rf r0 0).getD 0))) (wr (1092 + x1)) ∧ sm_wp d 119 2 [some (.inr (some r0)), some (.inl (x1 + 1))] [] (sm_u (sm_u Z (((Rf r0 0).getD 0)) ((wr (850 + x1)).toNat) ((-1))) (((Rf r0 0).getD 0)) ((wr (1092 + x1)).toNat) ((-1)), Rf, K, n, z) Q) := (w_aload_n t119_9 rfl rfl).trans ((w_getR t119_10 rfl (by decide)).trans (congrArg (And _) (congrArg (And _) ((w_sipush t119_13 rfl).trans ((w_iload_n t119_16 rfl rfl).trans ((w_iadd t119_17 rfl).trans ((w_iconst t119_18 rfl).trans ((w_iast t119_19 rfl rfl).trans (congrArg (And _) ((w_aload_n t119_20 rfl rfl).trans ((w_getR t119_21 rfl (by decide)).trans (congrArg (And _) (congrArg (And _) ((w_sipush t119_24 rfl).trans ((w_iload_n t119_27 rfl rfl).trans ((w_iadd t119_28 rfl).trans ((w_iconst t119_29 rfl).trans ((w_iast t119_30 rfl rfl).trans (congrArg (And _) ((w_iinc t119_31 rfl rfl (Nat.le_of_ble_eq_true rfl) rfl).trans (w_goto t119_34 rfl)))))))))))))))))))))
set_option maxRecDepth 10000 in
theorem b119_37 {d : Nat} {r0 : Nat} {l1 : Option sm_V} {Z : Nat → Nat → Int} {Rf : Nat → Nat → Option Nat} {K : Nat → Nat × Nat} {n z : Nat} {Q : Option sm_V → sm_S → Prop} : sm_wp d 119 37 [some (.inr (some r0)), l1] [] (Z, Rf, K, n, z) Q = ((K r0).1 = 11 ∧ (Rf r0 0).isSome = true ∧ sm_wt (K (((Rf r0 0).getD 0))) ((6 : Int)) ∧ Q none (sm_u Z (((Rf r0 0).getD 0)) 6 0, Rf, K, n, z)) := (w_aload_n t119_37 rfl rfl).trans ((w_getR t119_38 rfl (by decide)).trans (congrArg (And _) (congrArg (And _) ((w_bipush t119_41 rfl).trans ((w_iconst t119_43 rfl).trans ((w_iast t119_44 rfl wl_6).trans (congrArg (And _) (w_vret t119_45))))))))
theorem t120_0 : sm_at 120 0 = some (1, .iload_n 0, 0, 0, 0) := rfl
theorem t120_1 : sm_at 120 1 = some (1, .iload_n 1, 0, 0, 0) := rfl
theorem t120_2 : sm_at 120 2 = some (3, .if_icmp .lt 12, 0, 0, 0) := rfl
theorem t120_5 : sm_at 120 5 = some (1, .iload_n 0, 0, 0, 0) := rfl
theorem t120_6 : sm_at 120 6 = some (1, .iload_n 2, 0, 0, 0) := rfl
theorem t120_7 : sm_at 120 7 = some (3, .if_icmp .gt 7, 0, 0, 0) := rfl
theorem t120_10 : sm_at 120 10 = some (1, .iconst 1, 0, 0, 0) := rfl
theorem t120_11 : sm_at 120 11 = some (3, .goto 4, 0, 0, 0) := rfl
theorem t120_14 : sm_at 120 14 = some (1, .iconst 0, 0, 0, 0) := rfl
theorem t120_15 : sm_at 120 15 = some (1, .ireturn, 1, 0, 0) := rfl
set_option maxRecDepth 10000 in
theorem b120_0 {d : Nat} {x0 : Int} {x1 : Int} {l2 : Option sm_V} {Z : Nat → Nat → Int} {Rf : Nat → Nat → Option Nat} {K : Nat → Nat × Nat} {n z : Nat} {Q : Option sm_V → sm_S → Prop} : sm_wp d 120 0 [some (.inl x0), some (.inl x1), l2] [] (Z, Rf, K, n, z) Q = (if wr x0 < wr x1 then sm_wp d 120 14 [some (.inl x0), some (.inl x1), l2] [] (Z, Rf, K, n, z) Q else sm_wp d 120 5 [some (.inl x0), some (.inl x1), l2] [] (Z, Rf, K, n, z) Q) := (w_iload_n t120_0 rfl rfl).trans ((w_iload_n t120_1 rfl rfl).trans (w_iclt t120_2 rfl rfl rfl rfl))
set_option maxRecDepth 10000 in
theorem b120_5 {d : Nat} {x0 : Int} {l1 : Option sm_V} {x2 : Int} {Z : Nat → Nat → Int} {Rf : Nat → Nat → Option Nat} {K : Nat → Nat × Nat} {n z : Nat} {Q : Option sm_V → sm_S → Prop} : sm_wp d 120 5 [some (.inl x0), l1, some (.inl x2)] [] (Z, Rf, K, n, z) Q = (if wr x2 < wr x0 then sm_wp d 120 14 [some (.inl x0), l1, some (.inl x2)] [] (Z, Rf, K, n, z) Q else sm_wp d 120 10 [some (.inl x0), l1, some (.inl x2)] [] (Z, Rf, K, n, z) Q) := (w_iload_n t120_5 rfl rfl).trans ((w_iload_n t120_6 rfl rfl).trans (w_icgt t120_7 rfl rfl rfl rfl))
set_option maxRecDepth 10000 in
theorem b120_10 {d : Nat} {l0 : Option sm_V} {l1 : Option sm_V} {l2 : Option sm_V} {Z : Nat → Nat → Int} {Rf : Nat → Nat → Option Nat} {K : Nat → Nat × Nat} {n z : Nat} {Q : Option sm_V → sm_S → Prop} : sm_wp d 120 10 [l0, l1, l2] [] (Z, Rf, K, n, z) Q = (sm_wp d 120 15 [l0, l1, l2] [.inl 1] (Z, Rf, K, n, z) Q) := (w_iconst t120_10 rfl).trans (w_goto t120_11 rfl)
set_option maxRecDepth 10000 in
theorem b120_14 {d : Nat} {l0 : Option sm_V} {l1 : Option sm_V} {l2 : Option sm_V} {Z : Nat → Nat → Int} {Rf : Nat → Nat → Option Nat} {K : Nat → Nat × Nat} {n z : Nat} {Q : Option sm_V → sm_S → Prop} : sm_wp d 120 14 [l0, l1, l2] [] (Z, Rf, K, n, z) Q = (sm_wp d 120 15 [l0, l1, l2] [.inl 0] (Z, Rf, K, n, z) Q) := w_iconst t120_14 rfl
set_option maxRecDepth 10000 in
theorem b120_15 {d : Nat} {l0 : Option sm_V} {l1 : Option sm_V} {l2 : Option sm_V} {s0 : Int} {Z : Nat → Nat → Int} {Rf : Nat → Nat → Option Nat} {K : Nat → Nat × Nat} {n z : Nat} {Q : Option sm_V → sm_S → Prop} : sm_wp d 120 15 [l0, l1, l2] [.inl s0] (Z, Rf, K, n, z) Q = ((wr s0 = 0 ∨ wr s0 = 1) ∧ Q (some (.inl s0)) (Z, Rf, K, n, z)) := w_zret t120_15 rfl
theorem t121_0 : sm_at 121 0 = some (1, .iload_n 1, 0, 0, 0) := rfl
theorem t121_1 : sm_at 121 1 = some (1, .iconst 0, 0, 0, 0) := rfl
theorem t121_2 : sm_at 121 2 = some (1, .aload_n 0, 0, 0, 0) := rfl
theorem t121_3 : sm_at 121 3 = some (3, .getfield 7, 11, 0, 0) := rfl
theorem t121_6 : sm_at 121 6 = some (1, .iconst 0, 0, 0, 0) := rfl
theorem t121_7 : sm_at 121 7 = some (1, .iaload, 0, 0, 0) := rfl
theorem t121_8 : sm_at 121 8 = some (1, .iconst 1, 0, 0, 0) := rfl
theorem t121_9 : sm_at 121 9 = some (1, .isub, 0, 0, 0) := rfl
theorem t121_10 : sm_at 121 10 = some (3, .invokestatic 75, 120, 3, 0) := rfl
theorem t121_13 : sm_at 121 13 = some (3, .ifCond .eq 23, 0, 0, 0) := rfl
theorem t121_16 : sm_at 121 16 = some (1, .iload_n 2, 0, 0, 0) := rfl
theorem t121_17 : sm_at 121 17 = some (1, .iconst 0, 0, 0, 0) := rfl
theorem t121_18 : sm_at 121 18 = some (1, .aload_n 0, 0, 0, 0) := rfl
theorem t121_19 : sm_at 121 19 = some (3, .getfield 7, 11, 0, 0) := rfl
theorem t121_22 : sm_at 121 22 = some (1, .iconst 1, 0, 0, 0) := rfl
theorem t121_23 : sm_at 121 23 = some (1, .iaload, 0, 0, 0) := rfl
theorem t121_24 : sm_at 121 24 = some (1, .iconst 1, 0, 0, 0) := rfl
theorem t121_25 : sm_at 121 25 = some (1, .isub, 0, 0, 0) := rfl
theorem t121_26 : sm_at 121 26 = some (3, .invokestatic 75, 120, 3, 0) := rfl
theorem t121_29 : sm_at 121 29 = some (3, .ifCond .eq 7, 0, 0, 0) := rfl
theorem t121_32 : sm_at 121 32 = some (1, .iconst 1, 0, 0, 0) := rfl
theorem t121_33 : sm_at 121 33 = some (3, .goto 4, 0, 0, 0) := rfl
theorem t121_36 : sm_at 121 36 = some (1, .iconst 0, 0, 0, 0) := rfl
theorem t121_37 : sm_at 121 37 = some (1, .ireturn, 1, 0, 0) := rfl
set_option maxRecDepth 10000 in
theorem b121_0 {d : Nat} {r0 : Nat} {x1 : Int} {l2 : Option sm_V} {Z : Nat → Nat → Int} {Rf : Nat → Nat → Option Nat} {K : Nat → Nat × Nat} {n z : Nat} {Q : Option sm_V → sm_S → Prop} : sm_wp (d + 1) 121 0 [some (.inr (some r0)), some (.inl x1), l2] [] (Z, Rf, K, n, z) Q = ((K r0).1 = 11 ∧ (Rf r0 0).isSome = true ∧ sm_rd (K (((Rf r0 0).getD 0))) ((0 : Int)) ∧ sm_call d 120 [.inl x1, .inl 0, .inl ((Z (((Rf r0 0).getD 0)) 0) - 1)] (Z, Rf, K, n, z) (sm_cont (d + 1) 121 13 [some (.inr (some r0)), some (.inl x1), l2] [] Q)) := (w_iload_n t121_0 rfl rfl).trans ((w_iconst t121_1 rfl).trans ((w_aload_n t121_2 rfl rfl).trans ((w_getR t121_3 rfl (by decide)).trans (congrArg (And _) (congrArg (And _) ((w_iconst t121_6 rfl).trans ((w_iald t121_7 rfl wl_0).trans (congrArg (And _) ((w_iconst t121_8 rfl).trans ((w_isub t121_9 rfl).trans (w_callS t121_10 rfl rfl rfl rfl (Nat.le_of_ble_eq_true rfl) (Nat.le_of_ble_eq_true rfl) rfl)))))))))))
set_option maxRecDepth 10000 in
theorem b121_13 {d : Nat} {l0 : Option sm_V} {l1 : Option sm_V} {l2 : Option sm_V} {s0 : Int} {Z : Nat → Nat → Int} {Rf : Nat → Nat → Option Nat} {K : Nat → Nat × Nat} {n z : Nat} {Q : Option sm_V → sm_S → Prop} : sm_wp d 121 13 [l0, l1, l2] [.inl s0] (Z, Rf, K, n, z) Q = (if wr s0 = 0 then sm_wp d 121 36 [l0, l1, l2] [] (Z, Rf, K, n, z) Q else sm_wp d 121 16 [l0, l1, l2] [] (Z, Rf, K, n, z) Q) := w_ifeq t121_13 rfl rfl rfl
set_option maxRecDepth 10000 in
theorem b121_16 {d : Nat} {r0 : Nat} {l1 : Option sm_V} {x2 : Int} {Z : Nat → Nat → Int} {Rf : Nat → Nat → Option Nat} {K : Nat → Nat × Nat} {n z : Nat} {Q : Option sm_V → sm_S → Prop} : sm_wp (d + 1) 121 16 [some (.inr (some r0)), l1, some (.inl x2)] [] (Z, Rf, K, n, z) Q = ((K r0).1 = 11 ∧ (Rf r0 0).isSome = true ∧ sm_rd (K (((Rf r0 0).getD 0))) ((1 : Int)) ∧ sm_call d 120 [.inl x2, .inl 0, .inl ((Z (((Rf r0 0).getD 0)) 1) - 1)] (Z, Rf, K, n, z) (sm_cont (d + 1) 121 29 [some (.inr (some r0)), l1, some (.inl x2)] [] Q)) := (w_iload_n t121_16 rfl rfl).trans ((w_iconst t121_17 rfl).trans ((w_aload_n t121_18 rfl rfl).trans ((w_getR t121_19 rfl (by decide)).trans (congrArg (And _) (congrArg (And _) ((w_iconst t121_22 rfl).trans ((w_iald t121_23 rfl wl_1).trans (congrArg (And _) ((w_iconst t121_24 rfl).trans ((w_isub t121_25 rfl).trans (w_callS t121_26 rfl rfl rfl rfl (Nat.le_of_ble_eq_true rfl) (Nat.le_of_ble_eq_true rfl) rfl)))))))))))
set_option maxRecDepth 10000 in
theorem b121_29 {d : Nat} {l0 : Option sm_V} {l1 : Option sm_V} {l2 : Option sm_V} {s0 : Int} {Z : Nat → Nat → Int} {Rf : Nat → Nat → Option Nat} {K : Nat → Nat × Nat} {n z : Nat} {Q : Option sm_V → sm_S → Prop} : sm_wp d 121 29 [l0, l1, l2] [.inl s0] (Z, Rf, K, n, z) Q = (if wr s0 = 0 then sm_wp d 121 36 [l0, l1, l2] [] (Z, Rf, K, n, z) Q else sm_wp d 121 32 [l0, l1, l2] [] (Z, Rf, K, n, z) Q) := w_ifeq t121_29 rfl rfl rfl
set_option maxRecDepth 10000 in
theorem b121_32 {d : Nat} {l0 : Option sm_V} {l1 : Option sm_V} {l2 : Option sm_V} {Z : Nat → Nat → Int} {Rf : Nat → Nat → Option Nat} {K : Nat → Nat × Nat} {n z : Nat} {Q : Option sm_V → sm_S → Prop} : sm_wp d 121 32 [l0, l1, l2] [] (Z, Rf, K, n, z) Q = (sm_wp d 121 37 [l0, l1, l2] [.inl 1] (Z, Rf, K, n, z) Q) := (w_iconst t121_32 rfl).trans (w_goto t121_33 rfl)
set_option maxRecDepth 10000 in
theorem b121_36 {d : Nat} {l0 : Option sm_V} {l1 : Option sm_V} {l2 : Option sm_V} {Z : Nat → Nat → Int} {Rf : Nat → Nat → Option Nat} {K : Nat → Nat × Nat} {n z : Nat} {Q : Option sm_V → sm_S → Prop} : sm_wp d 121 36 [l0, l1, l2] [] (Z, Rf, K, n, z) Q = (sm_wp d 121 37 [l0, l1, l2] [.inl 0] (Z, Rf, K, n, z) Q) := w_iconst t121_36 rfl
set_option maxRecDepth 10000 in
theorem b121_37 {d : Nat} {l0 : Option sm_V} {l1 : Option sm_V} {l2 : Option sm_V} {s0 : Int} {Z : Nat → Nat → Int} {Rf : Nat → Nat → Option Nat} {K : Nat → Nat × Nat} {n z : Nat} {Q : Option sm_V → sm_S → Prop} : sm_wp d 121 37 [l0, l1, l2] [.inl s0] (Z, Rf, K, n, z) Q = ((wr s0 = 0 ∨ wr s0 = 1) ∧ Q (some (.inl s0)) (Z, Rf, K, n, z)) := w_zret t121_37 rfl
theorem t122_0 : sm_at 122 0 = some (1, .iload_n 1, 0, 0, 0) := rfl
theorem t122_1 : sm_at 122 1 = some (3, .ifCond .lt 22, 0, 0, 0) := rfl
theorem t122_4 : sm_at 122 4 = some (1, .aload_n 0, 0, 0, 0) := rfl
theorem t122_5 : sm_at 122 5 = some (1, .iload_n 1, 0, 0, 0) := rfl
theorem t122_6 : sm_at 122 6 = some (2, .bipush 10, 0, 0, 0) := rfl
theorem t122_8 : sm_at 122 8 = some (1, .irem, 0, 0, 0) := rfl
theorem t122_9 : sm_at 122 9 = some (1, .iload_n 1, 0, 0, 0) := rfl
theorem t122_10 : sm_at 122 10 = some (2, .bipush 10, 0, 0, 0) := rfl
theorem t122_12 : sm_at 122 12 = some (1, .idiv, 0, 0, 0) := rfl
theorem t122_13 : sm_at 122 13 = some (3, .invokevirtual 79, 121, 3, 0) := rfl
theorem t122_16 : sm_at 122 16 = some (3, .ifCond .eq 7, 0, 0, 0) := rfl
theorem t122_19 : sm_at 122 19 = some (1, .iconst 1, 0, 0, 0) := rfl
theorem t122_20 : sm_at 122 20 = some (3, .goto 4, 0, 0, 0) := rfl
theorem t122_23 : sm_at 122 23 = some (1, .iconst 0, 0, 0, 0) := rfl
theorem t122_24 : sm_at 122 24 = some (1, .ireturn, 1, 0, 0) := rfl
set_option maxRecDepth 10000 in
theorem b122_0 {d : Nat} {l0 : Option sm_V} {x1 : Int} {Z : Nat → Nat → Int} {Rf : Nat → Nat → Option Nat} {K : Nat → Nat × Nat} {n z : Nat} {Q : Option sm_V → sm_S → Prop} : sm_wp d 122 0 [l0, some (.inl x1)] [] (Z, Rf, K, n, z) Q = (if wr x1 < 0 then sm_wp d 122 23 [l0, some (.inl x1)] [] (Z, Rf, K, n, z) Q else sm_wp d 122 4 [l0, some (.inl x1)] [] (Z, Rf, K, n, z) Q) := (w_iload_n t122_0 rfl rfl).trans (w_iflt t122_1 rfl rfl rfl)
set_option maxRecDepth 10000 in
theorem b122_4 {d : Nat} {r0 : Nat} {x1 : Int} {Z : Nat → Nat → Int} {Rf : Nat → Nat → Option Nat} {K : Nat → Nat × Nat} {n z : Nat} {Q : Option sm_V → sm_S → Prop} : sm_wp (d + 1) 122 4 [some (.inr (some r0)), some (.inl x1)] [] (Z, Rf, K, n, z) Q = (¬ (10 : Int) = 0 ∧ ¬ (10 : Int) = 0 ∧ (K r0).1 = 11 ∧ sm_call d 121 [.inr (some r0), .inl (sm_rem x1 10), .inl (sm_div x1 10)] (Z, Rf, K, n, z) (sm_cont (d + 1) 122 16 [some (.inr (some r0)), some (.inl x1)] [] Q)) := (w_aload_n t122_4 rfl rfl).trans ((w_iload_n t122_5 rfl rfl).trans ((w_bipush t122_6 rfl).trans ((w_irem t122_8 rfl wl_10).trans (congrArg (And _) ((w_iload_n t122_9 rfl rfl).trans ((w_bipush t122_10 rfl).trans ((w_idiv t122_12 rfl wl_10).trans (congrArg (And _) (w_callV t122_13 rfl rfl rfl rfl (Nat.le_of_ble_eq_true rfl) (Nat.le_of_ble_eq_true rfl) rfl (by decide))))))))))
set_option maxRecDepth 10000 in
theorem b122_16 {d : Nat} {l0 : Option sm_V} {l1 : Option sm_V} {s0 : Int} {Z : Nat → Nat → Int} {Rf : Nat → Nat → Option Nat} {K : Nat → Nat × Nat} {n z : Nat} {Q : Option sm_V → sm_S → Prop} : sm_wp d 122 16 [l0, l1] [.inl s0] (Z, Rf, K, n, z) Q = (if wr s0 = 0 then sm_wp d 122 23 [l0, l1] [] (Z, Rf, K, n, z) Q else sm_wp d 122 19 [l0, l1] [] (Z, Rf, K, n, z) Q) := w_ifeq t122_16 rfl rfl rfl
set_option maxRecDepth 10000 in
theorem b122_19 {d : Nat} {l0 : Option sm_V} {l1 : Option sm_V} {Z : Nat → Nat → Int} {Rf : Nat → Nat → Option Nat} {K : Nat → Nat × Nat} {n z : Nat} {Q : Option sm_V → sm_S → Prop} : sm_wp d 122 19 [l0, l1] [] (Z, Rf, K, n, z) Q = (sm_wp d 122 24 [l0, l1] [.inl 1] (Z, Rf, K, n, z) Q) := (w_iconst t122_19 rfl).trans (w_goto t122_20 rfl)
set_option maxRecDepth 10000 in
theorem b122_23 {d : Nat} {l0 : Option sm_V} {l1 : Option sm_V} {Z : Nat → Nat → Int} {Rf : Nat → Nat → Option Nat} {K : Nat → Nat × Nat} {n z : Nat} {Q : Option sm_V → sm_S → Prop} : sm_wp d 122 23 [l0, l1] [] (Z, Rf, K, n, z) Q = (sm_wp d 122 24 [l0, l1] [.inl 0] (Z, Rf, K, n, z) Q) := w_iconst t122_23 rfl
set_option maxRecDepth 10000 in
theorem b122_24 {d : Nat} {l0 : Option sm_V} {l1 : Option sm_V} {s0 : Int} {Z : Nat → Nat → Int} {Rf : Nat → Nat → Option Nat} {K : Nat → Nat × Nat} {n z : Nat} {Q : Option sm_V → sm_S → Prop} : sm_wp d 122 24 [l0, l1] [.inl s0] (Z, Rf, K, n, z) Q = ((wr s0 = 0 ∨ wr s0 = 1) ∧ Q (some (.inl s0)) (Z, Rf, K, n, z)) := w_zret t122_24 rfl
theorem t123_0 : sm_at 123 0 = some (1, .iload_n 1, 0, 0, 0) := rfl
theorem t123_1 : sm_at 123 1 = some (1, .iconst 0, 0, 0, 0) := rfl
theorem t123_2 : sm_at 123 2 = some (1, .aload_n 0, 0, 0, 0) := rfl
theorem t123_3 : sm_at 123 3 = some (3, .getfield 7, 11, 0, 0) := rfl
theorem t123_6 : sm_at 123 6 = some (1, .iconst 0, 0, 0, 0) := rfl
theorem t123_7 : sm_at 123 7 = some (1, .iaload, 0, 0, 0) := rfl
theorem t123_8 : sm_at 123 8 = some (3, .invokestatic 75, 120, 3, 0) := rfl
theorem t123_11 : sm_at 123 11 = some (3, .ifCond .eq 21, 0, 0, 0) := rfl
theorem t123_14 : sm_at 123 14 = some (1, .iload_n 2, 0, 0, 0) := rfl
theorem t123_15 : sm_at 123 15 = some (1, .iconst 0, 0, 0, 0) := rfl
theorem t123_16 : sm_at 123 16 = some (1, .aload_n 0, 0, 0, 0) := rfl
theorem t123_17 : sm_at 123 17 = some (3, .getfield 7, 11, 0, 0) := rfl
theorem t123_20 : sm_at 123 20 = some (1, .iconst 1, 0, 0, 0) := rfl
theorem t123_21 : sm_at 123 21 = some (1, .iaload, 0, 0, 0) := rfl
theorem t123_22 : sm_at 123 22 = some (3, .invokestatic 75, 120, 3, 0) := rfl
theorem t123_25 : sm_at 123 25 = some (3, .ifCond .eq 7, 0, 0, 0) := rfl
theorem t123_28 : sm_at 123 28 = some (1, .iconst 1, 0, 0, 0) := rfl
theorem t123_29 : sm_at 123 29 = some (3, .goto 4, 0, 0, 0) := rfl
theorem t123_32 : sm_at 123 32 = some (1, .iconst 0, 0, 0, 0) := rfl
theorem t123_33 : sm_at 123 33 = some (1, .ireturn, 1, 0, 0) := rfl
set_option maxRecDepth 10000 in
theorem b123_0 {d : Nat} {r0 : Nat} {x1 : Int} {l2 : Option sm_V} {Z : Nat → Nat → Int} {Rf : Nat → Nat → Option Nat} {K : Nat → Nat × Nat} {n z : Nat} {Q : Option sm_V → sm_S → Prop} : sm_wp (d + 1) 123 0 [some (.inr (some r0)), some (.inl x1), l2] [] (Z, Rf, K, n, z) Q = ((K r0).1 = 11 ∧ (Rf r0 0).isSome = true ∧ sm_rd (K (((Rf r0 0).getD 0))) ((0 : Int)) ∧ sm_call d 120 [.inl x1, .inl 0, .inl (Z (((Rf r0 0).getD 0)) 0)] (Z, Rf, K, n, z) (sm_cont (d + 1) 123 11 [some (.inr (some r0)), some (.inl x1), l2] [] Q)) := (w_iload_n t123_0 rfl rfl).trans ((w_iconst t123_1 rfl).trans ((w_aload_n t123_2 rfl rfl).trans ((w_getR t123_3 rfl (by decide)).trans (congrArg (And _) (congrArg (And _) ((w_iconst t123_6 rfl).trans ((w_iald t123_7 rfl wl_0).trans (congrArg (And _) (w_callS t123_8 rfl rfl rfl rfl (Nat.le_of_ble_eq_true rfl) (Nat.le_of_ble_eq_true rfl) rfl)))))))))
set_option maxRecDepth 10000 in
theorem b123_11 {d : Nat} {l0 : Option sm_V} {l1 : Option sm_V} {l2 : Option sm_V} {s0 : Int} {Z : Nat → Nat → Int} {Rf : Nat → Nat → Option Nat} {K : Nat → Nat × Nat} {n z : Nat} {Q : Option sm_V → sm_S → Prop} : sm_wp d 123 11 [l0, l1, l2] [.inl s0] (Z, Rf, K, n, z) Q = (if wr s0 = 0 then sm_wp d 123 32 [l0, l1, l2] [] (Z, Rf, K, n, z) Q else sm_wp d 123 14 [l0, l1, l2] [] (Z, Rf, K, n, z) Q) := w_ifeq t123_11 rfl rfl rfl
set_option maxRecDepth 10000 in
theorem b123_14 {d : Nat} {r0 : Nat} {l1 : Option sm_V} {x2 : Int} {Z : Nat → Nat → Int} {Rf : Nat → Nat → Option Nat} {K : Nat → Nat × Nat} {n z : Nat} {Q : Option sm_V → sm_S → Prop} : sm_wp (d + 1) 123 14 [some (.inr (some r0)), l1, some (.inl x2)] [] (Z, Rf, K, n, z) Q = ((K r0).1 = 11 ∧ (Rf r0 0).isSome = true ∧ sm_rd (K (((Rf r0 0).getD 0))) ((1 : Int)) ∧ sm_call d 120 [.inl x2, .inl 0, .inl (Z (((Rf r0 0).getD 0)) 1)] (Z, Rf, K, n, z) (sm_cont (d + 1) 123 25 [some (.inr (some r0)), l1, some (.inl x2)] [] Q)) := (w_iload_n t123_14 rfl rfl).trans ((w_iconst t123_15 rfl).trans ((w_aload_n t123_16 rfl rfl).trans ((w_getR t123_17 rfl (by decide)).trans (congrArg (And _) (congrArg (And _) ((w_iconst t123_20 rfl).trans ((w_iald t123_21 rfl wl_1).trans (congrArg (And _) (w_callS t123_22 rfl rfl rfl rfl (Nat.le_of_ble_eq_true rfl) (Nat.le_of_ble_eq_true rfl) rfl)))))))))
set_option maxRecDepth 10000 in
theorem b123_25 {d : Nat} {l0 : Option sm_V} {l1 : Option sm_V} {l2 : Option sm_V} {s0 : Int} {Z : Nat → Nat → Int} {Rf : Nat → Nat → Option Nat} {K : Nat → Nat × Nat} {n z : Nat} {Q : Option sm_V → sm_S → Prop} : sm_wp d 123 25 [l0, l1, l2] [.inl s0] (Z, Rf, K, n, z) Q = (if wr s0 = 0 then sm_wp d 123 32 [l0, l1, l2] [] (Z, Rf, K, n, z) Q else sm_wp d 123 28 [l0, l1, l2] [] (Z, Rf, K, n, z) Q) := w_ifeq t123_25 rfl rfl rfl
set_option maxRecDepth 10000 in
theorem b123_28 {d : Nat} {l0 : Option sm_V} {l1 : Option sm_V} {l2 : Option sm_V} {Z : Nat → Nat → Int} {Rf : Nat → Nat → Option Nat} {K : Nat → Nat × Nat} {n z : Nat} {Q : Option sm_V → sm_S → Prop} : sm_wp d 123 28 [l0, l1, l2] [] (Z, Rf, K, n, z) Q = (sm_wp d 123 33 [l0, l1, l2] [.inl 1] (Z, Rf, K, n, z) Q) := (w_iconst t123_28 rfl).trans (w_goto t123_29 rfl)
set_option maxRecDepth 10000 in
theorem b123_32 {d : Nat} {l0 : Option sm_V} {l1 : Option sm_V} {l2 : Option sm_V} {Z : Nat → Nat → Int} {Rf : Nat → Nat → Option Nat} {K : Nat → Nat × Nat} {n z : Nat} {Q : Option sm_V → sm_S → Prop} : sm_wp d 123 32 [l0, l1, l2] [] (Z, Rf, K, n, z) Q = (sm_wp d 123 33 [l0, l1, l2] [.inl 0] (Z, Rf, K, n, z) Q) := w_iconst t123_32 rfl
set_option maxRecDepth 10000 in
theorem b123_33 {d : Nat} {l0 : Option sm_V} {l1 : Option sm_V} {l2 : Option sm_V} {s0 : Int} {Z : Nat → Nat → Int} {Rf : Nat → Nat → Option Nat} {K : Nat → Nat × Nat} {n z : Nat} {Q : Option sm_V → sm_S → Prop} : sm_wp d 123 33 [l0, l1, l2] [.inl s0] (Z, Rf, K, n, z) Q = ((wr s0 = 0 ∨ wr s0 = 1) ∧ Q (some (.inl s0)) (Z, Rf, K, n, z)) := w_zret t123_33 rfl
theorem t124_0 : sm_at 124 0 = some (1, .aload_n 0, 0, 0, 0) := rfl
theorem t124_1 : sm_at 124 1 = some (3, .getfield 7, 11, 0, 0) := rfl
theorem t124_4 : sm_at 124 4 = some (1, .iconst 2, 0, 0, 0) := rfl
theorem t124_5 : sm_at 124 5 = some (1, .iaload, 0, 0, 0) := rfl
theorem t124_6 : sm_at 124 6 = some (1, .istore_n 2, 0, 0, 0) := rfl
theorem t124_7 : sm_at 124 7 = some (1, .aload_n 0, 0, 0, 0) := rfl
theorem t124_8 : sm_at 124 8 = some (3, .getfield 7, 11, 0, 0) := rfl
theorem t124_11 : sm_at 124 11 = some (1, .iconst 2, 0, 0, 0) := rfl
theorem t124_12 : sm_at 124 12 = some (1, .iload_n 1, 0, 0, 0) := rfl
theorem t124_13 : sm_at 124 13 = some (1, .iastore, 0, 0, 0) := rfl
theorem t124_14 : sm_at 124 14 = some (1, .iload_n 2, 0, 0, 0) := rfl
theorem t124_15 : sm_at 124 15 = some (1, .ireturn, 0, 0, 0) := rfl
set_option maxRecDepth 10000 in
theorem b124_0 {d : Nat} {r0 : Nat} {x1 : Int} {l2 : Option sm_V} {Z : Nat → Nat → Int} {Rf : Nat → Nat → Option Nat} {K : Nat → Nat × Nat} {n z : Nat} {Q : Option sm_V → sm_S → Prop} : sm_wp d 124 0 [some (.inr (some r0)), some (.inl x1), l2] [] (Z, Rf, K, n, z) Q = ((K r0).1 = 11 ∧ (Rf r0 0).isSome = true ∧ sm_rd (K (((Rf r0 0).getD 0))) ((2 : Int)) ∧ (K r0).1 = 11 ∧ (Rf r0 0).isSome = true ∧ sm_wt (K (((Rf r0 0).getD 0))) ((2 : Int)) ∧ Q (some (.inl (Z (((Rf r0 0).getD 0)) 2))) (sm_u Z (((Rf r0 0).getD 0)) 2 x1, Rf, K, n, z)) := (w_aload_n t124_0 rfl rfl).trans ((w_getR t124_1 rfl (by decide)).trans (congrArg (And _) (congrArg (And _) ((w_iconst t124_4 rfl).trans ((w_iald t124_5 rfl wl_2).trans (congrArg (And _) ((w_istore_n t124_6 rfl (Nat.le_of_ble_eq_true rfl) rfl).trans ((w_aload_n t124_7 rfl rfl).trans ((w_getR t124_8 rfl (by decide)).trans (congrArg (And _) (congrArg (And _) ((w_iconst t124_11 rfl).trans ((w_iload_n t124_12 rfl rfl).trans ((w_iast t124_13 rfl wl_2).trans (congrArg (And _) ((w_iload_n t124_14 rfl rfl).trans (w_iret t124_15)))))))))))))))))
theorem t125_0 : sm_at 125 0 = some (1, .aload_n 0, 0, 0, 0) := rfl
theorem t125_1 : sm_at 125 1 = some (3, .getfield 7, 11, 0, 0) := rfl
theorem t125_4 : sm_at 125 4 = some (1, .iconst 2, 0, 0, 0) := rfl
theorem t125_5 : sm_at 125 5 = some (2, .ldc 83, 0, 0, 1664525) := rfl
theorem t125_7 : sm_at 125 7 = some (1, .aload_n 0, 0, 0, 0) := rfl
theorem t125_8 : sm_at 125 8 = some (3, .getfield 7, 11, 0, 0) := rfl
theorem t125_11 : sm_at 125 11 = some (1, .iconst 2, 0, 0, 0) := rfl
theorem t125_12 : sm_at 125 12 = some (1, .iaload, 0, 0, 0) := rfl
theorem t125_13 : sm_at 125 13 = some (1, .imul, 0, 0, 0) := rfl
theorem t125_14 : sm_at 125 14 = some (2, .ldc 84, 0, 0, 1013904223) := rfl
theorem t125_16 : sm_at 125 16 = some (1, .iadd, 0, 0, 0) := rfl
theorem t125_17 : sm_at 125 17 = some (1, .iastore, 0, 0, 0) := rfl
theorem t125_18 : sm_at 125 18 = some (1, .aload_n 0, 0, 0, 0) := rfl
theorem t125_19 : sm_at 125 19 = some (3, .getfield 7, 11, 0, 0) := rfl
theorem t125_22 : sm_at 125 22 = some (1, .iconst 2, 0, 0, 0) := rfl
theorem t125_23 : sm_at 125 23 = some (1, .iaload, 0, 0, 0) := rfl
theorem t125_24 : sm_at 125 24 = some (2, .bipush 8, 0, 0, 0) := rfl
theorem t125_26 : sm_at 125 26 = some (1, .iushr, 0, 0, 0) := rfl
theorem t125_27 : sm_at 125 27 = some (1, .iload_n 1, 0, 0, 0) := rfl
theorem t125_28 : sm_at 125 28 = some (1, .irem, 0, 0, 0) := rfl
theorem t125_29 : sm_at 125 29 = some (1, .ireturn, 0, 0, 0) := rfl
set_option maxRecDepth 10000 in
theorem b125_0 {d : Nat} {r0 : Nat} {x1 : Int} {Z : Nat → Nat → Int} {Rf : Nat → Nat → Option Nat} {K : Nat → Nat × Nat} {n z : Nat} {Q : Option sm_V → sm_S → Prop} : sm_wp d 125 0 [some (.inr (some r0)), some (.inl x1)] [] (Z, Rf, K, n, z) Q = ((K r0).1 = 11 ∧ (Rf r0 0).isSome = true ∧ (K r0).1 = 11 ∧ (Rf r0 0).isSome = true ∧ sm_rd (K (((Rf r0 0).getD 0))) ((2 : Int)) ∧ sm_wt (K (((Rf r0 0).getD 0))) ((2 : Int)) ∧ (K r0).1 = 11 ∧ (Rf r0 0).isSome = true ∧ sm_rd (K (((Rf r0 0).getD 0))) ((2 : Int)) ∧ ¬ wr x1 = 0 ∧ Q (some (.inl (sm_rem (sm_ushr ((sm_u Z (((Rf r0 0).getD 0)) 2 ((1664525 * (Z (((Rf r0 0).getD 0)) 2)) + 1013904223)) (((Rf r0 0).getD 0)) 2) 8) x1))) (sm_u Z (((Rf r0 0).getD 0)) 2 ((1664525 * (Z (((Rf r0 0).getD 0)) 2)) + 1013904223), Rf, K, n, z)) := (w_aload_n t125_0 rfl rfl).trans ((w_getR t125_1 rfl (by decide)).trans (congrArg (And _) (congrArg (And _) ((w_iconst t125_4 rfl).trans ((w_ldci t125_5 rfl).trans ((w_aload_n t125_7 rfl rfl).trans ((w_getR t125_8 rfl (by decide)).trans (congrArg (And _) (congrArg (And _) ((w_iconst t125_11 rfl).trans ((w_iald t125_12 rfl wl_2).trans (congrArg (And _) ((w_imul t125_13 rfl).trans ((w_ldci t125_14 rfl).trans ((w_iadd t125_16 rfl).trans ((w_iast t125_17 rfl wl_2).trans (congrArg (And _) ((w_aload_n t125_18 rfl rfl).trans ((w_getR t125_19 rfl (by decide)).trans (congrArg (And _) (congrArg (And _) ((w_iconst t125_22 rfl).trans ((w_iald t125_23 rfl wl_2).trans (congrArg (And _) ((w_bipush t125_24 rfl).trans ((w_iushr t125_26 rfl).trans ((w_iload_n t125_27 rfl rfl).trans ((w_irem t125_28 rfl rfl).trans (congrArg (And _) (w_iret t125_29))))))))))))))))))))))))))))))
theorem t126_0 : sm_at 126 0 = some (1, .iload_n 1, 0, 0, 0) := rfl
theorem t126_1 : sm_at 126 1 = some (1, .iconst 2, 0, 0, 0) := rfl
theorem t126_2 : sm_at 126 2 = some (2, .bipush 10, 0, 0, 0) := rfl
theorem t126_4 : sm_at 126 4 = some (3, .invokestatic 75, 120, 3, 0) := rfl
theorem t126_7 : sm_at 126 7 = some (3, .ifCond .eq 13, 0, 0, 0) := rfl
theorem t126_10 : sm_at 126 10 = some (1, .iload_n 2, 0, 0, 0) := rfl
theorem t126_11 : sm_at 126 11 = some (1, .iconst 2, 0, 0, 0) := rfl
theorem t126_12 : sm_at 126 12 = some (2, .bipush 10, 0, 0, 0) := rfl
theorem t126_14 : sm_at 126 14 = some (3, .invokestatic 75, 120, 3, 0) := rfl
theorem t126_17 : sm_at 126 17 = some (3, .ifCond .ne 5, 0, 0, 0) := rfl
theorem t126_20 : sm_at 126 20 = some (1, .iconst 0, 0, 0, 0) := rfl
theorem t126_21 : sm_at 126 21 = some (1, .ireturn, 1, 0, 0) := rfl
theorem t126_22 : sm_at 126 22 = some (1, .aload_n 0, 0, 0, 0) := rfl
theorem t126_23 : sm_at 126 23 = some (1, .iload_n 1, 0, 0, 0) := rfl
theorem t126_24 : sm_at 126 24 = some (1, .iload_n 2, 0, 0, 0) := rfl
theorem t126_25 : sm_at 126 25 = some (3, .invokevirtual 65, 118, 3, 0) := rfl
theorem t126_28 : sm_at 126 28 = some (1, .iconst 1, 0, 0, 0) := rfl
theorem t126_29 : sm_at 126 29 = some (1, .ireturn, 1, 0, 0) := rfl
set_option maxRecDepth 10000 in
theorem b126_0 {d : Nat} {l0 : Option sm_V} {x1 : Int} {l2 : Option sm_V} {Z : Nat → Nat → Int} {Rf : Nat → Nat → Option Nat} {K : Nat → Nat × Nat} {n z : Nat} {Q : Option sm_V → sm_S → Prop} : sm_wp (d + 1) 126 0 [l0, some (.inl x1), l2] [] (Z, Rf, K, n, z) Q = (sm_call d 120 [.inl x1, .inl 2, .inl 10] (Z, Rf, K, n, z) (sm_cont (d + 1) 126 7 [l0, some (.inl x1), l2] [] Q)) := (w_iload_n t126_0 rfl rfl).trans ((w_iconst t126_1 rfl).trans ((w_bipush t126_2 rfl).trans (w_callS t126_4 rfl rfl rfl rfl (Nat.le_of_ble_eq_true rfl) (Nat.le_of_ble_eq_true rfl) rfl)))
set_option maxRecDepth 10000 in
theorem b126_7 {d : Nat} {l0 : Option sm_V} {l1 : Option sm_V} {l2 : Option sm_V} {s0 : Int} {Z : Nat → Nat → Int} {Rf : Nat → Nat → Option Nat} {K : Nat → Nat × Nat} {n z : Nat} {Q : Option sm_V → sm_S → Prop} : sm_wp d 126 7 [l0, l1, l2] [.inl s0] (Z, Rf, K, n, z) Q = (if wr s0 = 0 then sm_wp d 126 20 [l0, l1, l2] [] (Z, Rf, K, n, z) Q else sm_wp d 126 10 [l0, l1, l2] [] (Z, Rf, K, n, z) Q) := w_ifeq t126_7 rfl rfl rfl
set_option maxRecDepth 10000 in
theorem b126_10 {d : Nat} {l0 : Option sm_V} {l1 : Option sm_V} {x2 : Int} {Z : Nat → Nat → Int} {Rf : Nat → Nat → Option Nat} {K : Nat → Nat × Nat} {n z : Nat} {Q : Option sm_V → sm_S → Prop} : sm_wp (d + 1) 126 10 [l0, l1, some (.inl x2)] [] (Z, Rf, K, n, z) Q = (sm_call d 120 [.inl x2, .inl 2, .inl 10] (Z, Rf, K, n, z) (sm_cont (d + 1) 126 17 [l0, l1, some (.inl x2)] [] Q)) := (w_iload_n t126_10 rfl rfl).trans ((w_iconst t126_11 rfl).trans ((w_bipush t126_12 rfl).trans (w_callS t126_14 rfl rfl rfl rfl (Nat.le_of_ble_eq_true rfl) (Nat.le_of_ble_eq_true rfl) rfl)))
set_option maxRecDepth 10000 in
theorem b126_17 {d : Nat} {l0 : Option sm_V} {l1 : Option sm_V} {l2 : Option sm_V} {s0 : Int} {Z : Nat → Nat → Int} {Rf : Nat → Nat → Option Nat} {K : Nat → Nat × Nat} {n z : Nat} {Q : Option sm_V → sm_S → Prop} : sm_wp d 126 17 [l0, l1, l2] [.inl s0] (Z, Rf, K, n, z) Q = (if wr s0 = 0 then sm_wp d 126 20 [l0, l1, l2] [] (Z, Rf, K, n, z) Q else sm_wp d 126 22 [l0, l1, l2] [] (Z, Rf, K, n, z) Q) := w_ifne t126_17 rfl rfl rfl
set_option maxRecDepth 10000 in
theorem b126_20 {d : Nat} {l0 : Option sm_V} {l1 : Option sm_V} {l2 : Option sm_V} {Z : Nat → Nat → Int} {Rf : Nat → Nat → Option Nat} {K : Nat → Nat × Nat} {n z : Nat} {Q : Option sm_V → sm_S → Prop} : sm_wp d 126 20 [l0, l1, l2] [] (Z, Rf, K, n, z) Q = (((0 : Int) = 0 ∨ (0 : Int) = 1) ∧ Q (some (.inl 0)) (Z, Rf, K, n, z)) := (w_iconst t126_20 rfl).trans (w_zret t126_21 wl_0)
set_option maxRecDepth 10000 in
theorem b126_22 {d : Nat} {r0 : Nat} {x1 : Int} {x2 : Int} {Z : Nat → Nat → Int} {Rf : Nat → Nat → Option Nat} {K : Nat → Nat × Nat} {n z : Nat} {Q : Option sm_V → sm_S → Prop} : sm_wp (d + 1) 126 22 [some (.inr (some r0)), some (.inl x1), some (.inl x2)] [] (Z, Rf, K, n, z) Q = ((K r0).1 = 11 ∧ sm_call d 118 [.inr (some r0), .inl x1, .inl x2] (Z, Rf, K, n, z) (sm_cont (d + 1) 126 28 [some (.inr (some r0)), some (.inl x1), some (.inl x2)] [] Q)) := (w_aload_n t126_22 rfl rfl).trans ((w_iload_n t126_23 rfl rfl).trans ((w_iload_n t126_24 rfl rfl).trans (w_callV t126_25 rfl rfl rfl rfl (Nat.le_of_ble_eq_true rfl) (Nat.le_of_ble_eq_true rfl) rfl (by decide))))
set_option maxRecDepth 10000 in
theorem b126_28 {d : Nat} {l0 : Option sm_V} {l1 : Option sm_V} {l2 : Option sm_V} {Z : Nat → Nat → Int} {Rf : Nat → Nat → Option Nat} {K : Nat → Nat × Nat} {n z : Nat} {Q : Option sm_V → sm_S → Prop} : sm_wp d 126 28 [l0, l1, l2] [] (Z, Rf, K, n, z) Q = (((1 : Int) = 0 ∨ (1 : Int) = 1) ∧ Q (some (.inl 1)) (Z, Rf, K, n, z)) := (w_iconst t126_28 rfl).trans (w_zret t126_29 wl_1)
theorem t127_0 : sm_at 127 0 = some (1, .aload_n 0, 0, 0, 0) := rfl
theorem t127_1 : sm_at 127 1 = some (1, .iload_n 1, 0, 0, 0) := rfl
theorem t127_2 : sm_at 127 2 = some (3, .invokevirtual 85, 122, 2, 0) := rfl
theorem t127_5 : sm_at 127 5 = some (3, .ifCond .eq 31, 0, 0, 0) := rfl
theorem t127_8 : sm_at 127 8 = some (1, .iload_n 2, 0, 0, 0) := rfl
theorem t127_9 : sm_at 127 9 = some (1, .iconst 0, 0, 0, 0) := rfl
theorem t127_10 : sm_at 127 10 = some (1, .iconst 2, 0, 0, 0) := rfl
theorem t127_11 : sm_at 127 11 = some (3, .invokestatic 75, 120, 3, 0) := rfl
theorem t127_14 : sm_at 127 14 = some (3, .ifCond .eq 22, 0, 0, 0) := rfl
theorem t127_17 : sm_at 127 17 = some (1, .iload_n 3, 0, 0, 0) := rfl
theorem t127_18 : sm_at 127 18 = some (1, .iconst 0, 0, 0, 0) := rfl
theorem t127_19 : sm_at 127 19 = some (1, .iload_n 2, 0, 0, 0) := rfl
theorem t127_20 : sm_at 127 20 = some (1, .iconst 2, 0, 0, 0) := rfl
theorem t127_21 : sm_at 127 21 = some (3, .if_icmp .ne 7, 0, 0, 0) := rfl
theorem t127_24 : sm_at 127 24 = some (1, .iconst 1, 0, 0, 0) := rfl
theorem t127_25 : sm_at 127 25 = some (3, .goto 5, 0, 0, 0) := rfl
theorem t127_28 : sm_at 127 28 = some (2, .bipush 99, 0, 0, 0) := rfl
theorem t127_30 : sm_at 127 30 = some (3, .invokestatic 75, 120, 3, 0) := rfl
theorem t127_33 : sm_at 127 33 = some (3, .ifCond .ne 5, 0, 0, 0) := rfl
theorem t127_36 : sm_at 127 36 = some (1, .iconst 0, 0, 0, 0) := rfl
theorem t127_37 : sm_at 127 37 = some (1, .ireturn, 1, 0, 0) := rfl
theorem t127_38 : sm_at 127 38 = some (1, .aload_n 0, 0, 0, 0) := rfl
theorem t127_39 : sm_at 127 39 = some (3, .getfield 7, 11, 0, 0) := rfl
theorem t127_42 : sm_at 127 42 = some (1, .iload_n 2, 0, 0, 0) := rfl
theorem t127_43 : sm_at 127 43 = some (3, .ifCond .ne 8, 0, 0, 0) := rfl
theorem t127_46 : sm_at 127 46 = some (2, .bipush 20, 0, 0, 0) := rfl
theorem t127_48 : sm_at 127 48 = some (3, .goto 17, 0, 0, 0) := rfl
theorem t127_51 : sm_at 127 51 = some (1, .iload_n 2, 0, 0, 0) := rfl
theorem t127_52 : sm_at 127 52 = some (1, .iconst 1, 0, 0, 0) := rfl
theorem t127_53 : sm_at 127 53 = some (3, .if_icmp .ne 9, 0, 0, 0) := rfl
theorem t127_56 : sm_at 127 56 = some (3, .sipush 420, 0, 0, 0) := rfl
theorem t127_59 : sm_at 127 59 = some (3, .goto 6, 0, 0, 0) := rfl
theorem t127_62 : sm_at 127 62 = some (3, .sipush 320, 0, 0, 0) := rfl
theorem t127_65 : sm_at 127 65 = some (1, .iload_n 1, 0, 0, 0) := rfl
theorem t127_66 : sm_at 127 66 = some (1, .iadd, 0, 0, 0) := rfl
theorem t127_67 : sm_at 127 67 = some (1, .iload_n 3, 0, 0, 0) := rfl
theorem t127_68 : sm_at 127 68 = some (1, .iastore, 0, 0, 0) := rfl
theorem t127_69 : sm_at 127 69 = some (1, .iconst 1, 0, 0, 0) := rfl
theorem t127_70 : sm_at 127 70 = some (1, .ireturn, 1, 0, 0) := rfl
set_option maxRecDepth 10000 in
theorem b127_0 {d : Nat} {r0 : Nat} {x1 : Int} {l2 : Option sm_V} {l3 : Option sm_V} {Z : Nat → Nat → Int} {Rf : Nat → Nat → Option Nat} {K : Nat → Nat × Nat} {n z : Nat} {Q : Option sm_V → sm_S → Prop} : sm_wp (d + 1) 127 0 [some (.inr (some r0)), some (.inl x1), l2, l3] [] (Z, Rf, K, n, z) Q = ((K r0).1 = 11 ∧ sm_call d 122 [.inr (some r0), .inl x1] (Z, Rf, K, n, z) (sm_cont (d + 1) 127 5 [some (.inr (some r0)), some (.inl x1), l2, l3] [] Q)) := (w_aload_n t127_0 rfl rfl).trans ((w_iload_n t127_1 rfl rfl).trans (w_callV t127_2 rfl rfl rfl rfl (Nat.le_of_ble_eq_true rfl) (Nat.le_of_ble_eq_true rfl) rfl (by decide)))
set_option maxRecDepth 10000 in
theorem b127_5 {d : Nat} {l0 : Option sm_V} {l1 : Option sm_V} {l2 : Option sm_V} {l3 : Option sm_V} {s0 : Int} {Z : Nat → Nat → Int} {Rf : Nat → Nat → Option Nat} {K : Nat → Nat × Nat} {n z : Nat} {Q : Option sm_V → sm_S → Prop} : sm_wp d 127 5 [l0, l1, l2, l3] [.inl s0] (Z, Rf, K, n, z) Q = (if wr s0 = 0 then sm_wp d 127 36 [l0, l1, l2, l3] [] (Z, Rf, K, n, z) Q else sm_wp d 127 8 [l0, l1, l2, l3] [] (Z, Rf, K, n, z) Q) := w_ifeq t127_5 rfl rfl rfl
set_option maxRecDepth 10000 in
theorem b127_8 {d : Nat} {l0 : Option sm_V} {l1 : Option sm_V} {x2 : Int} {l3 : Option sm_V} {Z : Nat → Nat → Int} {Rf : Nat → Nat → Option Nat} {K : Nat → Nat × Nat} {n z : Nat} {Q : Option sm_V → sm_S → Prop} : sm_wp (d + 1) 127 8 [l0, l1, some (.inl x2), l3] [] (Z, Rf, K, n, z) Q = (sm_call d 120 [.inl x2, .inl 0, .inl 2] (Z, Rf, K, n, z) (sm_cont (d + 1) 127 14 [l0, l1, some (.inl x2), l3] [] Q)) := (w_iload_n t127_8 rfl rfl).trans ((w_iconst t127_9 rfl).trans ((w_iconst t127_10 rfl).trans (w_callS t127_11 rfl rfl rfl rfl (Nat.le_of_ble_eq_true rfl) (Nat.le_of_ble_eq_true rfl) rfl)))
set_option maxRecDepth 10000 in
theorem b127_14 {d : Nat} {l0 : Option sm_V} {l1 : Option sm_V} {l2 : Option sm_V} {l3 : Option sm_V} {s0 : Int} {Z : Nat → Nat → Int} {Rf : Nat → Nat → Option Nat} {K : Nat → Nat × Nat} {n z : Nat} {Q : Option sm_V → sm_S → Prop} : sm_wp d 127 14 [l0, l1, l2, l3] [.inl s0] (Z, Rf, K, n, z) Q = (if wr s0 = 0 then sm_wp d 127 36 [l0, l1, l2, l3] [] (Z, Rf, K, n, z) Q else sm_wp d 127 17 [l0, l1, l2, l3] [] (Z, Rf, K, n, z) Q) := w_ifeq t127_14 rfl rfl rfl
set_option maxRecDepth 10000 in
theorem b127_17 {d : Nat} {l0 : Option sm_V} {l1 : Option sm_V} {x2 : Int} {x3 : Int} {Z : Nat → Nat → Int} {Rf : Nat → Nat → Option Nat} {K : Nat → Nat × Nat} {n z : Nat} {Q : Option sm_V → sm_S → Prop} : sm_wp d 127 17 [l0, l1, some (.inl x2), some (.inl x3)] [] (Z, Rf, K, n, z) Q = (if wr x2 = (2 : Int) then sm_wp d 127 24 [l0, l1, some (.inl x2), some (.inl x3)] [.inl 0, .inl x3] (Z, Rf, K, n, z) Q else sm_wp d 127 28 [l0, l1, some (.inl x2), some (.inl x3)] [.inl 0, .inl x3] (Z, Rf, K, n, z) Q) := (w_iload_n t127_17 rfl rfl).trans ((w_iconst t127_18 rfl).trans ((w_iload_n t127_19 rfl rfl).trans ((w_iconst t127_20 rfl).trans (w_icne t127_21 rfl wl_2 rfl rfl))))
set_option maxRecDepth 10000 in
theorem b127_24 {d : Nat} {l0 : Option sm_V} {l1 : Option sm_V} {l2 : Option sm_V} {l3 : Option sm_V} {s0 : Int} {s1 : Int} {Z : Nat → Nat → Int} {Rf : Nat → Nat → Option Nat} {K : Nat → Nat × Nat} {n z : Nat} {Q : Option sm_V → sm_S → Prop} : sm_wp d 127 24 [l0, l1, l2, l3] [.inl s1, .inl s0] (Z, Rf, K, n, z) Q = (sm_wp d 127 30 [l0, l1, l2, l3] [.inl 1, .inl s1, .inl s0] (Z, Rf, K, n, z) Q) := (w_iconst t127_24 rfl).trans (w_goto t127_25 rfl)
set_option maxRecDepth 10000 in
theorem b127_28 {d : Nat} {l0 : Option sm_V} {l1 : Option sm_V} {l2 : Option sm_V} {l3 : Option sm_V} {s0 : Int} {s1 : Int} {Z : Nat → Nat → Int} {Rf : Nat → Nat → Option Nat} {K : Nat → Nat × Nat} {n z : Nat} {Q : Option sm_V → sm_S → Prop} : sm_wp d 127 28 [l0, l1, l2, l3] [.inl s1, .inl s0] (Z, Rf, K, n, z) Q = (sm_wp d 127 30 [l0, l1, l2, l3] [.inl 99, .inl s1, .inl s0] (Z, Rf, K, n, z) Q) := w_bipush t127_28 rfl
set_option maxRecDepth 10000 in
theorem b127_30 {d : Nat} {l0 : Option sm_V} {l1 : Option sm_V} {l2 : Option sm_V} {l3 : Option sm_V} {s0 : Int} {s1 : Int} {s2 : Int} {Z : Nat → Nat → Int} {Rf : Nat → Nat → Option Nat} {K : Nat → Nat × Nat} {n z : Nat} {Q : Option sm_V → sm_S → Prop} : sm_wp (d + 1) 127 30 [l0, l1, l2, l3] [.inl s2, .inl s1, .inl s0] (Z, Rf, K, n, z) Q = (sm_call d 120 [.inl s0, .inl s1, .inl s2] (Z, Rf, K, n, z) (sm_cont (d + 1) 127 33 [l0, l1, l2, l3] [] Q)) := w_callS t127_30 rfl rfl rfl rfl (Nat.le_of_ble_eq_true rfl) (Nat.le_of_ble_eq_true rfl) rfl
set_option maxRecDepth 10000 in
theorem b127_33 {d : Nat} {l0 : Option sm_V} {l1 : Option sm_V} {l2 : Option sm_V} {l3 : Option sm_V} {s0 : Int} {Z : Nat → Nat → Int} {Rf : Nat → Nat → Option Nat} {K : Nat → Nat × Nat} {n z : Nat} {Q : Option sm_V → sm_S → Prop} : sm_wp d 127 33 [l0, l1, l2, l3] [.inl s0] (Z, Rf, K, n, z) Q = (if wr s0 = 0 then sm_wp d 127 36 [l0, l1, l2, l3] [] (Z, Rf, K, n, z) Q else sm_wp d 127 38 [l0, l1, l2, l3] [] (Z, Rf, K, n, z) Q) := w_ifne t127_33 rfl rfl rfl
set_option maxRecDepth 10000 in
theorem b127_36 {d : Nat} {l0 : Option sm_V} {l1 : Option sm_V} {l2 : Option sm_V} {l3 : Option sm_V} {Z : Nat → Nat → Int} {Rf : Nat → Nat → Option Nat} {K : Nat → Nat × Nat} {n z : Nat} {Q : Option sm_V → sm_S → Prop} : sm_wp d 127 36 [l0, l1, l2, l3] [] (Z, Rf, K, n, z) Q = (((0 : Int) = 0 ∨ (0 : Int) = 1) ∧ Q (some (.inl 0)) (Z, Rf, K, n, z)) := (w_iconst t127_36 rfl).trans (w_zret t127_37 wl_0)
set_option maxRecDepth 10000 in
theorem b127_38 {d : Nat} {r0 : Nat} {l1 : Option sm_V} {x2 : Int} {l3 : Option sm_V} {Z : Nat → Nat → Int} {Rf : Nat → Nat → Option Nat} {K : Nat → Nat × Nat} {n z : Nat} {Q : Option sm_V → sm_S → Prop} : sm_wp d 127 38 [some (.inr (some r0)), l1, some (.inl x2), l3] [] (Z, Rf, K, n, z) Q = ((K r0).1 = 11 ∧ (Rf r0 0).isSome = true ∧ (if wr x2 = 0 then sm_wp d 127 46 [some (.inr (some r0)), l1, some (.inl x2), l3] [.inr (some ((Rf r0 0).getD 0))] (Z, Rf, K, n, z) Q else sm_wp d 127 51 [some (.inr (some r0)), l1, some (.inl x2), l3] [.inr (some ((Rf r0 0).getD 0))] (Z, Rf, K, n, z) Q)) := (w_aload_n t127_38 rfl rfl).trans ((w_getR t127_39 rfl (by decide)).trans (congrArg (And _) (congrArg (And _) ((w_iload_n t127_42 rfl rfl).trans (w_ifne t127_43 rfl rfl rfl)))))
set_option maxRecDepth 10000 in
theorem b127_46 {d : Nat} {l0 : Option sm_V} {l1 : Option sm_V} {l2 : Option sm_V} {l3 : Option sm_V} {qs0 : Option Nat} {Z : Nat → Nat → Int} {Rf : Nat → Nat → Option Nat} {K : Nat → Nat × Nat} {n z : Nat} {Q : Option sm_V → sm_S → Prop} : sm_wp d 127 46 [l0, l1, l2, l3] [.inr qs0] (Z, Rf, K, n, z) Q = (sm_wp d 127 65 [l0, l1, l2, l3] [.inl 20, .inr qs0] (Z, Rf, K, n, z) Q) := (w_bipush t127_46 rfl).trans (w_goto t127_48 rfl)
set_option maxRecDepth 10000 in
theorem b127_51 {d : Nat} {l0 : Option sm_V} {l1 : Option sm_V} {x2 : Int} {l3 : Option sm_V} {qs0 : Option Nat} {Z : Nat → Nat → Int} {Rf : Nat → Nat → Option Nat} {K : Nat → Nat × Nat} {n z : Nat} {Q : Option sm_V → sm_S → Prop} : sm_wp d 127 51 [l0, l1, some (.inl x2), l3] [.inr qs0] (Z, Rf, K, n, z) Q = (if wr x2 = (1 : Int) then sm_wp d 127 56 [l0, l1, some (.inl x2), l3] [.inr qs0] (Z, Rf, K, n, z) Q else sm_wp d 127 62 [l0, l1, some (.inl x2), l3] [.inr qs0] (Z, Rf, K, n, z) Q) := (w_iload_n t127_51 rfl rfl).trans ((w_iconst t127_52 rfl).trans (w_icne t127_53 rfl wl_1 rfl rfl))
set_option maxRecDepth 10000 in
theorem b127_56 {d : Nat} {l0 : Option sm_V} {l1 : Option sm_V} {l2 : Option sm_V} {l3 : Option sm_V} {qs0 : Option Nat} {Z : Nat → Nat → Int} {Rf : Nat → Nat → Option Nat} {K : Nat → Nat × Nat} {n z : Nat} {Q : Option sm_V → sm_S → Prop} : sm_wp d 127 56 [l0, l1, l2, l3] [.inr qs0] (Z, Rf, K, n, z) Q = (sm_wp d 127 65 [l0, l1, l2, l3] [.inl 420, .inr qs0] (Z, Rf, K, n, z) Q) := (w_sipush t127_56 rfl).trans (w_goto t127_59 rfl)
set_option maxRecDepth 10000 in
theorem b127_62 {d : Nat} {l0 : Option sm_V} {l1 : Option sm_V} {l2 : Option sm_V} {l3 : Option sm_V} {qs0 : Option Nat} {Z : Nat → Nat → Int} {Rf : Nat → Nat → Option Nat} {K : Nat → Nat × Nat} {n z : Nat} {Q : Option sm_V → sm_S → Prop} : sm_wp d 127 62 [l0, l1, l2, l3] [.inr qs0] (Z, Rf, K, n, z) Q = (sm_wp d 127 65 [l0, l1, l2, l3] [.inl 320, .inr qs0] (Z, Rf, K, n, z) Q) := w_sipush t127_62 rfl
set_option maxRecDepth 10000 in
theorem b127_65 {d : Nat} {l0 : Option sm_V} {x1 : Int} {l2 : Option sm_V} {x3 : Int} {rs0 : Nat} {s1 : Int} {Z : Nat → Nat → Int} {Rf : Nat → Nat → Option Nat} {K : Nat → Nat × Nat} {n z : Nat} {Q : Option sm_V → sm_S → Prop} : sm_wp d 127 65 [l0, some (.inl x1), l2, some (.inl x3)] [.inl s1, .inr (some rs0)] (Z, Rf, K, n, z) Q = (sm_wt (K rs0) (wr (s1 + x1)) ∧ ((1 : Int) = 0 ∨ (1 : Int) = 1) ∧ Q (some (.inl 1)) (sm_u Z rs0 ((wr (s1 + x1)).toNat) x3, Rf, K, n, z)) := (w_iload_n t127_65 rfl rfl).trans ((w_iadd t127_66 rfl).trans ((w_iload_n t127_67 rfl rfl).trans ((w_iast t127_68 rfl rfl).trans (congrArg (And _) ((w_iconst t127_69 rfl).trans (w_zret t127_70 wl_1))))))
theorem t128_0 : sm_at 128 0 = some (1, .aload_n 0, 0, 0, 0) := rfl
theorem t128_1 : sm_at 128 1 = some (3, .getfield 72, 11, 4, 0) := rfl
theorem t128_4 : sm_at 128 4 = some (2, .bipush 10, 0, 0, 0) := rfl
theorem t128_6 : sm_at 128 6 = some (3, .if_icmp .ne 41, 0, 0, 0) := rfl
theorem t128_9 : sm_at 128 9 = some (1, .iconst 1, 0, 0, 0) := rfl
theorem t128_10 : sm_at 128 10 = some (1, .istore_n 2, 0, 0, 0) := rfl
theorem t128_11 : sm_at 128 11 = some (1, .iload_n 2, 0, 0, 0) := rfl
theorem t128_12 : sm_at 128 12 = some (2, .bipush 10, 0, 0, 0) := rfl
theorem t128_14 : sm_at 128 14 = some (3, .if_icmp .ge 23, 0, 0, 0) := rfl
theorem t128_17 : sm_at 128 17 = some (1, .aload_n 0, 0, 0, 0) := rfl
theorem t128_18 : sm_at 128 18 = some (3, .getfield 19, 11, 3, 0) := rfl
theorem t128_21 : sm_at 128 21 = some (1, .iload_n 2, 0, 0, 0) := rfl
theorem t128_22 : sm_at 128 22 = some (1, .iconst 1, 0, 0, 0) := rfl
theorem t128_23 : sm_at 128 23 = some (1, .isub, 0, 0, 0) := rfl
theorem t128_24 : sm_at 128 24 = some (1, .aload_n 0, 0, 0, 0) := rfl
theorem t128_25 : sm_at 128 25 = some (3, .getfield 19, 11, 3, 0) := rfl
theorem t128_28 : sm_at 128 28 = some (1, .iload_n 2, 0, 0, 0) := rfl
theorem t128_29 : sm_at 128 29 = some (1, .iaload, 0, 0, 0) := rfl
theorem t128_30 : sm_at 128 30 = some (1, .iastore, 0, 0, 0) := rfl
theorem t128_31 : sm_at 128 31 = some (3, .iinc 2 1, 0, 0, 0) := rfl
theorem t128_34 : sm_at 128 34 = some (3, .goto (-23), 0, 0, 0) := rfl
theorem t128_37 : sm_at 128 37 = some (1, .aload_n 0, 0, 0, 0) := rfl
theorem t128_38 : sm_at 128 38 = some (1, .dup, 0, 0, 0) := rfl
theorem t128_39 : sm_at 128 39 = some (3, .getfield 72, 11, 4, 0) := rfl
theorem t128_42 : sm_at 128 42 = some (1, .iconst 1, 0, 0, 0) := rfl
theorem t128_43 : sm_at 128 43 = some (1, .isub, 0, 0, 0) := rfl
theorem t128_44 : sm_at 128 44 = some (3, .putfield 72, 11, 4, 0) := rfl
theorem t128_47 : sm_at 128 47 = some (1, .aload_n 0, 0, 0, 0) := rfl
theorem t128_48 : sm_at 128 48 = some (3, .getfield 19, 11, 3, 0) := rfl
theorem t128_51 : sm_at 128 51 = some (1, .aload_n 0, 0, 0, 0) := rfl
theorem t128_52 : sm_at 128 52 = some (3, .getfield 72, 11, 4, 0) := rfl
theorem t128_55 : sm_at 128 55 = some (1, .iload_n 1, 0, 0, 0) := rfl
theorem t128_56 : sm_at 128 56 = some (1, .iastore, 0, 0, 0) := rfl
theorem t128_57 : sm_at 128 57 = some (1, .aload_n 0, 0, 0, 0) := rfl
theorem t128_58 : sm_at 128 58 = some (1, .dup, 0, 0, 0) := rfl
theorem t128_59 : sm_at 128 59 = some (3, .getfield 72, 11, 4, 0) := rfl
theorem t128_62 : sm_at 128 62 = some (1, .iconst 1, 0, 0, 0) := rfl
theorem t128_63 : sm_at 128 63 = some (1, .iadd, 0, 0, 0) := rfl
theorem t128_64 : sm_at 128 64 = some (3, .putfield 72, 11, 4, 0) := rfl
theorem t128_67 : sm_at 128 67 = some (1, .return_, 0, 0, 0) := rfl
set_option maxRecDepth 10000 in
theorem b128_0 {d : Nat} {r0 : Nat} {l1 : Option sm_V} {l2 : Option sm_V} {Z : Nat → Nat → Int} {Rf : Nat → Nat → Option Nat} {K : Nat → Nat × Nat} {n z : Nat} {Q : Option sm_V → sm_S → Prop} : sm_wp d 128 0 [some (.inr (some r0)), l1, l2] [] (Z, Rf, K, n, z) Q = ((K r0).1 = 11 ∧ (if wr (Z r0 4) = (10 : Int) then sm_wp d 128 9 [some (.inr (some r0)), l1, l2] [] (Z, Rf, K, n, z) Q else sm_wp d 128 47 [some (.inr (some r0)), l1, l2] [] (Z, Rf, K, n, z) Q)) := (w_aload_n t128_0 rfl rfl).trans ((w_getI t128_1 rfl (by decide)).trans (congrArg (And _) ((w_bipush t128_4 rfl).trans (w_icne t128_6 rfl wl_10 rfl rfl))))
set_option maxRecDepth 10000 in
theorem b128_9 {d : Nat} {l0 : Option sm_V} {l1 : Option sm_V} {l2 : Option sm_V} {Z : Nat → Nat → Int} {Rf : Nat → Nat → Option Nat} {K : Nat → Nat × Nat} {n z : Nat} {Q : Option sm_V → sm_S → Prop} : sm_wp d 128 9 [l0, l1, l2] [] (Z, Rf, K, n, z) Q = (sm_wp d 128 11 [l0, l1, some (.inl 1)] [] (Z, Rf, K, n, z) Q) := (w_iconst t128_9 rfl).trans (w_istore_n t128_10 rfl (Nat.le_of_ble_eq_true rfl) rfl)
set_option maxRecDepth 10000 in
theorem b128_11 {d : Nat} {l0 : Option sm_V} {l1 : Option sm_V} {x2 : Int} {Z : Nat → Nat → Int} {Rf : Nat → Nat → Option Nat} {K : Nat → Nat × Nat} {n z : Nat} {Q : Option sm_V → sm_S → Prop} : sm_wp d 128 11 [l0, l1, some (.inl x2)] [] (Z, Rf, K, n, z) Q = (if (10 : Int) ≤ wr x2 then sm_wp d 128 37 [l0, l1, some (.inl x2)] [] (Z, Rf, K, n, z) Q else sm_wp d 128 17 [l0, l1, some (.inl x2)] [] (Z, Rf, K, n, z) Q) := (w_iload_n t128_11 rfl rfl).trans ((w_bipush t128_12 rfl).trans (w_icge t128_14 rfl wl_10 rfl rfl))
set_option maxRecDepth 10000 in
theorem b128_17 {d : Nat} {r0 : Nat} {l1 : Option sm_V} {x2 : Int} {Z : Nat → Nat → Int} {Rf : Nat → Nat → Option Nat} {K : Nat → Nat × Nat} {n z : Nat} {Q : Option sm_V → sm_S → Prop} : sm_wp d 128 17 [some (.inr (some r0)), l1, some (.inl x2)] [] (Z, Rf, K, n, z) Q = ((K r0).1 = 11 ∧ (Rf r0 3).isSome = true ∧ (K r0).1 = 11 ∧ (Rf r0 3).isSome = true ∧ sm_rd (K (((Rf r0 3).getD 0))) (wr x2) ∧ sm_wt (K (((Rf r0 3).getD 0))) (wr (x2 - 1)) ∧ sm_wp d 128 11 [some (.inr (some r0)), l1, some (.inl (x2 + 1))] [] (sm_u Z (((Rf r0 3).getD 0)) ((wr (x2 - 1)).toNat) (Z (((Rf r0 3).getD 0)) ((wr x2).toNat)), Rf, K, n, z) Q) := (w_aload_n t128_17 rfl rfl).trans ((w_getR t128_18 rfl (by decide)).trans (congrArg (And _) (congrArg (And _) ((w_iload_n t128_21 rfl rfl).trans ((w_iconst t128_22 rfl).trans ((w_isub t128_23 rfl).trans ((w_aload_n t128_24 rfl rfl).trans ((w_getR t128_25 rfl (by decide)).trans (congrArg (And _) (congrArg (And _) ((w_iload_n t128_28 rfl rfl).trans ((w_iald t128_29 rfl rfl).trans (congrArg (And _) ((w_iast t128_30 rfl rfl).trans (congrArg (And _) ((w_iinc t128_31 rfl rfl (Nat.le_of_ble_eq_true rfl) rfl).trans (w_goto t128_34 rfl)))))))))))))))))
set_option maxRecDepth 10000 in
theorem b128_37 {d : Nat} {r0 : Nat} {l1 : Option sm_V} {l2 : Option sm_V} {Z : Nat → Nat → Int} {Rf : Nat → Nat → Option Nat} {K : Nat → Nat × Nat} {n z : Nat} {Q : Option sm_V → sm_S → Prop} : sm_wp d 128 37 [some (.inr (some r0)), l1, l2] [] (Z, Rf, K, n, z) Q = ((K r0).1 = 11 ∧ (K r0).1 = 11 ∧ sm_wp d 128 47 [some (.inr (some r0)), l1, l2] [] (sm_u Z r0 4 ((Z r0 4) - 1), Rf, K, n, z) Q) := (w_aload_n t128_37 rfl rfl).trans ((w_dup t128_38 rfl).trans ((w_getI t128_39 rfl (by decide)).trans (congrArg (And _) ((w_iconst t128_42 rfl).trans ((w_isub t128_43 rfl).trans ((w_putI t128_44 rfl (by decide)).trans (congrArg (And _) rfl)))))))
set_option maxRecDepth 10000 in
theorem b128_47 {d : Nat} {r0 : Nat} {x1 : Int} {l2 : Option sm_V} {Z : Nat → Nat → Int} {Rf : Nat → Nat → Option Nat} {K : Nat → Nat × Nat} {n z : Nat} {Q : Option sm_V → sm_S → Prop} : sm_wp d 128 47 [some (.inr (some r0)), some (.inl x1), l2] [] (Z, Rf, K, n, z) Q = ((K r0).1 = 11 ∧ (Rf r0 3).isSome = true ∧ (K r0).1 = 11 ∧ sm_wt (K (((Rf r0 3).getD 0))) (wr (Z r0 4)) ∧ (K r0).1 = 11 ∧ (K r0).1 = 11 ∧ Q none (sm_u (sm_u Z (((Rf r0 3).getD 0)) ((wr (Z r0 4)).toNat) x1) r0 4 (((sm_u Z (((Rf r0 3).getD 0)) ((wr (Z r0 4)).toNat) x1) r0 4) + 1), Rf, K, n, z)) := (w_aload_n t128_47 rfl rfl).trans ((w_getR t128_48 rfl (by decide)).trans (congrArg (And _) (congrArg (And _) ((w_aload_n t128_51 rfl rfl).trans ((w_getI t128_52 rfl (by decide)).trans (congrArg (And _) ((w_iload_n t128_55 rfl rfl).trans ((w_iast t128_56 rfl rfl).trans (congrArg (And _) ((w_aload_n t128_57 rfl rfl).trans ((w_dup t128_58 rfl).trans ((w_getI t128_59 rfl (by decide)).trans (congrArg (And _) ((w_iconst t128_62 rfl).trans ((w_iadd t128_63 rfl).trans ((w_putI t128_64 rfl (by decide)).trans (congrArg (And _) (w_vret t128_67))))))))))))))))))
theorem t129_0 : sm_at 129 0 = some (1, .aload_n 0, 0, 0, 0) := rfl
theorem t129_1 : sm_at 129 1 = some (1, .iload_n 1, 0, 0, 0) := rfl
theorem t129_2 : sm_at 129 2 = some (3, .invokevirtual 85, 122, 2, 0) := rfl
theorem t129_5 : sm_at 129 5 = some (3, .ifCond .eq 16, 0, 0, 0) := rfl
theorem t129_8 : sm_at 129 8 = some (1, .aload_n 0, 0, 0, 0) := rfl
theorem t129_9 : sm_at 129 9 = some (3, .getfield 7, 11, 0, 0) := rfl
theorem t129_12 : sm_at 129 12 = some (2, .bipush 120, 0, 0, 0) := rfl
theorem t129_14 : sm_at 129 14 = some (1, .iload_n 1, 0, 0, 0) := rfl
theorem t129_15 : sm_at 129 15 = some (1, .iadd, 0, 0, 0) := rfl
theorem t129_16 : sm_at 129 16 = some (1, .iaload, 0, 0, 0) := rfl
theorem t129_17 : sm_at 129 17 = some (1, .iconst 1, 0, 0, 0) := rfl
theorem t129_18 : sm_at 129 18 = some (3, .if_icmp .ne 5, 0, 0, 0) := rfl
theorem t129_21 : sm_at 129 21 = some (1, .iconst 0, 0, 0, 0) := rfl
theorem t129_22 : sm_at 129 22 = some (1, .ireturn, 1, 0, 0) := rfl
theorem t129_23 : sm_at 129 23 = some (1, .aload_n 0, 0, 0, 0) := rfl
theorem t129_24 : sm_at 129 24 = some (3, .getfield 7, 11, 0, 0) := rfl
theorem t129_27 : sm_at 129 27 = some (2, .bipush 120, 0, 0, 0) := rfl
theorem t129_29 : sm_at 129 29 = some (1, .iload_n 1, 0, 0, 0) := rfl
theorem t129_30 : sm_at 129 30 = some (1, .iadd, 0, 0, 0) := rfl
theorem t129_31 : sm_at 129 31 = some (1, .iconst 1, 0, 0, 0) := rfl
theorem t129_32 : sm_at 129 32 = some (1, .iastore, 0, 0, 0) := rfl
theorem t129_33 : sm_at 129 33 = some (1, .aload_n 0, 0, 0, 0) := rfl
theorem t129_34 : sm_at 129 34 = some (1, .iload_n 1, 0, 0, 0) := rfl
theorem t129_35 : sm_at 129 35 = some (3, .invokevirtual 89, 128, 2, 0) := rfl
theorem t129_38 : sm_at 129 38 = some (1, .iconst 1, 0, 0, 0) := rfl
theorem t129_39 : sm_at 129 39 = some (1, .ireturn, 1, 0, 0) := rfl
set_option maxRecDepth 10000 in
theorem b129_0 {d : Nat} {r0 : Nat} {x1 : Int} {Z : Nat → Nat → Int} {Rf : Nat → Nat → Option Nat} {K : Nat → Nat × Nat} {n z : Nat} {Q : Option sm_V → sm_S → Prop} : sm_wp (d + 1) 129 0 [some (.inr (some r0)), some (.inl x1)] [] (Z, Rf, K, n, z) Q = ((K r0).1 = 11 ∧ sm_call d 122 [.inr (some r0), .inl x1] (Z, Rf, K, n, z) (sm_cont (d + 1) 129 5 [some (.inr (some r0)), some (.inl x1)] [] Q)) := (w_aload_n t129_0 rfl rfl).trans ((w_iload_n t129_1 rfl rfl).trans (w_callV t129_2 rfl rfl rfl rfl (Nat.le_of_ble_eq_true rfl) (Nat.le_of_ble_eq_true rfl) rfl (by decide)))
set_option maxRecDepth 10000 in
theorem b129_5 {d : Nat} {l0 : Option sm_V} {l1 : Option sm_V} {s0 : Int} {Z : Nat → Nat → Int} {Rf : Nat → Nat → Option Nat} {K : Nat → Nat × Nat} {n z : Nat} {Q : Option sm_V → sm_S → Prop} : sm_wp d 129 5 [l0, l1] [.inl s0] (Z, Rf, K, n, z) Q = (if wr s0 = 0 then sm_wp d 129 21 [l0, l1] [] (Z, Rf, K, n, z) Q else sm_wp d 129 8 [l0, l1] [] (Z, Rf, K, n, z) Q) := w_ifeq t129_5 rfl rfl rfl
set_option maxRecDepth 10000 in
theorem b129_8 {d : Nat} {r0 : Nat} {x1 : Int} {Z : Nat → Nat → Int} {Rf : Nat → Nat → Option Nat} {K : Nat → Nat × Nat} {n z : Nat} {Q : Option sm_V → sm_S → Prop} : sm_wp d 129 8 [some (.inr (some r0)), some (.inl x1)] [] (Z, Rf, K, n, z) Q = ((K r0).1 = 11 ∧ (Rf r0 0).isSome = true ∧ sm_rd (K (((Rf r0 0).getD 0))) (wr (120 + x1)) ∧ (if wr (Z (((Rf r0 0).getD 0)) ((wr (120 + x1)).toNat)) = (1 : Int) then sm_wp d 129 21 [some (.inr (some r0)), some (.inl x1)] [] (Z, Rf, K, n, z) Q else sm_wp d 129 23 [some (.inr (some r0)), some (.inl x1)] [] (Z, Rf, K, n, z) Q)) := (w_aload_n t129_8 rfl rfl).trans ((w_getR t129_9 rfl (by decide)).trans (congrArg (And _) (congrArg (And _) ((w_bipush t129_12 rfl).trans ((w_iload_n t129_14 rfl rfl).trans ((w_iadd t129_15 rfl).trans ((w_iald t129_16 rfl rfl).trans (congrArg (And _) ((w_iconst t129_17 rfl).trans (w_icne t129_18 rfl wl_1 rfl rfl))))))))))
set_option maxRecDepth 10000 in
theorem b129_21 {d : Nat} {l0 : Option sm_V} {l1 : Option sm_V} {Z : Nat → Nat → Int} {Rf : Nat → Nat → Option Nat} {K : Nat → Nat × Nat} {n z : Nat} {Q : Option sm_V → sm_S → Prop} : sm_wp d 129 21 [l0, l1] [] (Z, Rf, K, n, z) Q = (((0 : Int) = 0 ∨ (0 : Int) = 1) ∧ Q (some (.inl 0)) (Z, Rf, K, n, z)) := (w_iconst t129_21 rfl).trans (w_zret t129_22 wl_0)
set_option maxRecDepth 10000 in
theorem b129_23 {d : Nat} {r0 : Nat} {x1 : Int} {Z : Nat → Nat → Int} {Rf : Nat → Nat → Option Nat} {K : Nat → Nat × Nat} {n z : Nat} {Q : Option sm_V → sm_S → Prop} : sm_wp (d + 1) 129 23 [some (.inr (some r0)), some (.inl x1)] [] (Z, Rf, K, n, z) Q = ((K r0).1 = 11 ∧ (Rf r0 0).isSome = true ∧ sm_wt (K (((Rf r0 0).getD 0))) (wr (120 + x1)) ∧ (K r0).1 = 11 ∧ sm_call d 128 [.inr (some r0), .inl x1] (sm_u Z (((Rf r0 0).getD 0)) ((wr (120 + x1)).toNat) 1, Rf, K, n, z) (sm_cont (d + 1) 129 38 [some (.inr (some r0)), some (.inl x1)] [] Q)) := (w_aload_n t129_23 rfl rfl).trans ((w_getR t129_24 rfl (by decide)).trans (congrArg (And _) (congrArg (And _) ((w_bipush t129_27 rfl).trans ((w_iload_n t129_29 rfl rfl).trans ((w_iadd t129_30 rfl).trans ((w_iconst t129_31 rfl).trans ((w_iast t129_32 rfl rfl).trans (congrArg (And _) ((w_aload_n t129_33 rfl rfl).trans ((w_iload_n t129_34 rfl rfl).trans (w_callV t129_35 rfl rfl rfl rfl (Nat.le_of_ble_eq_true rfl) (Nat.le_of_ble_eq_true rfl) rfl (by decide)))))))))))))
set_option maxRecDepth 10000 in
theorem b129_38 {d : Nat} {l0 : Option sm_V} {l1 : Option sm_V} {Z : Nat → Nat → Int} {Rf : Nat → Nat → Option Nat} {K : Nat → Nat × Nat} {n z : Nat} {Q : Option sm_V → sm_S → Prop} : sm_wp d 129 38 [l0, l1] [] (Z, Rf, K, n, z) Q = (((1 : Int) = 0 ∨ (1 : Int) = 1) ∧ Q (some (.inl 1)) (Z, Rf, K, n, z)) := (w_iconst t129_38 rfl).trans (w_zret t129_39 wl_1)
theorem t130_0 : sm_at 130 0 = some (1, .aload_n 0, 0, 0, 0) := rfl
theorem t130_1 : sm_at 130 1 = some (1, .iload_n 1, 0, 0, 0) := rfl
theorem t130_2 : sm_at 130 2 = some (3, .invokevirtual 85, 122, 2, 0) := rfl
theorem t130_5 : sm_at 130 5 = some (3, .ifCond .eq 15, 0, 0, 0) := rfl
theorem t130_8 : sm_at 130 8 = some (1, .aload_n 0, 0, 0, 0) := rfl
theorem t130_9 : sm_at 130 9 = some (3, .getfield 7, 11, 0, 0) := rfl
theorem t130_12 : sm_at 130 12 = some (2, .bipush 120, 0, 0, 0) := rfl
theorem t130_14 : sm_at 130 14 = some (1, .iload_n 1, 0, 0, 0) := rfl
theorem t130_15 : sm_at 130 15 = some (1, .iadd, 0, 0, 0) := rfl
theorem t130_16 : sm_at 130 16 = some (1, .iaload, 0, 0, 0) := rfl
theorem t130_17 : sm_at 130 17 = some (3, .ifCond .ne 5, 0, 0, 0) := rfl
theorem t130_20 : sm_at 130 20 = some (1, .iconst 0, 0, 0, 0) := rfl
theorem t130_21 : sm_at 130 21 = some (1, .ireturn, 1, 0, 0) := rfl
theorem t130_22 : sm_at 130 22 = some (1, .aload_n 0, 0, 0, 0) := rfl
theorem t130_23 : sm_at 130 23 = some (3, .getfield 7, 11, 0, 0) := rfl
theorem t130_26 : sm_at 130 26 = some (2, .bipush 120, 0, 0, 0) := rfl
theorem t130_28 : sm_at 130 28 = some (1, .iload_n 1, 0, 0, 0) := rfl
theorem t130_29 : sm_at 130 29 = some (1, .iadd, 0, 0, 0) := rfl
theorem t130_30 : sm_at 130 30 = some (1, .iconst 0, 0, 0, 0) := rfl
theorem t130_31 : sm_at 130 31 = some (1, .iastore, 0, 0, 0) := rfl
theorem t130_32 : sm_at 130 32 = some (1, .aload_n 0, 0, 0, 0) := rfl
theorem t130_33 : sm_at 130 33 = some (1, .iload_n 1, 0, 0, 0) := rfl
theorem t130_34 : sm_at 130 34 = some (3, .invokevirtual 89, 128, 2, 0) := rfl
theorem t130_37 : sm_at 130 37 = some (1, .iconst 1, 0, 0, 0) := rfl
theorem t130_38 : sm_at 130 38 = some (1, .ireturn, 1, 0, 0) := rfl
set_option maxRecDepth 10000 in
theorem b130_0 {d : Nat} {r0 : Nat} {x1 : Int} {Z : Nat → Nat → Int} {Rf : Nat → Nat → Option Nat} {K : Nat → Nat × Nat} {n z : Nat} {Q : Option sm_V → sm_S → Prop} : sm_wp (d + 1) 130 0 [some (.inr (some r0)), some (.inl x1)] [] (Z, Rf, K, n, z) Q = ((K r0).1 = 11 ∧ sm_call d 122 [.inr (some r0), .inl x1] (Z, Rf, K, n, z) (sm_cont (d + 1) 130 5 [some (.inr (some r0)), some (.inl x1)] [] Q)) := (w_aload_n t130_0 rfl rfl).trans ((w_iload_n t130_1 rfl rfl).trans (w_callV t130_2 rfl rfl rfl rfl (Nat.le_of_ble_eq_true rfl) (Nat.le_of_ble_eq_true rfl) rfl (by decide)))
set_option maxRecDepth 10000 in
theorem b130_5 {d : Nat} {l0 : Option sm_V} {l1 : Option sm_V} {s0 : Int} {Z : Nat → Nat → Int} {Rf : Nat → Nat → Option Nat} {K : Nat → Nat × Nat} {n z : Nat} {Q : Option sm_V → sm_S → Prop} : sm_wp d 130 5 [l0, l1] [.inl s0] (Z, Rf, K, n, z) Q = (if wr s0 = 0 then sm_wp d 130 20 [l0, l1] [] (Z, Rf, K, n, z) Q else sm_wp d 130 8 [l0, l1] [] (Z, Rf, K, n, z) Q) := w_ifeq t130_5 rfl rfl rfl
set_option maxRecDepth 10000 in
theorem b130_8 {d : Nat} {r0 : Nat} {x1 : Int} {Z : Nat → Nat → Int} {Rf : Nat → Nat → Option Nat} {K : Nat → Nat × Nat} {n z : Nat} {Q : Option sm_V → sm_S → Prop} : sm_wp d 130 8 [some (.inr (some r0)), some (.inl x1)] [] (Z, Rf, K, n, z) Q = ((K r0).1 = 11 ∧ (Rf r0 0).isSome = true ∧ sm_rd (K (((Rf r0 0).getD 0))) (wr (120 + x1)) ∧ (if wr (Z (((Rf r0 0).getD 0)) ((wr (120 + x1)).toNat)) = 0 then sm_wp d 130 20 [some (.inr (some r0)), some (.inl x1)] [] (Z, Rf, K, n, z) Q else sm_wp d 130 22 [some (.inr (some r0)), some (.inl x1)] [] (Z, Rf, K, n, z) Q)) := (w_aload_n t130_8 rfl rfl).trans ((w_getR t130_9 rfl (by decide)).trans (congrArg (And _) (congrArg (And _) ((w_bipush t130_12 rfl).trans ((w_iload_n t130_14 rfl rfl).trans ((w_iadd t130_15 rfl).trans ((w_iald t130_16 rfl rfl).trans (congrArg (And _) (w_ifne t130_17 rfl rfl rfl)))))))))
set_option maxRecDepth 10000 in
theorem b130_20 {d : Nat} {l0 : Option sm_V} {l1 : Option sm_V} {Z : Nat → Nat → Int} {Rf : Nat → Nat → Option Nat} {K : Nat → Nat × Nat} {n z : Nat} {Q : Option sm_V → sm_S → Prop} : sm_wp d 130 20 [l0, l1] [] (Z, Rf, K, n, z) Q = (((0 : Int) = 0 ∨ (0 : Int) = 1) ∧ Q (some (.inl 0)) (Z, Rf, K, n, z)) := (w_iconst t130_20 rfl).trans (w_zret t130_21 wl_0)
set_option maxRecDepth 10000 in
theorem b130_22 {d : Nat} {r0 : Nat} {x1 : Int} {Z : Nat → Nat → Int} {Rf : Nat → Nat → Option Nat} {K : Nat → Nat × Nat} {n z : Nat} {Q : Option sm_V → sm_S → Prop} : sm_wp (d + 1) 130 22 [some (.inr (some r0)), some (.inl x1)] [] (Z, Rf, K, n, z) Q = ((K r0).1 = 11 ∧ (Rf r0 0).isSome = true ∧ sm_wt (K (((Rf r0 0).getD 0))) (wr (120 + x1)) ∧ (K r0).1 = 11 ∧ sm_call d 128 [.inr (some r0), .inl x1] (sm_u Z (((Rf r0 0).getD 0)) ((wr (120 + x1)).toNat) 0, Rf, K, n, z) (sm_cont (d + 1) 130 37 [some (.inr (some r0)), some (.inl x1)] [] Q)) := (w_aload_n t130_22 rfl rfl).trans ((w_getR t130_23 rfl (by decide)).trans (congrArg (And _) (congrArg (And _) ((w_bipush t130_26 rfl).trans ((w_iload_n t130_28 rfl rfl).trans ((w_iadd t130_29 rfl).trans ((w_iconst t130_30 rfl).trans ((w_iast t130_31 rfl rfl).trans (congrArg (And _) ((w_aload_n t130_32 rfl rfl).trans ((w_iload_n t130_33 rfl rfl).trans (w_callV t130_34 rfl rfl rfl rfl (Nat.le_of_ble_eq_true rfl) (Nat.le_of_ble_eq_true rfl) rfl (by decide)))))))))))))
set_option maxRecDepth 10000 in
theorem b130_37 {d : Nat} {l0 : Option sm_V} {l1 : Option sm_V} {Z : Nat → Nat → Int} {Rf : Nat → Nat → Option Nat} {K : Nat → Nat × Nat} {n z : Nat} {Q : Option sm_V → sm_S → Prop} : sm_wp d 130 37 [l0, l1] [] (Z, Rf, K, n, z) Q = (((1 : Int) = 0 ∨ (1 : Int) = 1) ∧ Q (some (.inl 1)) (Z, Rf, K, n, z)) := (w_iconst t130_37 rfl).trans (w_zret t130_38 wl_1)
