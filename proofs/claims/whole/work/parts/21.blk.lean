theorem t36_0 : sm_at 36 0 = some (1, .iload_n 0, 0, 0, 0) := rfl
theorem t36_1 : sm_at 36 1 = some (107, .tableswitch 109 40 62 #[107, 107, 107, 107, 109, 107, 109, 107, 109, 109, 109, 109, 109, 109, 109, 109, 109, 109, 109, 107, 107, 107, 107], 0, 0, 0) := rfl
theorem t36_108 : sm_at 36 108 = some (1, .iconst 1, 0, 0, 0) := rfl
theorem t36_109 : sm_at 36 109 = some (1, .ireturn, 1, 0, 0) := rfl
theorem t36_110 : sm_at 36 110 = some (1, .iconst 0, 0, 0, 0) := rfl
theorem t36_111 : sm_at 36 111 = some (1, .ireturn, 1, 0, 0) := rfl
set_option maxRecDepth 10000 in
theorem b36_0 {d : Nat} {x0 : Int} {Z : Nat → Nat → Int} {Rf : Nat → Nat → Option Nat} {K : Nat → Nat × Nat} {n z : Nat} {Q : Option sm_V → sm_S → Prop} : sm_wp d 36 0 [some (.inl x0)] [] (Z, Rf, K, n, z) Q = (sm_wp d 36 (sm_sel (wr x0) 110 [(40, 108), (41, 108), (42, 108), (43, 108), (44, 110), (45, 108), (46, 110), (47, 108), (48, 110), (49, 110), (50, 110), (51, 110), (52, 110), (53, 110), (54, 110), (55, 110), (56, 110), (57, 110), (58, 110), (59, 108), (60, 108), (61, 108), (62, 108)]) [some (.inl x0)] [] (Z, Rf, K, n, z) Q) := (w_iload_n t36_0 rfl rfl).trans (w_tsw t36_1 rfl rfl rfl (by decide))
set_option maxRecDepth 10000 in
theorem b36_108 {d : Nat} {l0 : Option sm_V} {Z : Nat → Nat → Int} {Rf : Nat → Nat → Option Nat} {K : Nat → Nat × Nat} {n z : Nat} {Q : Option sm_V → sm_S → Prop} : sm_wp d 36 108 [l0] [] (Z, Rf, K, n, z) Q = (((1 : Int) = 0 ∨ (1 : Int) = 1) ∧ Q (some (.inl 1)) (Z, Rf, K, n, z)) := (w_iconst t36_108 rfl).trans (w_zret t36_109 wl_1)
set_option maxRecDepth 10000 in
theorem b36_110 {d : Nat} {l0 : Option sm_V} {Z : Nat → Nat → Int} {Rf : Nat → Nat → Option Nat} {K : Nat → Nat × Nat} {n z : Nat} {Q : Option sm_V → sm_S → Prop} : sm_wp d 36 110 [l0] [] (Z, Rf, K, n, z) Q = (((0 : Int) = 0 ∨ (0 : Int) = 1) ∧ Q (some (.inl 0)) (Z, Rf, K, n, z)) := (w_iconst t36_110 rfl).trans (w_zret t36_111 wl_0)
theorem t37_0 : sm_at 37 0 = some (1, .iconst 0, 0, 0, 0) := rfl
theorem t37_1 : sm_at 37 1 = some (1, .istore_n 3, 0, 0, 0) := rfl
theorem t37_2 : sm_at 37 2 = some (1, .iconst 0, 0, 0, 0) := rfl
theorem t37_3 : sm_at 37 3 = some (2, .istore 4, 0, 0, 0) := rfl
theorem t37_5 : sm_at 37 5 = some (1, .iconst 1, 0, 0, 0) := rfl
theorem t37_6 : sm_at 37 6 = some (2, .istore 5, 0, 0, 0) := rfl
theorem t37_8 : sm_at 37 8 = some (1, .iconst 0, 0, 0, 0) := rfl
theorem t37_9 : sm_at 37 9 = some (2, .istore 6, 0, 0, 0) := rfl
theorem t37_11 : sm_at 37 11 = some (2, .iload 6, 0, 0, 0) := rfl
theorem t37_13 : sm_at 37 13 = some (2, .ldc 115, 1, 2000000, 0) := rfl
theorem t37_15 : sm_at 37 15 = some (3, .invokevirtual 117, 199, 1, 0) := rfl
theorem t37_18 : sm_at 37 18 = some (3, .if_icmp .ge 82, 0, 0, 0) := rfl
theorem t37_21 : sm_at 37 21 = some (2, .ldc 115, 1, 2000000, 0) := rfl
theorem t37_23 : sm_at 37 23 = some (2, .iload 6, 0, 0, 0) := rfl
theorem t37_25 : sm_at 37 25 = some (3, .invokevirtual 122, 200, 2, 0) := rfl
theorem t37_28 : sm_at 37 28 = some (2, .istore 7, 0, 0, 0) := rfl
theorem t37_30 : sm_at 37 30 = some (2, .iload 7, 0, 0, 0) := rfl
theorem t37_32 : sm_at 37 32 = some (2, .bipush 32, 0, 0, 0) := rfl
theorem t37_34 : sm_at 37 34 = some (3, .if_icmp .ne 28, 0, 0, 0) := rfl
theorem t37_37 : sm_at 37 37 = some (2, .iload 5, 0, 0, 0) := rfl
theorem t37_39 : sm_at 37 39 = some (3, .ifCond .eq 11, 0, 0, 0) := rfl
theorem t37_42 : sm_at 37 42 = some (2, .iload 4, 0, 0, 0) := rfl
theorem t37_44 : sm_at 37 44 = some (1, .iload_n 2, 0, 0, 0) := rfl
theorem t37_45 : sm_at 37 45 = some (3, .if_icmp .ne 5, 0, 0, 0) := rfl
theorem t37_48 : sm_at 37 48 = some (1, .iload_n 3, 0, 0, 0) := rfl
theorem t37_49 : sm_at 37 49 = some (1, .ireturn, 0, 0, 0) := rfl
theorem t37_50 : sm_at 37 50 = some (3, .iinc 3 1, 0, 0, 0) := rfl
theorem t37_53 : sm_at 37 53 = some (1, .iconst 0, 0, 0, 0) := rfl
theorem t37_54 : sm_at 37 54 = some (2, .istore 4, 0, 0, 0) := rfl
theorem t37_56 : sm_at 37 56 = some (1, .iconst 1, 0, 0, 0) := rfl
theorem t37_57 : sm_at 37 57 = some (2, .istore 5, 0, 0, 0) := rfl
theorem t37_59 : sm_at 37 59 = some (3, .goto 35, 0, 0, 0) := rfl
theorem t37_62 : sm_at 37 62 = some (2, .iload 5, 0, 0, 0) := rfl
theorem t37_64 : sm_at 37 64 = some (3, .ifCond .eq 24, 0, 0, 0) := rfl
theorem t37_67 : sm_at 37 67 = some (2, .iload 4, 0, 0, 0) := rfl
theorem t37_69 : sm_at 37 69 = some (1, .iload_n 2, 0, 0, 0) := rfl
theorem t37_70 : sm_at 37 70 = some (3, .if_icmp .ge 18, 0, 0, 0) := rfl
theorem t37_73 : sm_at 37 73 = some (1, .aload_n 0, 0, 0, 0) := rfl
theorem t37_74 : sm_at 37 74 = some (1, .iload_n 1, 0, 0, 0) := rfl
theorem t37_75 : sm_at 37 75 = some (2, .iload 4, 0, 0, 0) := rfl
theorem t37_77 : sm_at 37 77 = some (1, .iadd, 0, 0, 0) := rfl
theorem t37_78 : sm_at 37 78 = some (1, .iaload, 0, 0, 0) := rfl
theorem t37_79 : sm_at 37 79 = some (2, .iload 7, 0, 0, 0) := rfl
theorem t37_81 : sm_at 37 81 = some (3, .if_icmp .ne 7, 0, 0, 0) := rfl
theorem t37_84 : sm_at 37 84 = some (1, .iconst 1, 0, 0, 0) := rfl
theorem t37_85 : sm_at 37 85 = some (3, .goto 4, 0, 0, 0) := rfl
theorem t37_88 : sm_at 37 88 = some (1, .iconst 0, 0, 0, 0) := rfl
theorem t37_89 : sm_at 37 89 = some (2, .istore 5, 0, 0, 0) := rfl
theorem t37_91 : sm_at 37 91 = some (3, .iinc 4 1, 0, 0, 0) := rfl
theorem t37_94 : sm_at 37 94 = some (3, .iinc 6 1, 0, 0, 0) := rfl
theorem t37_97 : sm_at 37 97 = some (3, .goto (-86), 0, 0, 0) := rfl
theorem t37_100 : sm_at 37 100 = some (1, .iconst (-1), 0, 0, 0) := rfl
theorem t37_101 : sm_at 37 101 = some (1, .ireturn, 0, 0, 0) := rfl
set_option maxRecDepth 10000 in
theorem b37_0 {d : Nat} {l0 : Option sm_V} {l1 : Option sm_V} {l2 : Option sm_V} {l3 : Option sm_V} {l4 : Option sm_V} {l5 : Option sm_V} {l6 : Option sm_V} {l7 : Option sm_V} {Z : Nat → Nat → Int} {Rf : Nat → Nat → Option Nat} {K : Nat → Nat × Nat} {n z : Nat} {Q : Option sm_V → sm_S → Prop} : sm_wp d 37 0 [l0, l1, l2, l3, l4, l5, l6, l7] [] (Z, Rf, K, n, z) Q = (sm_wp d 37 11 [l0, l1, l2, some (.inl 0), some (.inl 0), some (.inl 1), some (.inl 0), l7] [] (Z, Rf, K, n, z) Q) := (w_iconst t37_0 rfl).trans ((w_istore_n t37_1 rfl (Nat.le_of_ble_eq_true rfl) rfl).trans ((w_iconst t37_2 rfl).trans ((w_istore t37_3 rfl (Nat.le_of_ble_eq_true rfl) rfl).trans ((w_iconst t37_5 rfl).trans ((w_istore t37_6 rfl (Nat.le_of_ble_eq_true rfl) rfl).trans ((w_iconst t37_8 rfl).trans (w_istore t37_9 rfl (Nat.le_of_ble_eq_true rfl) rfl)))))))
set_option maxRecDepth 10000 in
theorem b37_11 {d : Nat} {l0 : Option sm_V} {l1 : Option sm_V} {l2 : Option sm_V} {l3 : Option sm_V} {l4 : Option sm_V} {l5 : Option sm_V} {x6 : Int} {l7 : Option sm_V} {Z : Nat → Nat → Int} {Rf : Nat → Nat → Option Nat} {K : Nat → Nat × Nat} {n z : Nat} {Q : Option sm_V → sm_S → Prop} : sm_wp (d + 1) 37 11 [l0, l1, l2, l3, l4, l5, some (.inl x6), l7] [] (Z, Rf, K, n, z) Q = ((K 2000000).1 = 103 ∧ sm_call d 199 [.inr (some 2000000)] (Z, Rf, K, n, z) (sm_cont (d + 1) 37 18 [l0, l1, l2, l3, l4, l5, some (.inl x6), l7] [.inl x6] Q)) := (w_iload t37_11 rfl rfl).trans ((w_ldcs t37_13 rfl).trans (w_callV t37_15 rfl rfl rfl rfl (Nat.le_of_ble_eq_true rfl) (Nat.le_of_ble_eq_true rfl) rfl (by decide)))
set_option maxRecDepth 10000 in
theorem b37_18 {d : Nat} {l0 : Option sm_V} {l1 : Option sm_V} {l2 : Option sm_V} {l3 : Option sm_V} {l4 : Option sm_V} {l5 : Option sm_V} {l6 : Option sm_V} {l7 : Option sm_V} {s0 : Int} {s1 : Int} {Z : Nat → Nat → Int} {Rf : Nat → Nat → Option Nat} {K : Nat → Nat × Nat} {n z : Nat} {Q : Option sm_V → sm_S → Prop} : sm_wp d 37 18 [l0, l1, l2, l3, l4, l5, l6, l7] [.inl s1, .inl s0] (Z, Rf, K, n, z) Q = (if wr s1 ≤ wr s0 then sm_wp d 37 100 [l0, l1, l2, l3, l4, l5, l6, l7] [] (Z, Rf, K, n, z) Q else sm_wp d 37 21 [l0, l1, l2, l3, l4, l5, l6, l7] [] (Z, Rf, K, n, z) Q) := w_icge t37_18 rfl rfl rfl rfl
set_option maxRecDepth 10000 in
theorem b37_21 {d : Nat} {l0 : Option sm_V} {l1 : Option sm_V} {l2 : Option sm_V} {l3 : Option sm_V} {l4 : Option sm_V} {l5 : Option sm_V} {x6 : Int} {l7 : Option sm_V} {Z : Nat → Nat → Int} {Rf : Nat → Nat → Option Nat} {K : Nat → Nat × Nat} {n z : Nat} {Q : Option sm_V → sm_S → Prop} : sm_wp (d + 1) 37 21 [l0, l1, l2, l3, l4, l5, some (.inl x6), l7] [] (Z, Rf, K, n, z) Q = ((K 2000000).1 = 103 ∧ sm_call d 200 [.inr (some 2000000), .inl x6] (Z, Rf, K, n, z) (sm_cont (d + 1) 37 28 [l0, l1, l2, l3, l4, l5, some (.inl x6), l7] [] Q)) := (w_ldcs t37_21 rfl).trans ((w_iload t37_23 rfl rfl).trans (w_callV t37_25 rfl rfl rfl rfl (Nat.le_of_ble_eq_true rfl) (Nat.le_of_ble_eq_true rfl) rfl (by decide)))
set_option maxRecDepth 10000 in
theorem b37_28 {d : Nat} {l0 : Option sm_V} {l1 : Option sm_V} {l2 : Option sm_V} {l3 : Option sm_V} {l4 : Option sm_V} {l5 : Option sm_V} {l6 : Option sm_V} {l7 : Option sm_V} {s0 : Int} {Z : Nat → Nat → Int} {Rf : Nat → Nat → Option Nat} {K : Nat → Nat × Nat} {n z : Nat} {Q : Option sm_V → sm_S → Prop} : sm_wp d 37 28 [l0, l1, l2, l3, l4, l5, l6, l7] [.inl s0] (Z, Rf, K, n, z) Q = (if wr s0 = (32 : Int) then sm_wp d 37 37 [l0, l1, l2, l3, l4, l5, l6, some (.inl s0)] [] (Z, Rf, K, n, z) Q else sm_wp d 37 62 [l0, l1, l2, l3, l4, l5, l6, some (.inl s0)] [] (Z, Rf, K, n, z) Q) := (w_istore t37_28 rfl (Nat.le_of_ble_eq_true rfl) rfl).trans ((w_iload t37_30 rfl rfl).trans ((w_bipush t37_32 rfl).trans (w_icne t37_34 rfl wl_32 rfl rfl)))
set_option maxRecDepth 10000 in
theorem b37_37 {d : Nat} {l0 : Option sm_V} {l1 : Option sm_V} {l2 : Option sm_V} {l3 : Option sm_V} {l4 : Option sm_V} {x5 : Int} {l6 : Option sm_V} {l7 : Option sm_V} {Z : Nat → Nat → Int} {Rf : Nat → Nat → Option Nat} {K : Nat → Nat × Nat} {n z : Nat} {Q : Option sm_V → sm_S → Prop} : sm_wp d 37 37 [l0, l1, l2, l3, l4, some (.inl x5), l6, l7] [] (Z, Rf, K, n, z) Q = (if wr x5 = 0 then sm_wp d 37 50 [l0, l1, l2, l3, l4, some (.inl x5), l6, l7] [] (Z, Rf, K, n, z) Q else sm_wp d 37 42 [l0, l1, l2, l3, l4, some (.inl x5), l6, l7] [] (Z, Rf, K, n, z) Q) := (w_iload t37_37 rfl rfl).trans (w_ifeq t37_39 rfl rfl rfl)
set_option maxRecDepth 10000 in
theorem b37_42 {d : Nat} {l0 : Option sm_V} {l1 : Option sm_V} {x2 : Int} {l3 : Option sm_V} {x4 : Int} {l5 : Option sm_V} {l6 : Option sm_V} {l7 : Option sm_V} {Z : Nat → Nat → Int} {Rf : Nat → Nat → Option Nat} {K : Nat → Nat × Nat} {n z : Nat} {Q : Option sm_V → sm_S → Prop} : sm_wp d 37 42 [l0, l1, some (.inl x2), l3, some (.inl x4), l5, l6, l7] [] (Z, Rf, K, n, z) Q = (if wr x4 = wr x2 then sm_wp d 37 48 [l0, l1, some (.inl x2), l3, some (.inl x4), l5, l6, l7] [] (Z, Rf, K, n, z) Q else sm_wp d 37 50 [l0, l1, some (.inl x2), l3, some (.inl x4), l5, l6, l7] [] (Z, Rf, K, n, z) Q) := (w_iload t37_42 rfl rfl).trans ((w_iload_n t37_44 rfl rfl).trans (w_icne t37_45 rfl rfl rfl rfl))
set_option maxRecDepth 10000 in
theorem b37_48 {d : Nat} {l0 : Option sm_V} {l1 : Option sm_V} {l2 : Option sm_V} {x3 : Int} {l4 : Option sm_V} {l5 : Option sm_V} {l6 : Option sm_V} {l7 : Option sm_V} {Z : Nat → Nat → Int} {Rf : Nat → Nat → Option Nat} {K : Nat → Nat × Nat} {n z : Nat} {Q : Option sm_V → sm_S → Prop} : sm_wp d 37 48 [l0, l1, l2, some (.inl x3), l4, l5, l6, l7] [] (Z, Rf, K, n, z) Q = (Q (some (.inl x3)) (Z, Rf, K, n, z)) := (w_iload_n t37_48 rfl rfl).trans (w_iret t37_49)
set_option maxRecDepth 10000 in
theorem b37_50 {d : Nat} {l0 : Option sm_V} {l1 : Option sm_V} {l2 : Option sm_V} {x3 : Int} {l4 : Option sm_V} {l5 : Option sm_V} {l6 : Option sm_V} {l7 : Option sm_V} {Z : Nat → Nat → Int} {Rf : Nat → Nat → Option Nat} {K : Nat → Nat × Nat} {n z : Nat} {Q : Option sm_V → sm_S → Prop} : sm_wp d 37 50 [l0, l1, l2, some (.inl x3), l4, l5, l6, l7] [] (Z, Rf, K, n, z) Q = (sm_wp d 37 94 [l0, l1, l2, some (.inl (x3 + 1)), some (.inl 0), some (.inl 1), l6, l7] [] (Z, Rf, K, n, z) Q) := (w_iinc t37_50 rfl rfl (Nat.le_of_ble_eq_true rfl) rfl).trans ((w_iconst t37_53 rfl).trans ((w_istore t37_54 rfl (Nat.le_of_ble_eq_true rfl) rfl).trans ((w_iconst t37_56 rfl).trans ((w_istore t37_57 rfl (Nat.le_of_ble_eq_true rfl) rfl).trans (w_goto t37_59 rfl)))))
set_option maxRecDepth 10000 in
theorem b37_62 {d : Nat} {l0 : Option sm_V} {l1 : Option sm_V} {l2 : Option sm_V} {l3 : Option sm_V} {l4 : Option sm_V} {x5 : Int} {l6 : Option sm_V} {l7 : Option sm_V} {Z : Nat → Nat → Int} {Rf : Nat → Nat → Option Nat} {K : Nat → Nat × Nat} {n z : Nat} {Q : Option sm_V → sm_S → Prop} : sm_wp d 37 62 [l0, l1, l2, l3, l4, some (.inl x5), l6, l7] [] (Z, Rf, K, n, z) Q = (if wr x5 = 0 then sm_wp d 37 88 [l0, l1, l2, l3, l4, some (.inl x5), l6, l7] [] (Z, Rf, K, n, z) Q else sm_wp d 37 67 [l0, l1, l2, l3, l4, some (.inl x5), l6, l7] [] (Z, Rf, K, n, z) Q) := (w_iload t37_62 rfl rfl).trans (w_ifeq t37_64 rfl rfl rfl)
set_option maxRecDepth 10000 in
theorem b37_67 {d : Nat} {l0 : Option sm_V} {l1 : Option sm_V} {x2 : Int} {l3 : Option sm_V} {x4 : Int} {l5 : Option sm_V} {l6 : Option sm_V} {l7 : Option sm_V} {Z : Nat → Nat → Int} {Rf : Nat → Nat → Option Nat} {K : Nat → Nat × Nat} {n z : Nat} {Q : Option sm_V → sm_S → Prop} : sm_wp d 37 67 [l0, l1, some (.inl x2), l3, some (.inl x4), l5, l6, l7] [] (Z, Rf, K, n, z) Q = (if wr x2 ≤ wr x4 then sm_wp d 37 88 [l0, l1, some (.inl x2), l3, some (.inl x4), l5, l6, l7] [] (Z, Rf, K, n, z) Q else sm_wp d 37 73 [l0, l1, some (.inl x2), l3, some (.inl x4), l5, l6, l7] [] (Z, Rf, K, n, z) Q) := (w_iload t37_67 rfl rfl).trans ((w_iload_n t37_69 rfl rfl).trans (w_icge t37_70 rfl rfl rfl rfl))
set_option maxRecDepth 10000 in
theorem b37_73 {d : Nat} {r0 : Nat} {x1 : Int} {l2 : Option sm_V} {l3 : Option sm_V} {x4 : Int} {l5 : Option sm_V} {l6 : Option sm_V} {x7 : Int} {Z : Nat → Nat → Int} {Rf : Nat → Nat → Option Nat} {K : Nat → Nat × Nat} {n z : Nat} {Q : Option sm_V → sm_S → Prop} : sm_wp d 37 73 [some (.inr (some r0)), some (.inl x1), l2, l3, some (.inl x4), l5, l6, some (.inl x7)] [] (Z, Rf, K, n, z) Q = (sm_rd (K r0) (wr (x1 + x4)) ∧ (if wr (Z r0 ((wr (x1 + x4)).toNat)) = wr x7 then sm_wp d 37 84 [some (.inr (some r0)), some (.inl x1), l2, l3, some (.inl x4), l5, l6, some (.inl x7)] [] (Z, Rf, K, n, z) Q else sm_wp d 37 88 [some (.inr (some r0)), some (.inl x1), l2, l3, some (.inl x4), l5, l6, some (.inl x7)] [] (Z, Rf, K, n, z) Q)) := (w_aload_n t37_73 rfl rfl).trans ((w_iload_n t37_74 rfl rfl).trans ((w_iload t37_75 rfl rfl).trans ((w_iadd t37_77 rfl).trans ((w_iald t37_78 rfl rfl).trans (congrArg (And _) ((w_iload t37_79 rfl rfl).trans (w_icne t37_81 rfl rfl rfl rfl)))))))
set_option maxRecDepth 10000 in
theorem b37_84 {d : Nat} {l0 : Option sm_V} {l1 : Option sm_V} {l2 : Option sm_V} {l3 : Option sm_V} {l4 : Option sm_V} {l5 : Option sm_V} {l6 : Option sm_V} {l7 : Option sm_V} {Z : Nat → Nat → Int} {Rf : Nat → Nat → Option Nat} {K : Nat → Nat × Nat} {n z : Nat} {Q : Option sm_V → sm_S → Prop} : sm_wp d 37 84 [l0, l1, l2, l3, l4, l5, l6, l7] [] (Z, Rf, K, n, z) Q = (sm_wp d 37 89 [l0, l1, l2, l3, l4, l5, l6, l7] [.inl 1] (Z, Rf, K, n, z) Q) := (w_iconst t37_84 rfl).trans (w_goto t37_85 rfl)
set_option maxRecDepth 10000 in
theorem b37_88 {d : Nat} {l0 : Option sm_V} {l1 : Option sm_V} {l2 : Option sm_V} {l3 : Option sm_V} {l4 : Option sm_V} {l5 : Option sm_V} {l6 : Option sm_V} {l7 : Option sm_V} {Z : Nat → Nat → Int} {Rf : Nat → Nat → Option Nat} {K : Nat → Nat × Nat} {n z : Nat} {Q : Option sm_V → sm_S → Prop} : sm_wp d 37 88 [l0, l1, l2, l3, l4, l5, l6, l7] [] (Z, Rf, K, n, z) Q = (sm_wp d 37 89 [l0, l1, l2, l3, l4, l5, l6, l7] [.inl 0] (Z, Rf, K, n, z) Q) := w_iconst t37_88 rfl
set_option maxRecDepth 10000 in
theorem b37_89 {d : Nat} {l0 : Option sm_V} {l1 : Option sm_V} {l2 : Option sm_V} {l3 : Option sm_V} {x4 : Int} {l5 : Option sm_V} {l6 : Option sm_V} {l7 : Option sm_V} {s0 : Int} {Z : Nat → Nat → Int} {Rf : Nat → Nat → Option Nat} {K : Nat → Nat × Nat} {n z : Nat} {Q : Option sm_V → sm_S → Prop} : sm_wp d 37 89 [l0, l1, l2, l3, some (.inl x4), l5, l6, l7] [.inl s0] (Z, Rf, K, n, z) Q = (sm_wp d 37 94 [l0, l1, l2, l3, some (.inl (x4 + 1)), some (.inl s0), l6, l7] [] (Z, Rf, K, n, z) Q) := (w_istore t37_89 rfl (Nat.le_of_ble_eq_true rfl) rfl).trans (w_iinc t37_91 rfl rfl (Nat.le_of_ble_eq_true rfl) rfl)
set_option maxRecDepth 10000 in
theorem b37_94 {d : Nat} {l0 : Option sm_V} {l1 : Option sm_V} {l2 : Option sm_V} {l3 : Option sm_V} {l4 : Option sm_V} {l5 : Option sm_V} {x6 : Int} {l7 : Option sm_V} {Z : Nat → Nat → Int} {Rf : Nat → Nat → Option Nat} {K : Nat → Nat × Nat} {n z : Nat} {Q : Option sm_V → sm_S → Prop} : sm_wp d 37 94 [l0, l1, l2, l3, l4, l5, some (.inl x6), l7] [] (Z, Rf, K, n, z) Q = (sm_wp d 37 11 [l0, l1, l2, l3, l4, l5, some (.inl (x6 + 1)), l7] [] (Z, Rf, K, n, z) Q) := (w_iinc t37_94 rfl rfl (Nat.le_of_ble_eq_true rfl) rfl).trans (w_goto t37_97 rfl)
set_option maxRecDepth 10000 in
theorem b37_100 {d : Nat} {l0 : Option sm_V} {l1 : Option sm_V} {l2 : Option sm_V} {l3 : Option sm_V} {l4 : Option sm_V} {l5 : Option sm_V} {l6 : Option sm_V} {l7 : Option sm_V} {Z : Nat → Nat → Int} {Rf : Nat → Nat → Option Nat} {K : Nat → Nat × Nat} {n z : Nat} {Q : Option sm_V → sm_S → Prop} : sm_wp d 37 100 [l0, l1, l2, l3, l4, l5, l6, l7] [] (Z, Rf, K, n, z) Q = (Q (some (.inl ((-1)))) (Z, Rf, K, n, z)) := (w_iconst t37_100 rfl).trans (w_iret t37_101)
theorem t38_0 : sm_at 38 0 = some (1, .aload_n 0, 0, 0, 0) := rfl
theorem t38_1 : sm_at 38 1 = some (3, .getfield 44, 4, 12, 0) := rfl
theorem t38_4 : sm_at 38 4 = some (1, .iconst 3, 0, 0, 0) := rfl
theorem t38_5 : sm_at 38 5 = some (3, .if_icmp .ne 15, 0, 0, 0) := rfl
theorem t38_8 : sm_at 38 8 = some (1, .aload_n 0, 0, 0, 0) := rfl
theorem t38_9 : sm_at 38 9 = some (3, .getfield 106, 4, 13, 0) := rfl
theorem t38_12 : sm_at 38 12 = some (1, .iload_n 1, 0, 0, 0) := rfl
theorem t38_13 : sm_at 38 13 = some (3, .if_icmp .ne 7, 0, 0, 0) := rfl
theorem t38_16 : sm_at 38 16 = some (1, .iconst 1, 0, 0, 0) := rfl
theorem t38_17 : sm_at 38 17 = some (3, .goto 4, 0, 0, 0) := rfl
theorem t38_20 : sm_at 38 20 = some (1, .iconst 0, 0, 0, 0) := rfl
theorem t38_21 : sm_at 38 21 = some (1, .ireturn, 1, 0, 0) := rfl
set_option maxRecDepth 10000 in
theorem b38_0 {d : Nat} {r0 : Nat} {l1 : Option sm_V} {Z : Nat → Nat → Int} {Rf : Nat → Nat → Option Nat} {K : Nat → Nat × Nat} {n z : Nat} {Q : Option sm_V → sm_S → Prop} : sm_wp d 38 0 [some (.inr (some r0)), l1] [] (Z, Rf, K, n, z) Q = ((K r0).1 = 4 ∧ (if wr (Z r0 12) = (3 : Int) then sm_wp d 38 8 [some (.inr (some r0)), l1] [] (Z, Rf, K, n, z) Q else sm_wp d 38 20 [some (.inr (some r0)), l1] [] (Z, Rf, K, n, z) Q)) := (w_aload_n t38_0 rfl rfl).trans ((w_getI t38_1 rfl (by decide)).trans (congrArg (And _) ((w_iconst t38_4 rfl).trans (w_icne t38_5 rfl wl_3 rfl rfl))))
set_option maxRecDepth 10000 in
theorem b38_8 {d : Nat} {r0 : Nat} {x1 : Int} {Z : Nat → Nat → Int} {Rf : Nat → Nat → Option Nat} {K : Nat → Nat × Nat} {n z : Nat} {Q : Option sm_V → sm_S → Prop} : sm_wp d 38 8 [some (.inr (some r0)), some (.inl x1)] [] (Z, Rf, K, n, z) Q = ((K r0).1 = 4 ∧ (if wr (Z r0 13) = wr x1 then sm_wp d 38 16 [some (.inr (some r0)), some (.inl x1)] [] (Z, Rf, K, n, z) Q else sm_wp d 38 20 [some (.inr (some r0)), some (.inl x1)] [] (Z, Rf, K, n, z) Q)) := (w_aload_n t38_8 rfl rfl).trans ((w_getI t38_9 rfl (by decide)).trans (congrArg (And _) ((w_iload_n t38_12 rfl rfl).trans (w_icne t38_13 rfl rfl rfl rfl))))
set_option maxRecDepth 10000 in
theorem b38_16 {d : Nat} {l0 : Option sm_V} {l1 : Option sm_V} {Z : Nat → Nat → Int} {Rf : Nat → Nat → Option Nat} {K : Nat → Nat × Nat} {n z : Nat} {Q : Option sm_V → sm_S → Prop} : sm_wp d 38 16 [l0, l1] [] (Z, Rf, K, n, z) Q = (sm_wp d 38 21 [l0, l1] [.inl 1] (Z, Rf, K, n, z) Q) := (w_iconst t38_16 rfl).trans (w_goto t38_17 rfl)
set_option maxRecDepth 10000 in
theorem b38_20 {d : Nat} {l0 : Option sm_V} {l1 : Option sm_V} {Z : Nat → Nat → Int} {Rf : Nat → Nat → Option Nat} {K : Nat → Nat × Nat} {n z : Nat} {Q : Option sm_V → sm_S → Prop} : sm_wp d 38 20 [l0, l1] [] (Z, Rf, K, n, z) Q = (sm_wp d 38 21 [l0, l1] [.inl 0] (Z, Rf, K, n, z) Q) := w_iconst t38_20 rfl
set_option maxRecDepth 10000 in
theorem b38_21 {d : Nat} {l0 : Option sm_V} {l1 : Option sm_V} {s0 : Int} {Z : Nat → Nat → Int} {Rf : Nat → Nat → Option Nat} {K : Nat → Nat × Nat} {n z : Nat} {Q : Option sm_V → sm_S → Prop} : sm_wp d 38 21 [l0, l1] [.inl s0] (Z, Rf, K, n, z) Q = ((wr s0 = 0 ∨ wr s0 = 1) ∧ Q (some (.inl s0)) (Z, Rf, K, n, z)) := w_zret t38_21 rfl
theorem t39_0 : sm_at 39 0 = some (1, .aload_n 0, 0, 0, 0) := rfl
theorem t39_1 : sm_at 39 1 = some (3, .getfield 44, 4, 12, 0) := rfl
theorem t39_4 : sm_at 39 4 = some (1, .iconst 3, 0, 0, 0) := rfl
theorem t39_5 : sm_at 39 5 = some (3, .if_icmp .ne 11, 0, 0, 0) := rfl
theorem t39_8 : sm_at 39 8 = some (1, .aload_n 0, 0, 0, 0) := rfl
theorem t39_9 : sm_at 39 9 = some (3, .getfield 106, 4, 13, 0) := rfl
theorem t39_12 : sm_at 39 12 = some (1, .iconst 4, 0, 0, 0) := rfl
theorem t39_13 : sm_at 39 13 = some (3, .if_icmp .le 5, 0, 0, 0) := rfl
theorem t39_16 : sm_at 39 16 = some (1, .iconst 1, 0, 0, 0) := rfl
theorem t39_17 : sm_at 39 17 = some (1, .ireturn, 0, 0, 0) := rfl
theorem t39_18 : sm_at 39 18 = some (1, .aload_n 0, 0, 0, 0) := rfl
theorem t39_19 : sm_at 39 19 = some (3, .getfield 52, 4, 7, 0) := rfl
theorem t39_22 : sm_at 39 22 = some (2, .bipush 16, 0, 0, 0) := rfl
theorem t39_24 : sm_at 39 24 = some (3, .if_icmp .lt 5, 0, 0, 0) := rfl
theorem t39_27 : sm_at 39 27 = some (1, .iconst 3, 0, 0, 0) := rfl
theorem t39_28 : sm_at 39 28 = some (1, .ireturn, 0, 0, 0) := rfl
theorem t39_29 : sm_at 39 29 = some (1, .aload_n 0, 0, 0, 0) := rfl
theorem t39_30 : sm_at 39 30 = some (1, .dup, 0, 0, 0) := rfl
theorem t39_31 : sm_at 39 31 = some (3, .getfield 52, 4, 7, 0) := rfl
theorem t39_34 : sm_at 39 34 = some (1, .iconst 1, 0, 0, 0) := rfl
theorem t39_35 : sm_at 39 35 = some (1, .iadd, 0, 0, 0) := rfl
theorem t39_36 : sm_at 39 36 = some (3, .putfield 52, 4, 7, 0) := rfl
theorem t39_39 : sm_at 39 39 = some (1, .aload_n 0, 0, 0, 0) := rfl
theorem t39_40 : sm_at 39 40 = some (1, .aload_n 0, 0, 0, 0) := rfl
theorem t39_41 : sm_at 39 41 = some (3, .getfield 106, 4, 13, 0) := rfl
theorem t39_44 : sm_at 39 44 = some (3, .putfield 126, 4, 8, 0) := rfl
theorem t39_47 : sm_at 39 47 = some (1, .aload_n 0, 0, 0, 0) := rfl
theorem t39_48 : sm_at 39 48 = some (1, .iconst 1, 0, 0, 0) := rfl
theorem t39_49 : sm_at 39 49 = some (3, .putfield 47, 4, 6, 0) := rfl
theorem t39_52 : sm_at 39 52 = some (1, .iconst 0, 0, 0, 0) := rfl
theorem t39_53 : sm_at 39 53 = some (1, .ireturn, 0, 0, 0) := rfl
set_option maxRecDepth 10000 in
theorem b39_0 {d : Nat} {r0 : Nat} {Z : Nat → Nat → Int} {Rf : Nat → Nat → Option Nat} {K : Nat → Nat × Nat} {n z : Nat} {Q : Option sm_V → sm_S → Prop} : sm_wp d 39 0 [some (.inr (some r0))] [] (Z, Rf, K, n, z) Q = ((K r0).1 = 4 ∧ (if wr (Z r0 12) = (3 : Int) then sm_wp d 39 8 [some (.inr (some r0))] [] (Z, Rf, K, n, z) Q else sm_wp d 39 16 [some (.inr (some r0))] [] (Z, Rf, K, n, z) Q)) := (w_aload_n t39_0 rfl rfl).trans ((w_getI t39_1 rfl (by decide)).trans (congrArg (And _) ((w_iconst t39_4 rfl).trans (w_icne t39_5 rfl wl_3 rfl rfl))))
set_option maxRecDepth 10000 in
theorem b39_8 {d : Nat} {r0 : Nat} {Z : Nat → Nat → Int} {Rf : Nat → Nat → Option Nat} {K : Nat → Nat × Nat} {n z : Nat} {Q : Option sm_V → sm_S → Prop} : sm_wp d 39 8 [some (.inr (some r0))] [] (Z, Rf, K, n, z) Q = ((K r0).1 = 4 ∧ (if wr (Z r0 13) ≤ (4 : Int) then sm_wp d 39 18 [some (.inr (some r0))] [] (Z, Rf, K, n, z) Q else sm_wp d 39 16 [some (.inr (some r0))] [] (Z, Rf, K, n, z) Q)) := (w_aload_n t39_8 rfl rfl).trans ((w_getI t39_9 rfl (by decide)).trans (congrArg (And _) ((w_iconst t39_12 rfl).trans (w_icle t39_13 rfl wl_4 rfl rfl))))
set_option maxRecDepth 10000 in
theorem b39_16 {d : Nat} {l0 : Option sm_V} {Z : Nat → Nat → Int} {Rf : Nat → Nat → Option Nat} {K : Nat → Nat × Nat} {n z : Nat} {Q : Option sm_V → sm_S → Prop} : sm_wp d 39 16 [l0] [] (Z, Rf, K, n, z) Q = (Q (some (.inl 1)) (Z, Rf, K, n, z)) := (w_iconst t39_16 rfl).trans (w_iret t39_17)
set_option maxRecDepth 10000 in
theorem b39_18 {d : Nat} {r0 : Nat} {Z : Nat → Nat → Int} {Rf : Nat → Nat → Option Nat} {K : Nat → Nat × Nat} {n z : Nat} {Q : Option sm_V → sm_S → Prop} : sm_wp d 39 18 [some (.inr (some r0))] [] (Z, Rf, K, n, z) Q = ((K r0).1 = 4 ∧ (if wr (Z r0 7) < (16 : Int) then sm_wp d 39 29 [some (.inr (some r0))] [] (Z, Rf, K, n, z) Q else sm_wp d 39 27 [some (.inr (some r0))] [] (Z, Rf, K, n, z) Q)) := (w_aload_n t39_18 rfl rfl).trans ((w_getI t39_19 rfl (by decide)).trans (congrArg (And _) ((w_bipush t39_22 rfl).trans (w_iclt t39_24 rfl wl_16 rfl rfl))))
set_option maxRecDepth 10000 in
theorem b39_27 {d : Nat} {l0 : Option sm_V} {Z : Nat → Nat → Int} {Rf : Nat → Nat → Option Nat} {K : Nat → Nat × Nat} {n z : Nat} {Q : Option sm_V → sm_S → Prop} : sm_wp d 39 27 [l0] [] (Z, Rf, K, n, z) Q = (Q (some (.inl 3)) (Z, Rf, K, n, z)) := (w_iconst t39_27 rfl).trans (w_iret t39_28)
set_option maxRecDepth 10000 in
theorem b39_29 {d : Nat} {r0 : Nat} {Z : Nat → Nat → Int} {Rf : Nat → Nat → Option Nat} {K : Nat → Nat × Nat} {n z : Nat} {Q : Option sm_V → sm_S → Prop} : sm_wp d 39 29 [some (.inr (some r0))] [] (Z, Rf, K, n, z) Q = ((K r0).1 = 4 ∧ (K r0).1 = 4 ∧ (K r0).1 = 4 ∧ (K r0).1 = 4 ∧ (K r0).1 = 4 ∧ Q (some (.inl 0)) (sm_u (sm_u (sm_u Z r0 7 ((Z r0 7) + 1)) r0 8 ((sm_u Z r0 7 ((Z r0 7) + 1)) r0 13)) r0 6 1, Rf, K, n, z)) := (w_aload_n t39_29 rfl rfl).trans ((w_dup t39_30 rfl).trans ((w_getI t39_31 rfl (by decide)).trans (congrArg (And _) ((w_iconst t39_34 rfl).trans ((w_iadd t39_35 rfl).trans ((w_putI t39_36 rfl (by decide)).trans (congrArg (And _) ((w_aload_n t39_39 rfl rfl).trans ((w_aload_n t39_40 rfl rfl).trans ((w_getI t39_41 rfl (by decide)).trans (congrArg (And _) ((w_putI t39_44 rfl (by decide)).trans (congrArg (And _) ((w_aload_n t39_47 rfl rfl).trans ((w_iconst t39_48 rfl).trans ((w_putI t39_49 rfl (by decide)).trans (congrArg (And _) ((w_iconst t39_52 rfl).trans (w_iret t39_53)))))))))))))))))))
theorem t40_0 : sm_at 40 0 = some (1, .aload_n 0, 0, 0, 0) := rfl
theorem t40_1 : sm_at 40 1 = some (3, .getfield 44, 4, 12, 0) := rfl
theorem t40_4 : sm_at 40 4 = some (2, .bipush 59, 0, 0, 0) := rfl
theorem t40_6 : sm_at 40 6 = some (3, .if_icmp .ne 20, 0, 0, 0) := rfl
theorem t40_9 : sm_at 40 9 = some (1, .aload_n 0, 0, 0, 0) := rfl
theorem t40_10 : sm_at 40 10 = some (2, .bipush 12, 0, 0, 0) := rfl
theorem t40_12 : sm_at 40 12 = some (1, .aload_n 0, 0, 0, 0) := rfl
theorem t40_13 : sm_at 40 13 = some (3, .getfield 126, 4, 8, 0) := rfl
theorem t40_16 : sm_at 40 16 = some (3, .invokevirtual 129, 50, 3, 0) := rfl
theorem t40_19 : sm_at 40 19 = some (1, .aload_n 0, 0, 0, 0) := rfl
theorem t40_20 : sm_at 40 20 = some (1, .iconst 0, 0, 0, 0) := rfl
theorem t40_21 : sm_at 40 21 = some (3, .putfield 47, 4, 6, 0) := rfl
theorem t40_24 : sm_at 40 24 = some (1, .iconst 0, 0, 0, 0) := rfl
theorem t40_25 : sm_at 40 25 = some (1, .ireturn, 0, 0, 0) := rfl
theorem t40_26 : sm_at 40 26 = some (1, .aload_n 0, 0, 0, 0) := rfl
theorem t40_27 : sm_at 40 27 = some (2, .bipush 14, 0, 0, 0) := rfl
theorem t40_29 : sm_at 40 29 = some (3, .invokevirtual 133, 38, 2, 0) := rfl
theorem t40_32 : sm_at 40 32 = some (3, .ifCond .ne 5, 0, 0, 0) := rfl
theorem t40_35 : sm_at 40 35 = some (1, .iconst 1, 0, 0, 0) := rfl
theorem t40_36 : sm_at 40 36 = some (1, .ireturn, 0, 0, 0) := rfl
theorem t40_37 : sm_at 40 37 = some (1, .aload_n 0, 0, 0, 0) := rfl
theorem t40_38 : sm_at 40 38 = some (1, .iconst 2, 0, 0, 0) := rfl
theorem t40_39 : sm_at 40 39 = some (3, .putfield 47, 4, 6, 0) := rfl
theorem t40_42 : sm_at 40 42 = some (1, .iconst 0, 0, 0, 0) := rfl
theorem t40_43 : sm_at 40 43 = some (1, .ireturn, 0, 0, 0) := rfl
set_option maxRecDepth 10000 in
theorem b40_0 {d : Nat} {r0 : Nat} {Z : Nat → Nat → Int} {Rf : Nat → Nat → Option Nat} {K : Nat → Nat × Nat} {n z : Nat} {Q : Option sm_V → sm_S → Prop} : sm_wp d 40 0 [some (.inr (some r0))] [] (Z, Rf, K, n, z) Q = ((K r0).1 = 4 ∧ (if wr (Z r0 12) = (59 : Int) then sm_wp d 40 9 [some (.inr (some r0))] [] (Z, Rf, K, n, z) Q else sm_wp d 40 26 [some (.inr (some r0))] [] (Z, Rf, K, n, z) Q)) := (w_aload_n t40_0 rfl rfl).trans ((w_getI t40_1 rfl (by decide)).trans (congrArg (And _) ((w_bipush t40_4 rfl).trans (w_icne t40_6 rfl wl_59 rfl rfl))))
set_option maxRecDepth 10000 in
theorem b40_9 {d : Nat} {r0 : Nat} {Z : Nat → Nat → Int} {Rf : Nat → Nat → Option Nat} {K : Nat → Nat × Nat} {n z : Nat} {Q : Option sm_V → sm_S → Prop} : sm_wp (d + 1) 40 9 [some (.inr (some r0))] [] (Z, Rf, K, n, z) Q = ((K r0).1 = 4 ∧ (K r0).1 = 4 ∧ sm_call d 50 [.inr (some r0), .inl 12, .inl (Z r0 8)] (Z, Rf, K, n, z) (sm_cont (d + 1) 40 19 [some (.inr (some r0))] [] Q)) := (w_aload_n t40_9 rfl rfl).trans ((w_bipush t40_10 rfl).trans ((w_aload_n t40_12 rfl rfl).trans ((w_getI t40_13 rfl (by decide)).trans (congrArg (And _) (w_callV t40_16 rfl rfl rfl rfl (Nat.le_of_ble_eq_true rfl) (Nat.le_of_ble_eq_true rfl) rfl (by decide))))))
set_option maxRecDepth 10000 in
theorem b40_19 {d : Nat} {r0 : Nat} {Z : Nat → Nat → Int} {Rf : Nat → Nat → Option Nat} {K : Nat → Nat × Nat} {n z : Nat} {Q : Option sm_V → sm_S → Prop} : sm_wp d 40 19 [some (.inr (some r0))] [] (Z, Rf, K, n, z) Q = ((K r0).1 = 4 ∧ Q (some (.inl 0)) (sm_u Z r0 6 0, Rf, K, n, z)) := (w_aload_n t40_19 rfl rfl).trans ((w_iconst t40_20 rfl).trans ((w_putI t40_21 rfl (by decide)).trans (congrArg (And _) ((w_iconst t40_24 rfl).trans (w_iret t40_25)))))
set_option maxRecDepth 10000 in
theorem b40_26 {d : Nat} {r0 : Nat} {Z : Nat → Nat → Int} {Rf : Nat → Nat → Option Nat} {K : Nat → Nat × Nat} {n z : Nat} {Q : Option sm_V → sm_S → Prop} : sm_wp (d + 1) 40 26 [some (.inr (some r0))] [] (Z, Rf, K, n, z) Q = ((K r0).1 = 4 ∧ sm_call d 38 [.inr (some r0), .inl 14] (Z, Rf, K, n, z) (sm_cont (d + 1) 40 32 [some (.inr (some r0))] [] Q)) := (w_aload_n t40_26 rfl rfl).trans ((w_bipush t40_27 rfl).trans (w_callV t40_29 rfl rfl rfl rfl (Nat.le_of_ble_eq_true rfl) (Nat.le_of_ble_eq_true rfl) rfl (by decide)))
set_option maxRecDepth 10000 in
theorem b40_32 {d : Nat} {l0 : Option sm_V} {s0 : Int} {Z : Nat → Nat → Int} {Rf : Nat → Nat → Option Nat} {K : Nat → Nat × Nat} {n z : Nat} {Q : Option sm_V → sm_S → Prop} : sm_wp d 40 32 [l0] [.inl s0] (Z, Rf, K, n, z) Q = (if wr s0 = 0 then sm_wp d 40 35 [l0] [] (Z, Rf, K, n, z) Q else sm_wp d 40 37 [l0] [] (Z, Rf, K, n, z) Q) := w_ifne t40_32 rfl rfl rfl
set_option maxRecDepth 10000 in
theorem b40_35 {d : Nat} {l0 : Option sm_V} {Z : Nat → Nat → Int} {Rf : Nat → Nat → Option Nat} {K : Nat → Nat × Nat} {n z : Nat} {Q : Option sm_V → sm_S → Prop} : sm_wp d 40 35 [l0] [] (Z, Rf, K, n, z) Q = (Q (some (.inl 1)) (Z, Rf, K, n, z)) := (w_iconst t40_35 rfl).trans (w_iret t40_36)
set_option maxRecDepth 10000 in
theorem b40_37 {d : Nat} {r0 : Nat} {Z : Nat → Nat → Int} {Rf : Nat → Nat → Option Nat} {K : Nat → Nat × Nat} {n z : Nat} {Q : Option sm_V → sm_S → Prop} : sm_wp d 40 37 [some (.inr (some r0))] [] (Z, Rf, K, n, z) Q = ((K r0).1 = 4 ∧ Q (some (.inl 0)) (sm_u Z r0 6 2, Rf, K, n, z)) := (w_aload_n t40_37 rfl rfl).trans ((w_iconst t40_38 rfl).trans ((w_putI t40_39 rfl (by decide)).trans (congrArg (And _) ((w_iconst t40_42 rfl).trans (w_iret t40_43)))))
theorem t41_0 : sm_at 41 0 = some (1, .aload_n 0, 0, 0, 0) := rfl
theorem t41_1 : sm_at 41 1 = some (2, .bipush 17, 0, 0, 0) := rfl
theorem t41_3 : sm_at 41 3 = some (3, .invokevirtual 133, 38, 2, 0) := rfl
theorem t41_6 : sm_at 41 6 = some (1, .istore_n 1, 0, 0, 0) := rfl
theorem t41_7 : sm_at 41 7 = some (1, .iload_n 1, 0, 0, 0) := rfl
theorem t41_8 : sm_at 41 8 = some (3, .ifCond .ne 22, 0, 0, 0) := rfl
theorem t41_11 : sm_at 41 11 = some (1, .aload_n 0, 0, 0, 0) := rfl
theorem t41_12 : sm_at 41 12 = some (3, .getfield 44, 4, 12, 0) := rfl
theorem t41_15 : sm_at 41 15 = some (2, .bipush 40, 0, 0, 0) := rfl
theorem t41_17 : sm_at 41 17 = some (3, .if_icmp .eq 13, 0, 0, 0) := rfl
theorem t41_20 : sm_at 41 20 = some (1, .aload_n 0, 0, 0, 0) := rfl
theorem t41_21 : sm_at 41 21 = some (1, .iconst 0, 0, 0, 0) := rfl
theorem t41_22 : sm_at 41 22 = some (3, .putfield 136, 4, 11, 0) := rfl
theorem t41_25 : sm_at 41 25 = some (1, .aload_n 0, 0, 0, 0) := rfl
theorem t41_26 : sm_at 41 26 = some (3, .invokevirtual 77, 42, 1, 0) := rfl
theorem t41_29 : sm_at 41 29 = some (1, .ireturn, 0, 0, 0) := rfl
theorem t41_30 : sm_at 41 30 = some (1, .aload_n 0, 0, 0, 0) := rfl
theorem t41_31 : sm_at 41 31 = some (3, .getfield 92, 4, 9, 0) := rfl
theorem t41_34 : sm_at 41 34 = some (2, .bipush 8, 0, 0, 0) := rfl
theorem t41_36 : sm_at 41 36 = some (3, .if_icmp .lt 5, 0, 0, 0) := rfl
theorem t41_39 : sm_at 41 39 = some (1, .iconst 3, 0, 0, 0) := rfl
theorem t41_40 : sm_at 41 40 = some (1, .ireturn, 0, 0, 0) := rfl
theorem t41_41 : sm_at 41 41 = some (1, .aload_n 0, 0, 0, 0) := rfl
theorem t41_42 : sm_at 41 42 = some (1, .dup, 0, 0, 0) := rfl
theorem t41_43 : sm_at 41 43 = some (3, .getfield 92, 4, 9, 0) := rfl
theorem t41_46 : sm_at 41 46 = some (1, .iconst 1, 0, 0, 0) := rfl
theorem t41_47 : sm_at 41 47 = some (1, .iadd, 0, 0, 0) := rfl
theorem t41_48 : sm_at 41 48 = some (3, .putfield 92, 4, 9, 0) := rfl
theorem t41_51 : sm_at 41 51 = some (1, .iload_n 1, 0, 0, 0) := rfl
theorem t41_52 : sm_at 41 52 = some (3, .ifCond .ne 13, 0, 0, 0) := rfl
theorem t41_55 : sm_at 41 55 = some (1, .aload_n 0, 0, 0, 0) := rfl
theorem t41_56 : sm_at 41 56 = some (1, .dup, 0, 0, 0) := rfl
theorem t41_57 : sm_at 41 57 = some (3, .getfield 95, 4, 10, 0) := rfl
theorem t41_60 : sm_at 41 60 = some (1, .iconst 1, 0, 0, 0) := rfl
theorem t41_61 : sm_at 41 61 = some (1, .iadd, 0, 0, 0) := rfl
theorem t41_62 : sm_at 41 62 = some (3, .putfield 95, 4, 10, 0) := rfl
theorem t41_65 : sm_at 41 65 = some (1, .aload_n 0, 0, 0, 0) := rfl
theorem t41_66 : sm_at 41 66 = some (1, .iload_n 1, 0, 0, 0) := rfl
theorem t41_67 : sm_at 41 67 = some (3, .ifCond .eq 7, 0, 0, 0) := rfl
theorem t41_70 : sm_at 41 70 = some (1, .iconst 3, 0, 0, 0) := rfl
theorem t41_71 : sm_at 41 71 = some (3, .goto 5, 0, 0, 0) := rfl
theorem t41_74 : sm_at 41 74 = some (2, .bipush 14, 0, 0, 0) := rfl
theorem t41_76 : sm_at 41 76 = some (3, .invokevirtual 140, 49, 2, 0) := rfl
theorem t41_79 : sm_at 41 79 = some (1, .iconst 0, 0, 0, 0) := rfl
theorem t41_80 : sm_at 41 80 = some (1, .ireturn, 0, 0, 0) := rfl
set_option maxRecDepth 10000 in
theorem b41_0 {d : Nat} {r0 : Nat} {l1 : Option sm_V} {Z : Nat → Nat → Int} {Rf : Nat → Nat → Option Nat} {K : Nat → Nat × Nat} {n z : Nat} {Q : Option sm_V → sm_S → Prop} : sm_wp (d + 1) 41 0 [some (.inr (some r0)), l1] [] (Z, Rf, K, n, z) Q = ((K r0).1 = 4 ∧ sm_call d 38 [.inr (some r0), .inl 17] (Z, Rf, K, n, z) (sm_cont (d + 1) 41 6 [some (.inr (some r0)), l1] [] Q)) := (w_aload_n t41_0 rfl rfl).trans ((w_bipush t41_1 rfl).trans (w_callV t41_3 rfl rfl rfl rfl (Nat.le_of_ble_eq_true rfl) (Nat.le_of_ble_eq_true rfl) rfl (by decide)))
set_option maxRecDepth 10000 in
theorem b41_6 {d : Nat} {l0 : Option sm_V} {l1 : Option sm_V} {s0 : Int} {Z : Nat → Nat → Int} {Rf : Nat → Nat → Option Nat} {K : Nat → Nat × Nat} {n z : Nat} {Q : Option sm_V → sm_S → Prop} : sm_wp d 41 6 [l0, l1] [.inl s0] (Z, Rf, K, n, z) Q = (if wr s0 = 0 then sm_wp d 41 11 [l0, some (.inl s0)] [] (Z, Rf, K, n, z) Q else sm_wp d 41 30 [l0, some (.inl s0)] [] (Z, Rf, K, n, z) Q) := (w_istore_n t41_6 rfl (Nat.le_of_ble_eq_true rfl) rfl).trans ((w_iload_n t41_7 rfl rfl).trans (w_ifne t41_8 rfl rfl rfl))
set_option maxRecDepth 10000 in
theorem b41_11 {d : Nat} {r0 : Nat} {l1 : Option sm_V} {Z : Nat → Nat → Int} {Rf : Nat → Nat → Option Nat} {K : Nat → Nat × Nat} {n z : Nat} {Q : Option sm_V → sm_S → Prop} : sm_wp d 41 11 [some (.inr (some r0)), l1] [] (Z, Rf, K, n, z) Q = ((K r0).1 = 4 ∧ (if wr (Z r0 12) = (40 : Int) then sm_wp d 41 30 [some (.inr (some r0)), l1] [] (Z, Rf, K, n, z) Q else sm_wp d 41 20 [some (.inr (some r0)), l1] [] (Z, Rf, K, n, z) Q)) := (w_aload_n t41_11 rfl rfl).trans ((w_getI t41_12 rfl (by decide)).trans (congrArg (And _) ((w_bipush t41_15 rfl).trans (w_iceq t41_17 rfl wl_40 rfl rfl))))
set_option maxRecDepth 10000 in
theorem b41_20 {d : Nat} {r0 : Nat} {l1 : Option sm_V} {Z : Nat → Nat → Int} {Rf : Nat → Nat → Option Nat} {K : Nat → Nat × Nat} {n z : Nat} {Q : Option sm_V → sm_S → Prop} : sm_wp (d + 1) 41 20 [some (.inr (some r0)), l1] [] (Z, Rf, K, n, z) Q = ((K r0).1 = 4 ∧ ((0 : Int) = 0 ∨ (0 : Int) = 1) ∧ (K r0).1 = 4 ∧ sm_call d 42 [.inr (some r0)] (sm_u Z r0 11 0, Rf, K, n, z) (sm_cont (d + 1) 41 29 [some (.inr (some r0)), l1] [] Q)) := (w_aload_n t41_20 rfl rfl).trans ((w_iconst t41_21 rfl).trans ((w_putB t41_22 rfl (by decide) wl_0).trans (congrArg (And _) (congrArg (And _) ((w_aload_n t41_25 rfl rfl).trans (w_callV t41_26 rfl rfl rfl rfl (Nat.le_of_ble_eq_true rfl) (Nat.le_of_ble_eq_true rfl) rfl (by decide)))))))
set_option maxRecDepth 10000 in
theorem b41_29 {d : Nat} {l0 : Option sm_V} {l1 : Option sm_V} {s0 : Int} {Z : Nat → Nat → Int} {Rf : Nat → Nat → Option Nat} {K : Nat → Nat × Nat} {n z : Nat} {Q : Option sm_V → sm_S → Prop} : sm_wp d 41 29 [l0, l1] [.inl s0] (Z, Rf, K, n, z) Q = (Q (some (.inl s0)) (Z, Rf, K, n, z)) := w_iret t41_29
set_option maxRecDepth 10000 in
theorem b41_30 {d : Nat} {r0 : Nat} {l1 : Option sm_V} {Z : Nat → Nat → Int} {Rf : Nat → Nat → Option Nat} {K : Nat → Nat × Nat} {n z : Nat} {Q : Option sm_V → sm_S → Prop} : sm_wp d 41 30 [some (.inr (some r0)), l1] [] (Z, Rf, K, n, z) Q = ((K r0).1 = 4 ∧ (if wr (Z r0 9) < (8 : Int) then sm_wp d 41 41 [some (.inr (some r0)), l1] [] (Z, Rf, K, n, z) Q else sm_wp d 41 39 [some (.inr (some r0)), l1] [] (Z, Rf, K, n, z) Q)) := (w_aload_n t41_30 rfl rfl).trans ((w_getI t41_31 rfl (by decide)).trans (congrArg (And _) ((w_bipush t41_34 rfl).trans (w_iclt t41_36 rfl wl_8 rfl rfl))))
set_option maxRecDepth 10000 in
theorem b41_39 {d : Nat} {l0 : Option sm_V} {l1 : Option sm_V} {Z : Nat → Nat → Int} {Rf : Nat → Nat → Option Nat} {K : Nat → Nat × Nat} {n z : Nat} {Q : Option sm_V → sm_S → Prop} : sm_wp d 41 39 [l0, l1] [] (Z, Rf, K, n, z) Q = (Q (some (.inl 3)) (Z, Rf, K, n, z)) := (w_iconst t41_39 rfl).trans (w_iret t41_40)
set_option maxRecDepth 10000 in
theorem b41_41 {d : Nat} {r0 : Nat} {x1 : Int} {Z : Nat → Nat → Int} {Rf : Nat → Nat → Option Nat} {K : Nat → Nat × Nat} {n z : Nat} {Q : Option sm_V → sm_S → Prop} : sm_wp d 41 41 [some (.inr (some r0)), some (.inl x1)] [] (Z, Rf, K, n, z) Q = ((K r0).1 = 4 ∧ (K r0).1 = 4 ∧ (if wr x1 = 0 then sm_wp d 41 55 [some (.inr (some r0)), some (.inl x1)] [] (sm_u Z r0 9 ((Z r0 9) + 1), Rf, K, n, z) Q else sm_wp d 41 65 [some (.inr (some r0)), some (.inl x1)] [] (sm_u Z r0 9 ((Z r0 9) + 1), Rf, K, n, z) Q)) := (w_aload_n t41_41 rfl rfl).trans ((w_dup t41_42 rfl).trans ((w_getI t41_43 rfl (by decide)).trans (congrArg (And _) ((w_iconst t41_46 rfl).trans ((w_iadd t41_47 rfl).trans ((w_putI t41_48 rfl (by decide)).trans (congrArg (And _) ((w_iload_n t41_51 rfl rfl).trans (w_ifne t41_52 rfl rfl rfl)))))))))
set_option maxRecDepth 10000 in
theorem b41_55 {d : Nat} {r0 : Nat} {l1 : Option sm_V} {Z : Nat → Nat → Int} {Rf : Nat → Nat → Option Nat} {K : Nat → Nat × Nat} {n z : Nat} {Q : Option sm_V → sm_S → Prop} : sm_wp d 41 55 [some (.inr (some r0)), l1] [] (Z, Rf, K, n, z) Q = ((K r0).1 = 4 ∧ (K r0).1 = 4 ∧ sm_wp d 41 65 [some (.inr (some r0)), l1] [] (sm_u Z r0 10 ((Z r0 10) + 1), Rf, K, n, z) Q) := (w_aload_n t41_55 rfl rfl).trans ((w_dup t41_56 rfl).trans ((w_getI t41_57 rfl (by decide)).trans (congrArg (And _) ((w_iconst t41_60 rfl).trans ((w_iadd t41_61 rfl).trans ((w_putI t41_62 rfl (by decide)).trans (congrArg (And _) rfl)))))))
set_option maxRecDepth 10000 in
theorem b41_65 {d : Nat} {q0 : Option Nat} {x1 : Int} {Z : Nat → Nat → Int} {Rf : Nat → Nat → Option Nat} {K : Nat → Nat × Nat} {n z : Nat} {Q : Option sm_V → sm_S → Prop} : sm_wp d 41 65 [some (.inr q0), some (.inl x1)] [] (Z, Rf, K, n, z) Q = (if wr x1 = 0 then sm_wp d 41 74 [some (.inr q0), some (.inl x1)] [.inr q0] (Z, Rf, K, n, z) Q else sm_wp d 41 70 [some (.inr q0), some (.inl x1)] [.inr q0] (Z, Rf, K, n, z) Q) := (w_aload_n t41_65 rfl rfl).trans ((w_iload_n t41_66 rfl rfl).trans (w_ifeq t41_67 rfl rfl rfl))
set_option maxRecDepth 10000 in
theorem b41_70 {d : Nat} {l0 : Option sm_V} {l1 : Option sm_V} {qs0 : Option Nat} {Z : Nat → Nat → Int} {Rf : Nat → Nat → Option Nat} {K : Nat → Nat × Nat} {n z : Nat} {Q : Option sm_V → sm_S → Prop} : sm_wp d 41 70 [l0, l1] [.inr qs0] (Z, Rf, K, n, z) Q = (sm_wp d 41 76 [l0, l1] [.inl 3, .inr qs0] (Z, Rf, K, n, z) Q) := (w_iconst t41_70 rfl).trans (w_goto t41_71 rfl)
set_option maxRecDepth 10000 in
theorem b41_74 {d : Nat} {l0 : Option sm_V} {l1 : Option sm_V} {qs0 : Option Nat} {Z : Nat → Nat → Int} {Rf : Nat → Nat → Option Nat} {K : Nat → Nat × Nat} {n z : Nat} {Q : Option sm_V → sm_S → Prop} : sm_wp d 41 74 [l0, l1] [.inr qs0] (Z, Rf, K, n, z) Q = (sm_wp d 41 76 [l0, l1] [.inl 14, .inr qs0] (Z, Rf, K, n, z) Q) := w_bipush t41_74 rfl
set_option maxRecDepth 10000 in
theorem b41_76 {d : Nat} {l0 : Option sm_V} {l1 : Option sm_V} {rs0 : Nat} {s1 : Int} {Z : Nat → Nat → Int} {Rf : Nat → Nat → Option Nat} {K : Nat → Nat × Nat} {n z : Nat} {Q : Option sm_V → sm_S → Prop} : sm_wp (d + 1) 41 76 [l0, l1] [.inl s1, .inr (some rs0)] (Z, Rf, K, n, z) Q = ((K rs0).1 = 4 ∧ sm_call d 49 [.inr (some rs0), .inl s1] (Z, Rf, K, n, z) (sm_cont (d + 1) 41 79 [l0, l1] [] Q)) := w_callV t41_76 rfl rfl rfl rfl (Nat.le_of_ble_eq_true rfl) (Nat.le_of_ble_eq_true rfl) rfl (by decide)
set_option maxRecDepth 10000 in
theorem b41_79 {d : Nat} {l0 : Option sm_V} {l1 : Option sm_V} {Z : Nat → Nat → Int} {Rf : Nat → Nat → Option Nat} {K : Nat → Nat × Nat} {n z : Nat} {Q : Option sm_V → sm_S → Prop} : sm_wp d 41 79 [l0, l1] [] (Z, Rf, K, n, z) Q = (Q (some (.inl 0)) (Z, Rf, K, n, z)) := (w_iconst t41_79 rfl).trans (w_iret t41_80)
theorem t42_0 : sm_at 42 0 = some (1, .aload_n 0, 0, 0, 0) := rfl
theorem t42_1 : sm_at 42 1 = some (3, .getfield 44, 4, 12, 0) := rfl
theorem t42_4 : sm_at 42 4 = some (1, .iconst 2, 0, 0, 0) := rfl
theorem t42_5 : sm_at 42 5 = some (3, .if_icmp .ne 15, 0, 0, 0) := rfl
theorem t42_8 : sm_at 42 8 = some (1, .aload_n 0, 0, 0, 0) := rfl
theorem t42_9 : sm_at 42 9 = some (1, .iconst 0, 0, 0, 0) := rfl
theorem t42_10 : sm_at 42 10 = some (1, .aload_n 0, 0, 0, 0) := rfl
theorem t42_11 : sm_at 42 11 = some (3, .getfield 106, 4, 13, 0) := rfl
theorem t42_14 : sm_at 42 14 = some (3, .invokevirtual 129, 50, 3, 0) := rfl
theorem t42_17 : sm_at 42 17 = some (3, .goto 44, 0, 0, 0) := rfl
theorem t42_20 : sm_at 42 20 = some (1, .aload_n 0, 0, 0, 0) := rfl
theorem t42_21 : sm_at 42 21 = some (3, .getfield 44, 4, 12, 0) := rfl
theorem t42_24 : sm_at 42 24 = some (1, .iconst 3, 0, 0, 0) := rfl
theorem t42_25 : sm_at 42 25 = some (3, .if_icmp .ne 34, 0, 0, 0) := rfl
theorem t42_28 : sm_at 42 28 = some (1, .aload_n 0, 0, 0, 0) := rfl
theorem t42_29 : sm_at 42 29 = some (3, .getfield 106, 4, 13, 0) := rfl
theorem t42_32 : sm_at 42 32 = some (1, .iconst 5, 0, 0, 0) := rfl
theorem t42_33 : sm_at 42 33 = some (3, .if_icmp .lt 26, 0, 0, 0) := rfl
theorem t42_36 : sm_at 42 36 = some (1, .aload_n 0, 0, 0, 0) := rfl
theorem t42_37 : sm_at 42 37 = some (3, .getfield 106, 4, 13, 0) := rfl
theorem t42_40 : sm_at 42 40 = some (2, .bipush 14, 0, 0, 0) := rfl
theorem t42_42 : sm_at 42 42 = some (3, .if_icmp .ge 17, 0, 0, 0) := rfl
theorem t42_45 : sm_at 42 45 = some (1, .aload_n 0, 0, 0, 0) := rfl
theorem t42_46 : sm_at 42 46 = some (1, .iconst 1, 0, 0, 0) := rfl
theorem t42_47 : sm_at 42 47 = some (1, .aload_n 0, 0, 0, 0) := rfl
theorem t42_48 : sm_at 42 48 = some (3, .getfield 106, 4, 13, 0) := rfl
theorem t42_51 : sm_at 42 51 = some (1, .iconst 5, 0, 0, 0) := rfl
theorem t42_52 : sm_at 42 52 = some (1, .isub, 0, 0, 0) := rfl
theorem t42_53 : sm_at 42 53 = some (3, .invokevirtual 129, 50, 3, 0) := rfl
theorem t42_56 : sm_at 42 56 = some (3, .goto 5, 0, 0, 0) := rfl
theorem t42_59 : sm_at 42 59 = some (1, .iconst 1, 0, 0, 0) := rfl
theorem t42_60 : sm_at 42 60 = some (1, .ireturn, 0, 0, 0) := rfl
theorem t42_61 : sm_at 42 61 = some (1, .aload_n 0, 0, 0, 0) := rfl
theorem t42_62 : sm_at 42 62 = some (1, .iconst 5, 0, 0, 0) := rfl
theorem t42_63 : sm_at 42 63 = some (3, .putfield 47, 4, 6, 0) := rfl
theorem t42_66 : sm_at 42 66 = some (1, .iconst 0, 0, 0, 0) := rfl
theorem t42_67 : sm_at 42 67 = some (1, .ireturn, 0, 0, 0) := rfl
set_option maxRecDepth 10000 in
theorem b42_0 {d : Nat} {r0 : Nat} {Z : Nat → Nat → Int} {Rf : Nat → Nat → Option Nat} {K : Nat → Nat × Nat} {n z : Nat} {Q : Option sm_V → sm_S → Prop} : sm_wp d 42 0 [some (.inr (some r0))] [] (Z, Rf, K, n, z) Q = ((K r0).1 = 4 ∧ (if wr (Z r0 12) = (2 : Int) then sm_wp d 42 8 [some (.inr (some r0))] [] (Z, Rf, K, n, z) Q else sm_wp d 42 20 [some (.inr (some r0))] [] (Z, Rf, K, n, z) Q)) := (w_aload_n t42_0 rfl rfl).trans ((w_getI t42_1 rfl (by decide)).trans (congrArg (And _) ((w_iconst t42_4 rfl).trans (w_icne t42_5 rfl wl_2 rfl rfl))))
set_option maxRecDepth 10000 in
theorem b42_8 {d : Nat} {r0 : Nat} {Z : Nat → Nat → Int} {Rf : Nat → Nat → Option Nat} {K : Nat → Nat × Nat} {n z : Nat} {Q : Option sm_V → sm_S → Prop} : sm_wp (d + 1) 42 8 [some (.inr (some r0))] [] (Z, Rf, K, n, z) Q = ((K r0).1 = 4 ∧ (K r0).1 = 4 ∧ sm_call d 50 [.inr (some r0), .inl 0, .inl (Z r0 13)] (Z, Rf, K, n, z) (sm_cont (d + 1) 42 17 [some (.inr (some r0))] [] Q)) := (w_aload_n t42_8 rfl rfl).trans ((w_iconst t42_9 rfl).trans ((w_aload_n t42_10 rfl rfl).trans ((w_getI t42_11 rfl (by decide)).trans (congrArg (And _) (w_callV t42_14 rfl rfl rfl rfl (Nat.le_of_ble_eq_true rfl) (Nat.le_of_ble_eq_true rfl) rfl (by decide))))))
set_option maxRecDepth 10000 in
theorem b42_17 {d : Nat} {l0 : Option sm_V} {Z : Nat → Nat → Int} {Rf : Nat → Nat → Option Nat} {K : Nat → Nat × Nat} {n z : Nat} {Q : Option sm_V → sm_S → Prop} : sm_wp d 42 17 [l0] [] (Z, Rf, K, n, z) Q = (sm_wp d 42 61 [l0] [] (Z, Rf, K, n, z) Q) := w_goto t42_17 rfl
set_option maxRecDepth 10000 in
theorem b42_20 {d : Nat} {r0 : Nat} {Z : Nat → Nat → Int} {Rf : Nat → Nat → Option Nat} {K : Nat → Nat × Nat} {n z : Nat} {Q : Option sm_V → sm_S → Prop} : sm_wp d 42 20 [some (.inr (some r0))] [] (Z, Rf, K, n, z) Q = ((K r0).1 = 4 ∧ (if wr (Z r0 12) = (3 : Int) then sm_wp d 42 28 [some (.inr (some r0))] [] (Z, Rf, K, n, z) Q else sm_wp d 42 59 [some (.inr (some r0))] [] (Z, Rf, K, n, z) Q)) := (w_aload_n t42_20 rfl rfl).trans ((w_getI t42_21 rfl (by decide)).trans (congrArg (And _) ((w_iconst t42_24 rfl).trans (w_icne t42_25 rfl wl_3 rfl rfl))))
set_option maxRecDepth 10000 in
theorem b42_28 {d : Nat} {r0 : Nat} {Z : Nat → Nat → Int} {Rf : Nat → Nat → Option Nat} {K : Nat → Nat × Nat} {n z : Nat} {Q : Option sm_V → sm_S → Prop} : sm_wp d 42 28 [some (.inr (some r0))] [] (Z, Rf, K, n, z) Q = ((K r0).1 = 4 ∧ (if wr (Z r0 13) < (5 : Int) then sm_wp d 42 59 [some (.inr (some r0))] [] (Z, Rf, K, n, z) Q else sm_wp d 42 36 [some (.inr (some r0))] [] (Z, Rf, K, n, z) Q)) := (w_aload_n t42_28 rfl rfl).trans ((w_getI t42_29 rfl (by decide)).trans (congrArg (And _) ((w_iconst t42_32 rfl).trans (w_iclt t42_33 rfl wl_5 rfl rfl))))
set_option maxRecDepth 10000 in
theorem b42_36 {d : Nat} {r0 : Nat} {Z : Nat → Nat → Int} {Rf : Nat → Nat → Option Nat} {K : Nat → Nat × Nat} {n z : Nat} {Q : Option sm_V → sm_S → Prop} : sm_wp d 42 36 [some (.inr (some r0))] [] (Z, Rf, K, n, z) Q = ((K r0).1 = 4 ∧ (if (14 : Int) ≤ wr (Z r0 13) then sm_wp d 42 59 [some (.inr (some r0))] [] (Z, Rf, K, n, z) Q else sm_wp d 42 45 [some (.inr (some r0))] [] (Z, Rf, K, n, z) Q)) := (w_aload_n t42_36 rfl rfl).trans ((w_getI t42_37 rfl (by decide)).trans (congrArg (And _) ((w_bipush t42_40 rfl).trans (w_icge t42_42 rfl wl_14 rfl rfl))))
set_option maxRecDepth 10000 in
theorem b42_45 {d : Nat} {r0 : Nat} {Z : Nat → Nat → Int} {Rf : Nat → Nat → Option Nat} {K : Nat → Nat × Nat} {n z : Nat} {Q : Option sm_V → sm_S → Prop} : sm_wp (d + 1) 42 45 [some (.inr (some r0))] [] (Z, Rf, K, n, z) Q = ((K r0).1 = 4 ∧ (K r0).1 = 4 ∧ sm_call d 50 [.inr (some r0), .inl 1, .inl ((Z r0 13) - 5)] (Z, Rf, K, n, z) (sm_cont (d + 1) 42 56 [some (.inr (some r0))] [] Q)) := (w_aload_n t42_45 rfl rfl).trans ((w_iconst t42_46 rfl).trans ((w_aload_n t42_47 rfl rfl).trans ((w_getI t42_48 rfl (by decide)).trans (congrArg (And _) ((w_iconst t42_51 rfl).trans ((w_isub t42_52 rfl).trans (w_callV t42_53 rfl rfl rfl rfl (Nat.le_of_ble_eq_true rfl) (Nat.le_of_ble_eq_true rfl) rfl (by decide))))))))
set_option maxRecDepth 10000 in
theorem b42_56 {d : Nat} {l0 : Option sm_V} {Z : Nat → Nat → Int} {Rf : Nat → Nat → Option Nat} {K : Nat → Nat × Nat} {n z : Nat} {Q : Option sm_V → sm_S → Prop} : sm_wp d 42 56 [l0] [] (Z, Rf, K, n, z) Q = (sm_wp d 42 61 [l0] [] (Z, Rf, K, n, z) Q) := w_goto t42_56 rfl
set_option maxRecDepth 10000 in
theorem b42_59 {d : Nat} {l0 : Option sm_V} {Z : Nat → Nat → Int} {Rf : Nat → Nat → Option Nat} {K : Nat → Nat × Nat} {n z : Nat} {Q : Option sm_V → sm_S → Prop} : sm_wp d 42 59 [l0] [] (Z, Rf, K, n, z) Q = (Q (some (.inl 1)) (Z, Rf, K, n, z)) := (w_iconst t42_59 rfl).trans (w_iret t42_60)
set_option maxRecDepth 10000 in
theorem b42_61 {d : Nat} {r0 : Nat} {Z : Nat → Nat → Int} {Rf : Nat → Nat → Option Nat} {K : Nat → Nat × Nat} {n z : Nat} {Q : Option sm_V → sm_S → Prop} : sm_wp d 42 61 [some (.inr (some r0))] [] (Z, Rf, K, n, z) Q = ((K r0).1 = 4 ∧ Q (some (.inl 0)) (sm_u Z r0 6 5, Rf, K, n, z)) := (w_aload_n t42_61 rfl rfl).trans ((w_iconst t42_62 rfl).trans ((w_putI t42_63 rfl (by decide)).trans (congrArg (And _) ((w_iconst t42_66 rfl).trans (w_iret t42_67)))))
theorem t43_0 : sm_at 43 0 = some (1, .aload_n 0, 0, 0, 0) := rfl
theorem t43_1 : sm_at 43 1 = some (3, .getfield 44, 4, 12, 0) := rfl
theorem t43_4 : sm_at 43 4 = some (1, .iconst 2, 0, 0, 0) := rfl
theorem t43_5 : sm_at 43 5 = some (3, .if_icmp .eq 5, 0, 0, 0) := rfl
theorem t43_8 : sm_at 43 8 = some (1, .iconst 1, 0, 0, 0) := rfl
theorem t43_9 : sm_at 43 9 = some (1, .ireturn, 0, 0, 0) := rfl
theorem t43_10 : sm_at 43 10 = some (1, .aload_n 0, 0, 0, 0) := rfl
theorem t43_11 : sm_at 43 11 = some (3, .getfield 106, 4, 13, 0) := rfl
theorem t43_14 : sm_at 43 14 = some (3, .ifCond .ne 5, 0, 0, 0) := rfl
theorem t43_17 : sm_at 43 17 = some (1, .iconst 2, 0, 0, 0) := rfl
theorem t43_18 : sm_at 43 18 = some (1, .ireturn, 0, 0, 0) := rfl
theorem t43_19 : sm_at 43 19 = some (1, .aload_n 0, 0, 0, 0) := rfl
theorem t43_20 : sm_at 43 20 = some (1, .iconst 2, 0, 0, 0) := rfl
theorem t43_21 : sm_at 43 21 = some (1, .aload_n 0, 0, 0, 0) := rfl
theorem t43_22 : sm_at 43 22 = some (3, .getfield 106, 4, 13, 0) := rfl
theorem t43_25 : sm_at 43 25 = some (3, .invokevirtual 129, 50, 3, 0) := rfl
theorem t43_28 : sm_at 43 28 = some (1, .aload_n 0, 0, 0, 0) := rfl
theorem t43_29 : sm_at 43 29 = some (1, .iconst 5, 0, 0, 0) := rfl
theorem t43_30 : sm_at 43 30 = some (3, .putfield 47, 4, 6, 0) := rfl
theorem t43_33 : sm_at 43 33 = some (1, .iconst 0, 0, 0, 0) := rfl
theorem t43_34 : sm_at 43 34 = some (1, .ireturn, 0, 0, 0) := rfl
set_option maxRecDepth 10000 in
theorem b43_0 {d : Nat} {r0 : Nat} {Z : Nat → Nat → Int} {Rf : Nat → Nat → Option Nat} {K : Nat → Nat × Nat} {n z : Nat} {Q : Option sm_V → sm_S → Prop} : sm_wp d 43 0 [some (.inr (some r0))] [] (Z, Rf, K, n, z) Q = ((K r0).1 = 4 ∧ (if wr (Z r0 12) = (2 : Int) then sm_wp d 43 10 [some (.inr (some r0))] [] (Z, Rf, K, n, z) Q else sm_wp d 43 8 [some (.inr (some r0))] [] (Z, Rf, K, n, z) Q)) := (w_aload_n t43_0 rfl rfl).trans ((w_getI t43_1 rfl (by decide)).trans (congrArg (And _) ((w_iconst t43_4 rfl).trans (w_iceq t43_5 rfl wl_2 rfl rfl))))
set_option maxRecDepth 10000 in
theorem b43_8 {d : Nat} {l0 : Option sm_V} {Z : Nat → Nat → Int} {Rf : Nat → Nat → Option Nat} {K : Nat → Nat × Nat} {n z : Nat} {Q : Option sm_V → sm_S → Prop} : sm_wp d 43 8 [l0] [] (Z, Rf, K, n, z) Q = (Q (some (.inl 1)) (Z, Rf, K, n, z)) := (w_iconst t43_8 rfl).trans (w_iret t43_9)
set_option maxRecDepth 10000 in
theorem b43_10 {d : Nat} {r0 : Nat} {Z : Nat → Nat → Int} {Rf : Nat → Nat → Option Nat} {K : Nat → Nat × Nat} {n z : Nat} {Q : Option sm_V → sm_S → Prop} : sm_wp d 43 10 [some (.inr (some r0))] [] (Z, Rf, K, n, z) Q = ((K r0).1 = 4 ∧ (if wr (Z r0 13) = 0 then sm_wp d 43 17 [some (.inr (some r0))] [] (Z, Rf, K, n, z) Q else sm_wp d 43 19 [some (.inr (some r0))] [] (Z, Rf, K, n, z) Q)) := (w_aload_n t43_10 rfl rfl).trans ((w_getI t43_11 rfl (by decide)).trans (congrArg (And _) (w_ifne t43_14 rfl rfl rfl)))
set_option maxRecDepth 10000 in
theorem b43_17 {d : Nat} {l0 : Option sm_V} {Z : Nat → Nat → Int} {Rf : Nat → Nat → Option Nat} {K : Nat → Nat × Nat} {n z : Nat} {Q : Option sm_V → sm_S → Prop} : sm_wp d 43 17 [l0] [] (Z, Rf, K, n, z) Q = (Q (some (.inl 2)) (Z, Rf, K, n, z)) := (w_iconst t43_17 rfl).trans (w_iret t43_18)
set_option maxRecDepth 10000 in
theorem b43_19 {d : Nat} {r0 : Nat} {Z : Nat → Nat → Int} {Rf : Nat → Nat → Option Nat} {K : Nat → Nat × Nat} {n z : Nat} {Q : Option sm_V → sm_S → Prop} : sm_wp (d + 1) 43 19 [some (.inr (some r0))] [] (Z, Rf, K, n, z) Q = ((K r0).1 = 4 ∧ (K r0).1 = 4 ∧ sm_call d 50 [.inr (some r0), .inl 2, .inl (Z r0 13)] (Z, Rf, K, n, z) (sm_cont (d + 1) 43 28 [some (.inr (some r0))] [] Q)) := (w_aload_n t43_19 rfl rfl).trans ((w_iconst t43_20 rfl).trans ((w_aload_n t43_21 rfl rfl).trans ((w_getI t43_22 rfl (by decide)).trans (congrArg (And _) (w_callV t43_25 rfl rfl rfl rfl (Nat.le_of_ble_eq_true rfl) (Nat.le_of_ble_eq_true rfl) rfl (by decide))))))
set_option maxRecDepth 10000 in
theorem b43_28 {d : Nat} {r0 : Nat} {Z : Nat → Nat → Int} {Rf : Nat → Nat → Option Nat} {K : Nat → Nat × Nat} {n z : Nat} {Q : Option sm_V → sm_S → Prop} : sm_wp d 43 28 [some (.inr (some r0))] [] (Z, Rf, K, n, z) Q = ((K r0).1 = 4 ∧ Q (some (.inl 0)) (sm_u Z r0 6 5, Rf, K, n, z)) := (w_aload_n t43_28 rfl rfl).trans ((w_iconst t43_29 rfl).trans ((w_putI t43_30 rfl (by decide)).trans (congrArg (And _) ((w_iconst t43_33 rfl).trans (w_iret t43_34)))))
theorem t44_0 : sm_at 44 0 = some (1, .aload_n 0, 0, 0, 0) := rfl
theorem t44_1 : sm_at 44 1 = some (3, .getfield 44, 4, 12, 0) := rfl
theorem t44_4 : sm_at 44 4 = some (100, .tableswitch 159 42 62 #[100, 123, 159, 130, 159, 107, 159, 159, 159, 159, 159, 159, 159, 159, 159, 159, 159, 159, 138, 145, 152], 0, 0, 0) := rfl
theorem t44_104 : sm_at 44 104 = some (1, .aload_n 0, 0, 0, 0) := rfl
theorem t44_105 : sm_at 44 105 = some (1, .iconst 4, 0, 0, 0) := rfl
theorem t44_106 : sm_at 44 106 = some (1, .iconst 3, 0, 0, 0) := rfl
theorem t44_107 : sm_at 44 107 = some (3, .invokevirtual 144, 47, 3, 0) := rfl
theorem t44_110 : sm_at 44 110 = some (1, .ireturn, 0, 0, 0) := rfl
theorem t44_111 : sm_at 44 111 = some (1, .aload_n 0, 0, 0, 0) := rfl
theorem t44_112 : sm_at 44 112 = some (3, .getstatic 147, 1, 1000004, 0) := rfl
theorem t44_115 : sm_at 44 115 = some (1, .iconst 4, 0, 0, 0) := rfl
theorem t44_116 : sm_at 44 116 = some (1, .iaload, 0, 0, 0) := rfl
theorem t44_117 : sm_at 44 117 = some (3, .invokevirtual 150, 48, 2, 0) := rfl
theorem t44_120 : sm_at 44 120 = some (1, .aload_n 0, 0, 0, 0) := rfl
theorem t44_121 : sm_at 44 121 = some (1, .iconst 4, 0, 0, 0) := rfl
theorem t44_122 : sm_at 44 122 = some (3, .putfield 47, 4, 6, 0) := rfl
theorem t44_125 : sm_at 44 125 = some (1, .iconst 0, 0, 0, 0) := rfl
theorem t44_126 : sm_at 44 126 = some (1, .ireturn, 0, 0, 0) := rfl
theorem t44_127 : sm_at 44 127 = some (1, .aload_n 0, 0, 0, 0) := rfl
theorem t44_128 : sm_at 44 128 = some (1, .iconst 5, 0, 0, 0) := rfl
theorem t44_129 : sm_at 44 129 = some (1, .iconst 3, 0, 0, 0) := rfl
theorem t44_130 : sm_at 44 130 = some (3, .invokevirtual 144, 47, 3, 0) := rfl
theorem t44_133 : sm_at 44 133 = some (1, .ireturn, 0, 0, 0) := rfl
theorem t44_134 : sm_at 44 134 = some (1, .aload_n 0, 0, 0, 0) := rfl
theorem t44_135 : sm_at 44 135 = some (2, .bipush 6, 0, 0, 0) := rfl
theorem t44_137 : sm_at 44 137 = some (1, .iconst 3, 0, 0, 0) := rfl
theorem t44_138 : sm_at 44 138 = some (3, .invokevirtual 144, 47, 3, 0) := rfl
theorem t44_141 : sm_at 44 141 = some (1, .ireturn, 0, 0, 0) := rfl
theorem t44_142 : sm_at 44 142 = some (1, .aload_n 0, 0, 0, 0) := rfl
theorem t44_143 : sm_at 44 143 = some (2, .bipush 7, 0, 0, 0) := rfl
theorem t44_145 : sm_at 44 145 = some (3, .invokevirtual 153, 45, 2, 0) := rfl
theorem t44_148 : sm_at 44 148 = some (1, .ireturn, 0, 0, 0) := rfl
theorem t44_149 : sm_at 44 149 = some (1, .aload_n 0, 0, 0, 0) := rfl
theorem t44_150 : sm_at 44 150 = some (2, .bipush 8, 0, 0, 0) := rfl
theorem t44_152 : sm_at 44 152 = some (3, .invokevirtual 153, 45, 2, 0) := rfl
theorem t44_155 : sm_at 44 155 = some (1, .ireturn, 0, 0, 0) := rfl
theorem t44_156 : sm_at 44 156 = some (1, .aload_n 0, 0, 0, 0) := rfl
theorem t44_157 : sm_at 44 157 = some (2, .bipush 9, 0, 0, 0) := rfl
theorem t44_159 : sm_at 44 159 = some (3, .invokevirtual 153, 45, 2, 0) := rfl
theorem t44_162 : sm_at 44 162 = some (1, .ireturn, 0, 0, 0) := rfl
theorem t44_163 : sm_at 44 163 = some (1, .aload_n 0, 0, 0, 0) := rfl
theorem t44_164 : sm_at 44 164 = some (3, .getfield 136, 4, 11, 0) := rfl
theorem t44_167 : sm_at 44 167 = some (3, .ifCond .eq 10, 0, 0, 0) := rfl
theorem t44_170 : sm_at 44 170 = some (1, .aload_n 0, 0, 0, 0) := rfl
theorem t44_171 : sm_at 44 171 = some (3, .invokevirtual 86, 46, 1, 0) := rfl
theorem t44_174 : sm_at 44 174 = some (3, .goto 4, 0, 0, 0) := rfl
theorem t44_177 : sm_at 44 177 = some (1, .iconst 1, 0, 0, 0) := rfl
theorem t44_178 : sm_at 44 178 = some (1, .ireturn, 0, 0, 0) := rfl
set_option maxRecDepth 10000 in
theorem b44_0 {d : Nat} {r0 : Nat} {Z : Nat → Nat → Int} {Rf : Nat → Nat → Option Nat} {K : Nat → Nat × Nat} {n z : Nat} {Q : Option sm_V → sm_S → Prop} : sm_wp d 44 0 [some (.inr (some r0))] [] (Z, Rf, K, n, z) Q = ((K r0).1 = 4 ∧ sm_wp d 44 (sm_sel (wr (Z r0 12)) 163 [(42, 104), (43, 127), (44, 163), (45, 134), (46, 163), (47, 111), (48, 163), (49, 163), (50, 163), (51, 163), (52, 163), (53, 163), (54, 163), (55, 163), (56, 163), (57, 163), (58, 163), (59, 163), (60, 142), (61, 149), (62, 156)]) [some (.inr (some r0))] [] (Z, Rf, K, n, z) Q) := (w_aload_n t44_0 rfl rfl).trans ((w_getI t44_1 rfl (by decide)).trans (congrArg (And _) (w_tsw t44_4 rfl rfl rfl (by decide))))
set_option maxRecDepth 10000 in
theorem b44_104 {d : Nat} {r0 : Nat} {Z : Nat → Nat → Int} {Rf : Nat → Nat → Option Nat} {K : Nat → Nat × Nat} {n z : Nat} {Q : Option sm_V → sm_S → Prop} : sm_wp (d + 1) 44 104 [some (.inr (some r0))] [] (Z, Rf, K, n, z) Q = ((K r0).1 = 4 ∧ sm_call d 47 [.inr (some r0), .inl 4, .inl 3] (Z, Rf, K, n, z) (sm_cont (d + 1) 44 110 [some (.inr (some r0))] [] Q)) := (w_aload_n t44_104 rfl rfl).trans ((w_iconst t44_105 rfl).trans ((w_iconst t44_106 rfl).trans (w_callV t44_107 rfl rfl rfl rfl (Nat.le_of_ble_eq_true rfl) (Nat.le_of_ble_eq_true rfl) rfl (by decide))))
set_option maxRecDepth 10000 in
theorem b44_110 {d : Nat} {l0 : Option sm_V} {s0 : Int} {Z : Nat → Nat → Int} {Rf : Nat → Nat → Option Nat} {K : Nat → Nat × Nat} {n z : Nat} {Q : Option sm_V → sm_S → Prop} : sm_wp d 44 110 [l0] [.inl s0] (Z, Rf, K, n, z) Q = (Q (some (.inl s0)) (Z, Rf, K, n, z)) := w_iret t44_110
set_option maxRecDepth 10000 in
theorem b44_111 {d : Nat} {r0 : Nat} {Z : Nat → Nat → Int} {Rf : Nat → Nat → Option Nat} {K : Nat → Nat × Nat} {n z : Nat} {Q : Option sm_V → sm_S → Prop} : sm_wp (d + 1) 44 111 [some (.inr (some r0))] [] (Z, Rf, K, n, z) Q = (sm_rd (K 1000004) ((4 : Int)) ∧ (K r0).1 = 4 ∧ sm_call d 48 [.inr (some r0), .inl (Z 1000004 4)] (Z, Rf, K, n, z) (sm_cont (d + 1) 44 120 [some (.inr (some r0))] [] Q)) := (w_aload_n t44_111 rfl rfl).trans ((w_gs1 t44_112 rfl).trans ((w_iconst t44_115 rfl).trans ((w_iald t44_116 rfl wl_4).trans (congrArg (And _) (w_callV t44_117 rfl rfl rfl rfl (Nat.le_of_ble_eq_true rfl) (Nat.le_of_ble_eq_true rfl) rfl (by decide))))))
set_option maxRecDepth 10000 in
theorem b44_120 {d : Nat} {r0 : Nat} {Z : Nat → Nat → Int} {Rf : Nat → Nat → Option Nat} {K : Nat → Nat × Nat} {n z : Nat} {Q : Option sm_V → sm_S → Prop} : sm_wp d 44 120 [some (.inr (some r0))] [] (Z, Rf, K, n, z) Q = ((K r0).1 = 4 ∧ Q (some (.inl 0)) (sm_u Z r0 6 4, Rf, K, n, z)) := (w_aload_n t44_120 rfl rfl).trans ((w_iconst t44_121 rfl).trans ((w_putI t44_122 rfl (by decide)).trans (congrArg (And _) ((w_iconst t44_125 rfl).trans (w_iret t44_126)))))
set_option maxRecDepth 10000 in
theorem b44_127 {d : Nat} {r0 : Nat} {Z : Nat → Nat → Int} {Rf : Nat → Nat → Option Nat} {K : Nat → Nat × Nat} {n z : Nat} {Q : Option sm_V → sm_S → Prop} : sm_wp (d + 1) 44 127 [some (.inr (some r0))] [] (Z, Rf, K, n, z) Q = ((K r0).1 = 4 ∧ sm_call d 47 [.inr (some r0), .inl 5, .inl 3] (Z, Rf, K, n, z) (sm_cont (d + 1) 44 133 [some (.inr (some r0))] [] Q)) := (w_aload_n t44_127 rfl rfl).trans ((w_iconst t44_128 rfl).trans ((w_iconst t44_129 rfl).trans (w_callV t44_130 rfl rfl rfl rfl (Nat.le_of_ble_eq_true rfl) (Nat.le_of_ble_eq_true rfl) rfl (by decide))))
set_option maxRecDepth 10000 in
theorem b44_133 {d : Nat} {l0 : Option sm_V} {s0 : Int} {Z : Nat → Nat → Int} {Rf : Nat → Nat → Option Nat} {K : Nat → Nat × Nat} {n z : Nat} {Q : Option sm_V → sm_S → Prop} : sm_wp d 44 133 [l0] [.inl s0] (Z, Rf, K, n, z) Q = (Q (some (.inl s0)) (Z, Rf, K, n, z)) := w_iret t44_133
set_option maxRecDepth 10000 in
theorem b44_134 {d : Nat} {r0 : Nat} {Z : Nat → Nat → Int} {Rf : Nat → Nat → Option Nat} {K : Nat → Nat × Nat} {n z : Nat} {Q : Option sm_V → sm_S → Prop} : sm_wp (d + 1) 44 134 [some (.inr (some r0))] [] (Z, Rf, K, n, z) Q = ((K r0).1 = 4 ∧ sm_call d 47 [.inr (some r0), .inl 6, .inl 3] (Z, Rf, K, n, z) (sm_cont (d + 1) 44 141 [some (.inr (some r0))] [] Q)) := (w_aload_n t44_134 rfl rfl).trans ((w_bipush t44_135 rfl).trans ((w_iconst t44_137 rfl).trans (w_callV t44_138 rfl rfl rfl rfl (Nat.le_of_ble_eq_true rfl) (Nat.le_of_ble_eq_true rfl) rfl (by decide))))
set_option maxRecDepth 10000 in
theorem b44_141 {d : Nat} {l0 : Option sm_V} {s0 : Int} {Z : Nat → Nat → Int} {Rf : Nat → Nat → Option Nat} {K : Nat → Nat × Nat} {n z : Nat} {Q : Option sm_V → sm_S → Prop} : sm_wp d 44 141 [l0] [.inl s0] (Z, Rf, K, n, z) Q = (Q (some (.inl s0)) (Z, Rf, K, n, z)) := w_iret t44_141
set_option maxRecDepth 10000 in
theorem b44_142 {d : Nat} {r0 : Nat} {Z : Nat → Nat → Int} {Rf : Nat → Nat → Option Nat} {K : Nat → Nat × Nat} {n z : Nat} {Q : Option sm_V → sm_S → Prop} : sm_wp (d + 1) 44 142 [some (.inr (some r0))] [] (Z, Rf, K, n, z) Q = ((K r0).1 = 4 ∧ sm_call d 45 [.inr (some r0), .inl 7] (Z, Rf, K, n, z) (sm_cont (d + 1) 44 148 [some (.inr (some r0))] [] Q)) := (w_aload_n t44_142 rfl rfl).trans ((w_bipush t44_143 rfl).trans (w_callV t44_145 rfl rfl rfl rfl (Nat.le_of_ble_eq_true rfl) (Nat.le_of_ble_eq_true rfl) rfl (by decide)))
set_option maxRecDepth 10000 in
theorem b44_148 {d : Nat} {l0 : Option sm_V} {s0 : Int} {Z : Nat → Nat → Int} {Rf : Nat → Nat → Option Nat} {K : Nat → Nat × Nat} {n z : Nat} {Q : Option sm_V → sm_S → Prop} : sm_wp d 44 148 [l0] [.inl s0] (Z, Rf, K, n, z) Q = (Q (some (.inl s0)) (Z, Rf, K, n, z)) := w_iret t44_148
set_option maxRecDepth 10000 in
theorem b44_149 {d : Nat} {r0 : Nat} {Z : Nat → Nat → Int} {Rf : Nat → Nat → Option Nat} {K : Nat → Nat × Nat} {n z : Nat} {Q : Option sm_V → sm_S → Prop} : sm_wp (d + 1) 44 149 [some (.inr (some r0))] [] (Z, Rf, K, n, z) Q = ((K r0).1 = 4 ∧ sm_call d 45 [.inr (some r0), .inl 8] (Z, Rf, K, n, z) (sm_cont (d + 1) 44 155 [some (.inr (some r0))] [] Q)) := (w_aload_n t44_149 rfl rfl).trans ((w_bipush t44_150 rfl).trans (w_callV t44_152 rfl rfl rfl rfl (Nat.le_of_ble_eq_true rfl) (Nat.le_of_ble_eq_true rfl) rfl (by decide)))
set_option maxRecDepth 10000 in
theorem b44_155 {d : Nat} {l0 : Option sm_V} {s0 : Int} {Z : Nat → Nat → Int} {Rf : Nat → Nat → Option Nat} {K : Nat → Nat × Nat} {n z : Nat} {Q : Option sm_V → sm_S → Prop} : sm_wp d 44 155 [l0] [.inl s0] (Z, Rf, K, n, z) Q = (Q (some (.inl s0)) (Z, Rf, K, n, z)) := w_iret t44_155
set_option maxRecDepth 10000 in
theorem b44_156 {d : Nat} {r0 : Nat} {Z : Nat → Nat → Int} {Rf : Nat → Nat → Option Nat} {K : Nat → Nat × Nat} {n z : Nat} {Q : Option sm_V → sm_S → Prop} : sm_wp (d + 1) 44 156 [some (.inr (some r0))] [] (Z, Rf, K, n, z) Q = ((K r0).1 = 4 ∧ sm_call d 45 [.inr (some r0), .inl 9] (Z, Rf, K, n, z) (sm_cont (d + 1) 44 162 [some (.inr (some r0))] [] Q)) := (w_aload_n t44_156 rfl rfl).trans ((w_bipush t44_157 rfl).trans (w_callV t44_159 rfl rfl rfl rfl (Nat.le_of_ble_eq_true rfl) (Nat.le_of_ble_eq_true rfl) rfl (by decide)))
set_option maxRecDepth 10000 in
theorem b44_162 {d : Nat} {l0 : Option sm_V} {s0 : Int} {Z : Nat → Nat → Int} {Rf : Nat → Nat → Option Nat} {K : Nat → Nat × Nat} {n z : Nat} {Q : Option sm_V → sm_S → Prop} : sm_wp d 44 162 [l0] [.inl s0] (Z, Rf, K, n, z) Q = (Q (some (.inl s0)) (Z, Rf, K, n, z)) := w_iret t44_162
set_option maxRecDepth 10000 in
theorem b44_163 {d : Nat} {r0 : Nat} {Z : Nat → Nat → Int} {Rf : Nat → Nat → Option Nat} {K : Nat → Nat × Nat} {n z : Nat} {Q : Option sm_V → sm_S → Prop} : sm_wp d 44 163 [some (.inr (some r0))] [] (Z, Rf, K, n, z) Q = ((K r0).1 = 4 ∧ (if wr (Z r0 11) = 0 then sm_wp d 44 177 [some (.inr (some r0))] [] (Z, Rf, K, n, z) Q else sm_wp d 44 170 [some (.inr (some r0))] [] (Z, Rf, K, n, z) Q)) := (w_aload_n t44_163 rfl rfl).trans ((w_getI t44_164 rfl (by decide)).trans (congrArg (And _) (w_ifeq t44_167 rfl rfl rfl)))
set_option maxRecDepth 10000 in
theorem b44_170 {d : Nat} {r0 : Nat} {Z : Nat → Nat → Int} {Rf : Nat → Nat → Option Nat} {K : Nat → Nat × Nat} {n z : Nat} {Q : Option sm_V → sm_S → Prop} : sm_wp (d + 1) 44 170 [some (.inr (some r0))] [] (Z, Rf, K, n, z) Q = ((K r0).1 = 4 ∧ sm_call d 46 [.inr (some r0)] (Z, Rf, K, n, z) (sm_cont (d + 1) 44 174 [some (.inr (some r0))] [] Q)) := (w_aload_n t44_170 rfl rfl).trans (w_callV t44_171 rfl rfl rfl rfl (Nat.le_of_ble_eq_true rfl) (Nat.le_of_ble_eq_true rfl) rfl (by decide))
set_option maxRecDepth 10000 in
theorem b44_174 {d : Nat} {l0 : Option sm_V} {s0 : Int} {Z : Nat → Nat → Int} {Rf : Nat → Nat → Option Nat} {K : Nat → Nat × Nat} {n z : Nat} {Q : Option sm_V → sm_S → Prop} : sm_wp d 44 174 [l0] [.inl s0] (Z, Rf, K, n, z) Q = (sm_wp d 44 178 [l0] [.inl s0] (Z, Rf, K, n, z) Q) := w_goto t44_174 rfl
set_option maxRecDepth 10000 in
theorem b44_177 {d : Nat} {l0 : Option sm_V} {Z : Nat → Nat → Int} {Rf : Nat → Nat → Option Nat} {K : Nat → Nat × Nat} {n z : Nat} {Q : Option sm_V → sm_S → Prop} : sm_wp d 44 177 [l0] [] (Z, Rf, K, n, z) Q = (sm_wp d 44 178 [l0] [.inl 1] (Z, Rf, K, n, z) Q) := w_iconst t44_177 rfl
set_option maxRecDepth 10000 in
theorem b44_178 {d : Nat} {l0 : Option sm_V} {s0 : Int} {Z : Nat → Nat → Int} {Rf : Nat → Nat → Option Nat} {K : Nat → Nat × Nat} {n z : Nat} {Q : Option sm_V → sm_S → Prop} : sm_wp d 44 178 [l0] [.inl s0] (Z, Rf, K, n, z) Q = (Q (some (.inl s0)) (Z, Rf, K, n, z)) := w_iret t44_178
theorem t45_0 : sm_at 45 0 = some (1, .aload_n 0, 0, 0, 0) := rfl
theorem t45_1 : sm_at 45 1 = some (3, .getfield 136, 4, 11, 0) := rfl
theorem t45_4 : sm_at 45 4 = some (3, .ifCond .eq 5, 0, 0, 0) := rfl
theorem t45_7 : sm_at 45 7 = some (1, .iconst 1, 0, 0, 0) := rfl
theorem t45_8 : sm_at 45 8 = some (1, .ireturn, 0, 0, 0) := rfl
theorem t45_9 : sm_at 45 9 = some (1, .aload_n 0, 0, 0, 0) := rfl
theorem t45_10 : sm_at 45 10 = some (1, .iconst 1, 0, 0, 0) := rfl
theorem t45_11 : sm_at 45 11 = some (3, .putfield 136, 4, 11, 0) := rfl
theorem t45_14 : sm_at 45 14 = some (1, .aload_n 0, 0, 0, 0) := rfl
theorem t45_15 : sm_at 45 15 = some (1, .iload_n 1, 0, 0, 0) := rfl
theorem t45_16 : sm_at 45 16 = some (1, .iconst 3, 0, 0, 0) := rfl
theorem t45_17 : sm_at 45 17 = some (3, .invokevirtual 144, 47, 3, 0) := rfl
theorem t45_20 : sm_at 45 20 = some (1, .ireturn, 0, 0, 0) := rfl
set_option maxRecDepth 10000 in
theorem b45_0 {d : Nat} {r0 : Nat} {l1 : Option sm_V} {Z : Nat → Nat → Int} {Rf : Nat → Nat → Option Nat} {K : Nat → Nat × Nat} {n z : Nat} {Q : Option sm_V → sm_S → Prop} : sm_wp d 45 0 [some (.inr (some r0)), l1] [] (Z, Rf, K, n, z) Q = ((K r0).1 = 4 ∧ (if wr (Z r0 11) = 0 then sm_wp d 45 9 [some (.inr (some r0)), l1] [] (Z, Rf, K, n, z) Q else sm_wp d 45 7 [some (.inr (some r0)), l1] [] (Z, Rf, K, n, z) Q)) := (w_aload_n t45_0 rfl rfl).trans ((w_getI t45_1 rfl (by decide)).trans (congrArg (And _) (w_ifeq t45_4 rfl rfl rfl)))
set_option maxRecDepth 10000 in
theorem b45_7 {d : Nat} {l0 : Option sm_V} {l1 : Option sm_V} {Z : Nat → Nat → Int} {Rf : Nat → Nat → Option Nat} {K : Nat → Nat × Nat} {n z : Nat} {Q : Option sm_V → sm_S → Prop} : sm_wp d 45 7 [l0, l1] [] (Z, Rf, K, n, z) Q = (Q (some (.inl 1)) (Z, Rf, K, n, z)) := (w_iconst t45_7 rfl).trans (w_iret t45_8)
set_option maxRecDepth 10000 in
theorem b45_9 {d : Nat} {r0 : Nat} {x1 : Int} {Z : Nat → Nat → Int} {Rf : Nat → Nat → Option Nat} {K : Nat → Nat × Nat} {n z : Nat} {Q : Option sm_V → sm_S → Prop} : sm_wp (d + 1) 45 9 [some (.inr (some r0)), some (.inl x1)] [] (Z, Rf, K, n, z) Q = ((K r0).1 = 4 ∧ ((1 : Int) = 0 ∨ (1 : Int) = 1) ∧ (K r0).1 = 4 ∧ sm_call d 47 [.inr (some r0), .inl x1, .inl 3] (sm_u Z r0 11 1, Rf, K, n, z) (sm_cont (d + 1) 45 20 [some (.inr (some r0)), some (.inl x1)] [] Q)) := (w_aload_n t45_9 rfl rfl).trans ((w_iconst t45_10 rfl).trans ((w_putB t45_11 rfl (by decide) wl_1).trans (congrArg (And _) (congrArg (And _) ((w_aload_n t45_14 rfl rfl).trans ((w_iload_n t45_15 rfl rfl).trans ((w_iconst t45_16 rfl).trans (w_callV t45_17 rfl rfl rfl rfl (Nat.le_of_ble_eq_true rfl) (Nat.le_of_ble_eq_true rfl) rfl (by decide)))))))))
set_option maxRecDepth 10000 in
theorem b45_20 {d : Nat} {l0 : Option sm_V} {l1 : Option sm_V} {s0 : Int} {Z : Nat → Nat → Int} {Rf : Nat → Nat → Option Nat} {K : Nat → Nat × Nat} {n z : Nat} {Q : Option sm_V → sm_S → Prop} : sm_wp d 45 20 [l0, l1] [.inl s0] (Z, Rf, K, n, z) Q = (Q (some (.inl s0)) (Z, Rf, K, n, z)) := w_iret t45_20
theorem t46_0 : sm_at 46 0 = some (1, .aload_n 0, 0, 0, 0) := rfl
theorem t46_1 : sm_at 46 1 = some (2, .bipush 15, 0, 0, 0) := rfl
theorem t46_3 : sm_at 46 3 = some (3, .invokevirtual 133, 38, 2, 0) := rfl
theorem t46_6 : sm_at 46 6 = some (3, .ifCond .eq 11, 0, 0, 0) := rfl
theorem t46_9 : sm_at 46 9 = some (1, .aload_n 0, 0, 0, 0) := rfl
theorem t46_10 : sm_at 46 10 = some (2, .bipush 11, 0, 0, 0) := rfl
theorem t46_12 : sm_at 46 12 = some (1, .iconst 2, 0, 0, 0) := rfl
theorem t46_13 : sm_at 46 13 = some (3, .invokevirtual 144, 47, 3, 0) := rfl
theorem t46_16 : sm_at 46 16 = some (1, .ireturn, 0, 0, 0) := rfl
theorem t46_17 : sm_at 46 17 = some (1, .aload_n 0, 0, 0, 0) := rfl
theorem t46_18 : sm_at 46 18 = some (2, .bipush 16, 0, 0, 0) := rfl
theorem t46_20 : sm_at 46 20 = some (3, .invokevirtual 133, 38, 2, 0) := rfl
theorem t46_23 : sm_at 46 23 = some (3, .ifCond .eq 11, 0, 0, 0) := rfl
theorem t46_26 : sm_at 46 26 = some (1, .aload_n 0, 0, 0, 0) := rfl
theorem t46_27 : sm_at 46 27 = some (2, .bipush 10, 0, 0, 0) := rfl
theorem t46_29 : sm_at 46 29 = some (1, .iconst 2, 0, 0, 0) := rfl
theorem t46_30 : sm_at 46 30 = some (3, .invokevirtual 144, 47, 3, 0) := rfl
theorem t46_33 : sm_at 46 33 = some (1, .ireturn, 0, 0, 0) := rfl
theorem t46_34 : sm_at 46 34 = some (1, .aload_n 0, 0, 0, 0) := rfl
theorem t46_35 : sm_at 46 35 = some (3, .getfield 44, 4, 12, 0) := rfl
theorem t46_38 : sm_at 46 38 = some (2, .bipush 41, 0, 0, 0) := rfl
theorem t46_40 : sm_at 46 40 = some (3, .if_icmp .ne 53, 0, 0, 0) := rfl
theorem t46_43 : sm_at 46 43 = some (1, .aload_n 0, 0, 0, 0) := rfl
theorem t46_44 : sm_at 46 44 = some (3, .getfield 95, 4, 10, 0) := rfl
theorem t46_47 : sm_at 46 47 = some (3, .ifCond .le 46, 0, 0, 0) := rfl
theorem t46_50 : sm_at 46 50 = some (1, .aload_n 0, 0, 0, 0) := rfl
theorem t46_51 : sm_at 46 51 = some (1, .iconst 1, 0, 0, 0) := rfl
theorem t46_52 : sm_at 46 52 = some (3, .invokevirtual 150, 48, 2, 0) := rfl
theorem t46_55 : sm_at 46 55 = some (1, .aload_n 0, 0, 0, 0) := rfl
theorem t46_56 : sm_at 46 56 = some (1, .dup, 0, 0, 0) := rfl
theorem t46_57 : sm_at 46 57 = some (3, .getfield 89, 4, 5, 0) := rfl
theorem t46_60 : sm_at 46 60 = some (1, .iconst 1, 0, 0, 0) := rfl
theorem t46_61 : sm_at 46 61 = some (1, .isub, 0, 0, 0) := rfl
theorem t46_62 : sm_at 46 62 = some (3, .putfield 89, 4, 5, 0) := rfl
theorem t46_65 : sm_at 46 65 = some (1, .aload_n 0, 0, 0, 0) := rfl
theorem t46_66 : sm_at 46 66 = some (1, .dup, 0, 0, 0) := rfl
theorem t46_67 : sm_at 46 67 = some (3, .getfield 95, 4, 10, 0) := rfl
theorem t46_70 : sm_at 46 70 = some (1, .iconst 1, 0, 0, 0) := rfl
theorem t46_71 : sm_at 46 71 = some (1, .isub, 0, 0, 0) := rfl
theorem t46_72 : sm_at 46 72 = some (3, .putfield 95, 4, 10, 0) := rfl
theorem t46_75 : sm_at 46 75 = some (1, .aload_n 0, 0, 0, 0) := rfl
theorem t46_76 : sm_at 46 76 = some (1, .dup, 0, 0, 0) := rfl
theorem t46_77 : sm_at 46 77 = some (3, .getfield 92, 4, 9, 0) := rfl
theorem t46_80 : sm_at 46 80 = some (1, .iconst 1, 0, 0, 0) := rfl
theorem t46_81 : sm_at 46 81 = some (1, .isub, 0, 0, 0) := rfl
theorem t46_82 : sm_at 46 82 = some (3, .putfield 92, 4, 9, 0) := rfl
theorem t46_85 : sm_at 46 85 = some (1, .aload_n 0, 0, 0, 0) := rfl
theorem t46_86 : sm_at 46 86 = some (2, .bipush 6, 0, 0, 0) := rfl
theorem t46_88 : sm_at 46 88 = some (3, .putfield 47, 4, 6, 0) := rfl
theorem t46_91 : sm_at 46 91 = some (1, .iconst 0, 0, 0, 0) := rfl
theorem t46_92 : sm_at 46 92 = some (1, .ireturn, 0, 0, 0) := rfl
theorem t46_93 : sm_at 46 93 = some (1, .aload_n 0, 0, 0, 0) := rfl
theorem t46_94 : sm_at 46 94 = some (3, .getfield 44, 4, 12, 0) := rfl
theorem t46_97 : sm_at 46 97 = some (2, .bipush 59, 0, 0, 0) := rfl
theorem t46_99 : sm_at 46 99 = some (3, .if_icmp .ne 32, 0, 0, 0) := rfl
theorem t46_102 : sm_at 46 102 = some (1, .aload_n 0, 0, 0, 0) := rfl
theorem t46_103 : sm_at 46 103 = some (3, .getfield 95, 4, 10, 0) := rfl
theorem t46_106 : sm_at 46 106 = some (3, .ifCond .ne 25, 0, 0, 0) := rfl
theorem t46_109 : sm_at 46 109 = some (1, .aload_n 0, 0, 0, 0) := rfl
theorem t46_110 : sm_at 46 110 = some (1, .iconst 1, 0, 0, 0) := rfl
set_option maxRecDepth 100000 in
theorem t46_111 : sm_at 46 111 = some (3, .invokevirtual 150, 48, 2, 0) := rfl
set_option maxRecDepth 100000 in
theorem t46_114 : sm_at 46 114 = some (1, .aload_n 0, 0, 0, 0) := rfl
set_option maxRecDepth 100000 in
theorem t46_115 : sm_at 46 115 = some (2, .bipush 13, 0, 0, 0) := rfl
set_option maxRecDepth 100000 in
theorem t46_117 : sm_at 46 117 = some (1, .aload_n 0, 0, 0, 0) := rfl
set_option maxRecDepth 100000 in
theorem t46_118 : sm_at 46 118 = some (3, .getfield 126, 4, 8, 0) := rfl
set_option maxRecDepth 100000 in
theorem t46_121 : sm_at 46 121 = some (3, .invokevirtual 129, 50, 3, 0) := rfl
set_option maxRecDepth 100000 in
theorem t46_124 : sm_at 46 124 = some (1, .aload_n 0, 0, 0, 0) := rfl
set_option maxRecDepth 100000 in
theorem t46_125 : sm_at 46 125 = some (1, .iconst 0, 0, 0, 0) := rfl
set_option maxRecDepth 100000 in
theorem t46_126 : sm_at 46 126 = some (3, .putfield 47, 4, 6, 0) := rfl
set_option maxRecDepth 100000 in
theorem t46_129 : sm_at 46 129 = some (1, .iconst 0, 0, 0, 0) := rfl
set_option maxRecDepth 100000 in
theorem t46_130 : sm_at 46 130 = some (1, .ireturn, 0, 0, 0) := rfl
set_option maxRecDepth 100000 in
theorem t46_131 : sm_at 46 131 = some (1, .iconst 1, 0, 0, 0) := rfl
set_option maxRecDepth 100000 in
theorem t46_132 : sm_at 46 132 = some (1, .ireturn, 0, 0, 0) := rfl
set_option maxRecDepth 10000 in
theorem b46_0 {d : Nat} {r0 : Nat} {Z : Nat → Nat → Int} {Rf : Nat → Nat → Option Nat} {K : Nat → Nat × Nat} {n z : Nat} {Q : Option sm_V → sm_S → Prop} : sm_wp (d + 1) 46 0 [some (.inr (some r0))] [] (Z, Rf, K, n, z) Q = ((K r0).1 = 4 ∧ sm_call d 38 [.inr (some r0), .inl 15] (Z, Rf, K, n, z) (sm_cont (d + 1) 46 6 [some (.inr (some r0))] [] Q)) := (w_aload_n t46_0 rfl rfl).trans ((w_bipush t46_1 rfl).trans (w_callV t46_3 rfl rfl rfl rfl (Nat.le_of_ble_eq_true rfl) (Nat.le_of_ble_eq_true rfl) rfl (by decide)))
set_option maxRecDepth 10000 in
theorem b46_6 {d : Nat} {l0 : Option sm_V} {s0 : Int} {Z : Nat → Nat → Int} {Rf : Nat → Nat → Option Nat} {K : Nat → Nat × Nat} {n z : Nat} {Q : Option sm_V → sm_S → Prop} : sm_wp d 46 6 [l0] [.inl s0] (Z, Rf, K, n, z) Q = (if wr s0 = 0 then sm_wp d 46 17 [l0] [] (Z, Rf, K, n, z) Q else sm_wp d 46 9 [l0] [] (Z, Rf, K, n, z) Q) := w_ifeq t46_6 rfl rfl rfl
set_option maxRecDepth 10000 in
theorem b46_9 {d : Nat} {r0 : Nat} {Z : Nat → Nat → Int} {Rf : Nat → Nat → Option Nat} {K : Nat → Nat × Nat} {n z : Nat} {Q : Option sm_V → sm_S → Prop} : sm_wp (d + 1) 46 9 [some (.inr (some r0))] [] (Z, Rf, K, n, z) Q = ((K r0).1 = 4 ∧ sm_call d 47 [.inr (some r0), .inl 11, .inl 2] (Z, Rf, K, n, z) (sm_cont (d + 1) 46 16 [some (.inr (some r0))] [] Q)) := (w_aload_n t46_9 rfl rfl).trans ((w_bipush t46_10 rfl).trans ((w_iconst t46_12 rfl).trans (w_callV t46_13 rfl rfl rfl rfl (Nat.le_of_ble_eq_true rfl) (Nat.le_of_ble_eq_true rfl) rfl (by decide))))
set_option maxRecDepth 10000 in
theorem b46_16 {d : Nat} {l0 : Option sm_V} {s0 : Int} {Z : Nat → Nat → Int} {Rf : Nat → Nat → Option Nat} {K : Nat → Nat × Nat} {n z : Nat} {Q : Option sm_V → sm_S → Prop} : sm_wp d 46 16 [l0] [.inl s0] (Z, Rf, K, n, z) Q = (Q (some (.inl s0)) (Z, Rf, K, n, z)) := w_iret t46_16
set_option maxRecDepth 10000 in
theorem b46_17 {d : Nat} {r0 : Nat} {Z : Nat → Nat → Int} {Rf : Nat → Nat → Option Nat} {K : Nat → Nat × Nat} {n z : Nat} {Q : Option sm_V → sm_S → Prop} : sm_wp (d + 1) 46 17 [some (.inr (some r0))] [] (Z, Rf, K, n, z) Q = ((K r0).1 = 4 ∧ sm_call d 38 [.inr (some r0), .inl 16] (Z, Rf, K, n, z) (sm_cont (d + 1) 46 23 [some (.inr (some r0))] [] Q)) := (w_aload_n t46_17 rfl rfl).trans ((w_bipush t46_18 rfl).trans (w_callV t46_20 rfl rfl rfl rfl (Nat.le_of_ble_eq_true rfl) (Nat.le_of_ble_eq_true rfl) rfl (by decide)))
set_option maxRecDepth 10000 in
theorem b46_23 {d : Nat} {l0 : Option sm_V} {s0 : Int} {Z : Nat → Nat → Int} {Rf : Nat → Nat → Option Nat} {K : Nat → Nat × Nat} {n z : Nat} {Q : Option sm_V → sm_S → Prop} : sm_wp d 46 23 [l0] [.inl s0] (Z, Rf, K, n, z) Q = (if wr s0 = 0 then sm_wp d 46 34 [l0] [] (Z, Rf, K, n, z) Q else sm_wp d 46 26 [l0] [] (Z, Rf, K, n, z) Q) := w_ifeq t46_23 rfl rfl rfl
set_option maxRecDepth 10000 in
theorem b46_26 {d : Nat} {r0 : Nat} {Z : Nat → Nat → Int} {Rf : Nat → Nat → Option Nat} {K : Nat → Nat × Nat} {n z : Nat} {Q : Option sm_V → sm_S → Prop} : sm_wp (d + 1) 46 26 [some (.inr (some r0))] [] (Z, Rf, K, n, z) Q = ((K r0).1 = 4 ∧ sm_call d 47 [.inr (some r0), .inl 10, .inl 2] (Z, Rf, K, n, z) (sm_cont (d + 1) 46 33 [some (.inr (some r0))] [] Q)) := (w_aload_n t46_26 rfl rfl).trans ((w_bipush t46_27 rfl).trans ((w_iconst t46_29 rfl).trans (w_callV t46_30 rfl rfl rfl rfl (Nat.le_of_ble_eq_true rfl) (Nat.le_of_ble_eq_true rfl) rfl (by decide))))
set_option maxRecDepth 10000 in
theorem b46_33 {d : Nat} {l0 : Option sm_V} {s0 : Int} {Z : Nat → Nat → Int} {Rf : Nat → Nat → Option Nat} {K : Nat → Nat × Nat} {n z : Nat} {Q : Option sm_V → sm_S → Prop} : sm_wp d 46 33 [l0] [.inl s0] (Z, Rf, K, n, z) Q = (Q (some (.inl s0)) (Z, Rf, K, n, z)) := w_iret t46_33
set_option maxRecDepth 10000 in
theorem b46_34 {d : Nat} {r0 : Nat} {Z : Nat → Nat → Int} {Rf : Nat → Nat → Option Nat} {K : Nat → Nat × Nat} {n z : Nat} {Q : Option sm_V → sm_S → Prop} : sm_wp d 46 34 [some (.inr (some r0))] [] (Z, Rf, K, n, z) Q = ((K r0).1 = 4 ∧ (if wr (Z r0 12) = (41 : Int) then sm_wp d 46 43 [some (.inr (some r0))] [] (Z, Rf, K, n, z) Q else sm_wp d 46 93 [some (.inr (some r0))] [] (Z, Rf, K, n, z) Q)) := (w_aload_n t46_34 rfl rfl).trans ((w_getI t46_35 rfl (by decide)).trans (congrArg (And _) ((w_bipush t46_38 rfl).trans (w_icne t46_40 rfl wl_41 rfl rfl))))
set_option maxRecDepth 10000 in
theorem b46_43 {d : Nat} {r0 : Nat} {Z : Nat → Nat → Int} {Rf : Nat → Nat → Option Nat} {K : Nat → Nat × Nat} {n z : Nat} {Q : Option sm_V → sm_S → Prop} : sm_wp d 46 43 [some (.inr (some r0))] [] (Z, Rf, K, n, z) Q = ((K r0).1 = 4 ∧ (if wr (Z r0 10) ≤ 0 then sm_wp d 46 93 [some (.inr (some r0))] [] (Z, Rf, K, n, z) Q else sm_wp d 46 50 [some (.inr (some r0))] [] (Z, Rf, K, n, z) Q)) := (w_aload_n t46_43 rfl rfl).trans ((w_getI t46_44 rfl (by decide)).trans (congrArg (And _) (w_ifle t46_47 rfl rfl rfl)))
set_option maxRecDepth 10000 in
theorem b46_50 {d : Nat} {r0 : Nat} {Z : Nat → Nat → Int} {Rf : Nat → Nat → Option Nat} {K : Nat → Nat × Nat} {n z : Nat} {Q : Option sm_V → sm_S → Prop} : sm_wp (d + 1) 46 50 [some (.inr (some r0))] [] (Z, Rf, K, n, z) Q = ((K r0).1 = 4 ∧ sm_call d 48 [.inr (some r0), .inl 1] (Z, Rf, K, n, z) (sm_cont (d + 1) 46 55 [some (.inr (some r0))] [] Q)) := (w_aload_n t46_50 rfl rfl).trans ((w_iconst t46_51 rfl).trans (w_callV t46_52 rfl rfl rfl rfl (Nat.le_of_ble_eq_true rfl) (Nat.le_of_ble_eq_true rfl) rfl (by decide)))
set_option maxRecDepth 10000 in
theorem b46_55 {d : Nat} {r0 : Nat} {Z : Nat → Nat → Int} {Rf : Nat → Nat → Option Nat} {K : Nat → Nat × Nat} {n z : Nat} {Q : Option sm_V → sm_S → Prop} : sm_wp d 46 55 [some (.inr (some r0))] [] (Z, Rf, K, n, z) Q = ((K r0).1 = 4 ∧ (K r0).1 = 4 ∧ (K r0).1 = 4 ∧ (K r0).1 = 4 ∧ (K r0).1 = 4 ∧ (K r0).1 = 4 ∧ (K r0).1 = 4 ∧ Q (some (.inl 0)) (sm_u (sm_u (sm_u (sm_u Z r0 5 ((Z r0 5) - 1)) r0 10 (((sm_u Z r0 5 ((Z r0 5) - 1)) r0 10) - 1)) r0 9 (((sm_u (sm_u Z r0 5 ((Z r0 5) - 1)) r0 10 (((sm_u Z r0 5 ((Z r0 5) - 1)) r0 10) - 1)) r0 9) - 1)) r0 6 6, Rf, K, n, z)) := (w_aload_n t46_55 rfl rfl).trans ((w_dup t46_56 rfl).trans ((w_getI t46_57 rfl (by decide)).trans (congrArg (And _) ((w_iconst t46_60 rfl).trans ((w_isub t46_61 rfl).trans ((w_putI t46_62 rfl (by decide)).trans (congrArg (And _) ((w_aload_n t46_65 rfl rfl).trans ((w_dup t46_66 rfl).trans ((w_getI t46_67 rfl (by decide)).trans (congrArg (And _) ((w_iconst t46_70 rfl).trans ((w_isub t46_71 rfl).trans ((w_putI t46_72 rfl (by decide)).trans (congrArg (And _) ((w_aload_n t46_75 rfl rfl).trans ((w_dup t46_76 rfl).trans ((w_getI t46_77 rfl (by decide)).trans (congrArg (And _) ((w_iconst t46_80 rfl).trans ((w_isub t46_81 rfl).trans ((w_putI t46_82 rfl (by decide)).trans (congrArg (And _) ((w_aload_n t46_85 rfl rfl).trans ((w_bipush t46_86 rfl).trans ((w_putI t46_88 rfl (by decide)).trans (congrArg (And _) ((w_iconst t46_91 rfl).trans (w_iret t46_92)))))))))))))))))))))))))))))
set_option maxRecDepth 10000 in
theorem b46_93 {d : Nat} {r0 : Nat} {Z : Nat → Nat → Int} {Rf : Nat → Nat → Option Nat} {K : Nat → Nat × Nat} {n z : Nat} {Q : Option sm_V → sm_S → Prop} : sm_wp d 46 93 [some (.inr (some r0))] [] (Z, Rf, K, n, z) Q = ((K r0).1 = 4 ∧ (if wr (Z r0 12) = (59 : Int) then sm_wp d 46 102 [some (.inr (some r0))] [] (Z, Rf, K, n, z) Q else sm_wp d 46 131 [some (.inr (some r0))] [] (Z, Rf, K, n, z) Q)) := (w_aload_n t46_93 rfl rfl).trans ((w_getI t46_94 rfl (by decide)).trans (congrArg (And _) ((w_bipush t46_97 rfl).trans (w_icne t46_99 rfl wl_59 rfl rfl))))
set_option maxRecDepth 10000 in
theorem b46_102 {d : Nat} {r0 : Nat} {Z : Nat → Nat → Int} {Rf : Nat → Nat → Option Nat} {K : Nat → Nat × Nat} {n z : Nat} {Q : Option sm_V → sm_S → Prop} : sm_wp d 46 102 [some (.inr (some r0))] [] (Z, Rf, K, n, z) Q = ((K r0).1 = 4 ∧ (if wr (Z r0 10) = 0 then sm_wp d 46 109 [some (.inr (some r0))] [] (Z, Rf, K, n, z) Q else sm_wp d 46 131 [some (.inr (some r0))] [] (Z, Rf, K, n, z) Q)) := (w_aload_n t46_102 rfl rfl).trans ((w_getI t46_103 rfl (by decide)).trans (congrArg (And _) (w_ifne t46_106 rfl rfl rfl)))
set_option maxRecDepth 10000 in
theorem b46_109 {d : Nat} {r0 : Nat} {Z : Nat → Nat → Int} {Rf : Nat → Nat → Option Nat} {K : Nat → Nat × Nat} {n z : Nat} {Q : Option sm_V → sm_S → Prop} : sm_wp (d + 1) 46 109 [some (.inr (some r0))] [] (Z, Rf, K, n, z) Q = ((K r0).1 = 4 ∧ sm_call d 48 [.inr (some r0), .inl 1] (Z, Rf, K, n, z) (sm_cont (d + 1) 46 114 [some (.inr (some r0))] [] Q)) := (w_aload_n t46_109 rfl rfl).trans ((w_iconst t46_110 rfl).trans (w_callV t46_111 rfl rfl rfl rfl (Nat.le_of_ble_eq_true rfl) (Nat.le_of_ble_eq_true rfl) rfl (by decide)))
set_option maxRecDepth 10000 in
theorem b46_114 {d : Nat} {r0 : Nat} {Z : Nat → Nat → Int} {Rf : Nat → Nat → Option Nat} {K : Nat → Nat × Nat} {n z : Nat} {Q : Option sm_V → sm_S → Prop} : sm_wp (d + 1) 46 114 [some (.inr (some r0))] [] (Z, Rf, K, n, z) Q = ((K r0).1 = 4 ∧ (K r0).1 = 4 ∧ sm_call d 50 [.inr (some r0), .inl 13, .inl (Z r0 8)] (Z, Rf, K, n, z) (sm_cont (d + 1) 46 124 [some (.inr (some r0))] [] Q)) := (w_aload_n t46_114 rfl rfl).trans ((w_bipush t46_115 rfl).trans ((w_aload_n t46_117 rfl rfl).trans ((w_getI t46_118 rfl (by decide)).trans (congrArg (And _) (w_callV t46_121 rfl rfl rfl rfl (Nat.le_of_ble_eq_true rfl) (Nat.le_of_ble_eq_true rfl) rfl (by decide))))))
set_option maxRecDepth 10000 in
theorem b46_124 {d : Nat} {r0 : Nat} {Z : Nat → Nat → Int} {Rf : Nat → Nat → Option Nat} {K : Nat → Nat × Nat} {n z : Nat} {Q : Option sm_V → sm_S → Prop} : sm_wp d 46 124 [some (.inr (some r0))] [] (Z, Rf, K, n, z) Q = ((K r0).1 = 4 ∧ Q (some (.inl 0)) (sm_u Z r0 6 0, Rf, K, n, z)) := (w_aload_n t46_124 rfl rfl).trans ((w_iconst t46_125 rfl).trans ((w_putI t46_126 rfl (by decide)).trans (congrArg (And _) ((w_iconst t46_129 rfl).trans (w_iret t46_130)))))
set_option maxRecDepth 10000 in
theorem b46_131 {d : Nat} {l0 : Option sm_V} {Z : Nat → Nat → Int} {Rf : Nat → Nat → Option Nat} {K : Nat → Nat × Nat} {n z : Nat} {Q : Option sm_V → sm_S → Prop} : sm_wp d 46 131 [l0] [] (Z, Rf, K, n, z) Q = (Q (some (.inl 1)) (Z, Rf, K, n, z)) := (w_iconst t46_131 rfl).trans (w_iret t46_132)
theorem t47_0 : sm_at 47 0 = some (1, .aload_n 0, 0, 0, 0) := rfl
theorem t47_1 : sm_at 47 1 = some (3, .getstatic 147, 1, 1000004, 0) := rfl
theorem t47_4 : sm_at 47 4 = some (1, .iload_n 1, 0, 0, 0) := rfl
theorem t47_5 : sm_at 47 5 = some (1, .iaload, 0, 0, 0) := rfl
theorem t47_6 : sm_at 47 6 = some (3, .invokevirtual 150, 48, 2, 0) := rfl
theorem t47_9 : sm_at 47 9 = some (1, .aload_n 0, 0, 0, 0) := rfl
theorem t47_10 : sm_at 47 10 = some (1, .iload_n 1, 0, 0, 0) := rfl
theorem t47_11 : sm_at 47 11 = some (3, .invokevirtual 140, 49, 2, 0) := rfl
theorem t47_14 : sm_at 47 14 = some (1, .aload_n 0, 0, 0, 0) := rfl
theorem t47_15 : sm_at 47 15 = some (1, .iload_n 2, 0, 0, 0) := rfl
theorem t47_16 : sm_at 47 16 = some (3, .putfield 47, 4, 6, 0) := rfl
theorem t47_19 : sm_at 47 19 = some (1, .iconst 0, 0, 0, 0) := rfl
theorem t47_20 : sm_at 47 20 = some (1, .ireturn, 0, 0, 0) := rfl
set_option maxRecDepth 10000 in
theorem b47_0 {d : Nat} {r0 : Nat} {x1 : Int} {l2 : Option sm_V} {Z : Nat → Nat → Int} {Rf : Nat → Nat → Option Nat} {K : Nat → Nat × Nat} {n z : Nat} {Q : Option sm_V → sm_S → Prop} : sm_wp (d + 1) 47 0 [some (.inr (some r0)), some (.inl x1), l2] [] (Z, Rf, K, n, z) Q = (sm_rd (K 1000004) (wr x1) ∧ (K r0).1 = 4 ∧ sm_call d 48 [.inr (some r0), .inl (Z 1000004 ((wr x1).toNat))] (Z, Rf, K, n, z) (sm_cont (d + 1) 47 9 [some (.inr (some r0)), some (.inl x1), l2] [] Q)) := (w_aload_n t47_0 rfl rfl).trans ((w_gs1 t47_1 rfl).trans ((w_iload_n t47_4 rfl rfl).trans ((w_iald t47_5 rfl rfl).trans (congrArg (And _) (w_callV t47_6 rfl rfl rfl rfl (Nat.le_of_ble_eq_true rfl) (Nat.le_of_ble_eq_true rfl) rfl (by decide))))))
set_option maxRecDepth 10000 in
theorem b47_9 {d : Nat} {r0 : Nat} {x1 : Int} {l2 : Option sm_V} {Z : Nat → Nat → Int} {Rf : Nat → Nat → Option Nat} {K : Nat → Nat × Nat} {n z : Nat} {Q : Option sm_V → sm_S → Prop} : sm_wp (d + 1) 47 9 [some (.inr (some r0)), some (.inl x1), l2] [] (Z, Rf, K, n, z) Q = ((K r0).1 = 4 ∧ sm_call d 49 [.inr (some r0), .inl x1] (Z, Rf, K, n, z) (sm_cont (d + 1) 47 14 [some (.inr (some r0)), some (.inl x1), l2] [] Q)) := (w_aload_n t47_9 rfl rfl).trans ((w_iload_n t47_10 rfl rfl).trans (w_callV t47_11 rfl rfl rfl rfl (Nat.le_of_ble_eq_true rfl) (Nat.le_of_ble_eq_true rfl) rfl (by decide)))
set_option maxRecDepth 10000 in
theorem b47_14 {d : Nat} {r0 : Nat} {l1 : Option sm_V} {x2 : Int} {Z : Nat → Nat → Int} {Rf : Nat → Nat → Option Nat} {K : Nat → Nat × Nat} {n z : Nat} {Q : Option sm_V → sm_S → Prop} : sm_wp d 47 14 [some (.inr (some r0)), l1, some (.inl x2)] [] (Z, Rf, K, n, z) Q = ((K r0).1 = 4 ∧ Q (some (.inl 0)) (sm_u Z r0 6 x2, Rf, K, n, z)) := (w_aload_n t47_14 rfl rfl).trans ((w_iload_n t47_15 rfl rfl).trans ((w_putI t47_16 rfl (by decide)).trans (congrArg (And _) ((w_iconst t47_19 rfl).trans (w_iret t47_20)))))
theorem t48_0 : sm_at 48 0 = some (1, .aload_n 0, 0, 0, 0) := rfl
theorem t48_1 : sm_at 48 1 = some (3, .getfield 89, 4, 5, 0) := rfl
theorem t48_4 : sm_at 48 4 = some (3, .ifCond .le 66, 0, 0, 0) := rfl
theorem t48_7 : sm_at 48 7 = some (3, .getstatic 147, 1, 1000004, 0) := rfl
theorem t48_10 : sm_at 48 10 = some (1, .aload_n 0, 0, 0, 0) := rfl
theorem t48_11 : sm_at 48 11 = some (3, .getfield 15, 4, 4, 0) := rfl
theorem t48_14 : sm_at 48 14 = some (1, .aload_n 0, 0, 0, 0) := rfl
theorem t48_15 : sm_at 48 15 = some (3, .getfield 89, 4, 5, 0) := rfl
theorem t48_18 : sm_at 48 18 = some (1, .iconst 1, 0, 0, 0) := rfl
theorem t48_19 : sm_at 48 19 = some (1, .isub, 0, 0, 0) := rfl
theorem t48_20 : sm_at 48 20 = some (1, .iaload, 0, 0, 0) := rfl
theorem t48_21 : sm_at 48 21 = some (1, .iaload, 0, 0, 0) := rfl
theorem t48_22 : sm_at 48 22 = some (1, .iload_n 1, 0, 0, 0) := rfl
theorem t48_23 : sm_at 48 23 = some (3, .if_icmp .lt 47, 0, 0, 0) := rfl
theorem t48_26 : sm_at 48 26 = some (1, .aload_n 0, 0, 0, 0) := rfl
theorem t48_27 : sm_at 48 27 = some (1, .dup, 0, 0, 0) := rfl
theorem t48_28 : sm_at 48 28 = some (3, .getfield 89, 4, 5, 0) := rfl
theorem t48_31 : sm_at 48 31 = some (1, .iconst 1, 0, 0, 0) := rfl
theorem t48_32 : sm_at 48 32 = some (1, .isub, 0, 0, 0) := rfl
theorem t48_33 : sm_at 48 33 = some (3, .putfield 89, 4, 5, 0) := rfl
theorem t48_36 : sm_at 48 36 = some (1, .aload_n 0, 0, 0, 0) := rfl
theorem t48_37 : sm_at 48 37 = some (3, .getfield 15, 4, 4, 0) := rfl
theorem t48_40 : sm_at 48 40 = some (1, .aload_n 0, 0, 0, 0) := rfl
theorem t48_41 : sm_at 48 41 = some (3, .getfield 89, 4, 5, 0) := rfl
theorem t48_44 : sm_at 48 44 = some (1, .iaload, 0, 0, 0) := rfl
theorem t48_45 : sm_at 48 45 = some (1, .istore_n 2, 0, 0, 0) := rfl
theorem t48_46 : sm_at 48 46 = some (1, .aload_n 0, 0, 0, 0) := rfl
theorem t48_47 : sm_at 48 47 = some (1, .iload_n 2, 0, 0, 0) := rfl
theorem t48_48 : sm_at 48 48 = some (1, .iconst 0, 0, 0, 0) := rfl
theorem t48_49 : sm_at 48 49 = some (3, .invokevirtual 129, 50, 3, 0) := rfl
theorem t48_52 : sm_at 48 52 = some (1, .iload_n 2, 0, 0, 0) := rfl
theorem t48_53 : sm_at 48 53 = some (1, .iconst 3, 0, 0, 0) := rfl
theorem t48_54 : sm_at 48 54 = some (3, .if_icmp .ne 13, 0, 0, 0) := rfl
theorem t48_57 : sm_at 48 57 = some (1, .aload_n 0, 0, 0, 0) := rfl
theorem t48_58 : sm_at 48 58 = some (1, .dup, 0, 0, 0) := rfl
theorem t48_59 : sm_at 48 59 = some (3, .getfield 92, 4, 9, 0) := rfl
theorem t48_62 : sm_at 48 62 = some (1, .iconst 1, 0, 0, 0) := rfl
theorem t48_63 : sm_at 48 63 = some (1, .isub, 0, 0, 0) := rfl
theorem t48_64 : sm_at 48 64 = some (3, .putfield 92, 4, 9, 0) := rfl
theorem t48_67 : sm_at 48 67 = some (3, .goto (-67), 0, 0, 0) := rfl
theorem t48_70 : sm_at 48 70 = some (1, .return_, 0, 0, 0) := rfl
set_option maxRecDepth 10000 in
theorem b48_0 {d : Nat} {r0 : Nat} {l1 : Option sm_V} {l2 : Option sm_V} {Z : Nat → Nat → Int} {Rf : Nat → Nat → Option Nat} {K : Nat → Nat × Nat} {n z : Nat} {Q : Option sm_V → sm_S → Prop} : sm_wp d 48 0 [some (.inr (some r0)), l1, l2] [] (Z, Rf, K, n, z) Q = ((K r0).1 = 4 ∧ (if wr (Z r0 5) ≤ 0 then sm_wp d 48 70 [some (.inr (some r0)), l1, l2] [] (Z, Rf, K, n, z) Q else sm_wp d 48 7 [some (.inr (some r0)), l1, l2] [] (Z, Rf, K, n, z) Q)) := (w_aload_n t48_0 rfl rfl).trans ((w_getI t48_1 rfl (by decide)).trans (congrArg (And _) (w_ifle t48_4 rfl rfl rfl)))
set_option maxRecDepth 10000 in
theorem b48_7 {d : Nat} {r0 : Nat} {x1 : Int} {l2 : Option sm_V} {Z : Nat → Nat → Int} {Rf : Nat → Nat → Option Nat} {K : Nat → Nat × Nat} {n z : Nat} {Q : Option sm_V → sm_S → Prop} : sm_wp d 48 7 [some (.inr (some r0)), some (.inl x1), l2] [] (Z, Rf, K, n, z) Q = ((K r0).1 = 4 ∧ (Rf r0 4).isSome = true ∧ (K r0).1 = 4 ∧ sm_rd (K (((Rf r0 4).getD 0))) (wr ((Z r0 5) - 1)) ∧ sm_rd (K 1000004) (wr (Z (((Rf r0 4).getD 0)) ((wr ((Z r0 5) - 1)).toNat))) ∧ (if wr (Z 1000004 ((wr (Z (((Rf r0 4).getD 0)) ((wr ((Z r0 5) - 1)).toNat))).toNat)) < wr x1 then sm_wp d 48 70 [some (.inr (some r0)), some (.inl x1), l2] [] (Z, Rf, K, n, z) Q else sm_wp d 48 26 [some (.inr (some r0)), some (.inl x1), l2] [] (Z, Rf, K, n, z) Q)) := (w_gs1 t48_7 rfl).trans ((w_aload_n t48_10 rfl rfl).trans ((w_getR t48_11 rfl (by decide)).trans (congrArg (And _) (congrArg (And _) ((w_aload_n t48_14 rfl rfl).trans ((w_getI t48_15 rfl (by decide)).trans (congrArg (And _) ((w_iconst t48_18 rfl).trans ((w_isub t48_19 rfl).trans ((w_iald t48_20 rfl rfl).trans (congrArg (And _) ((w_iald t48_21 rfl rfl).trans (congrArg (And _) ((w_iload_n t48_22 rfl rfl).trans (w_iclt t48_23 rfl rfl rfl rfl)))))))))))))))
set_option maxRecDepth 10000 in
theorem b48_26 {d : Nat} {r0 : Nat} {l1 : Option sm_V} {l2 : Option sm_V} {Z : Nat → Nat → Int} {Rf : Nat → Nat → Option Nat} {K : Nat → Nat × Nat} {n z : Nat} {Q : Option sm_V → sm_S → Prop} : sm_wp (d + 1) 48 26 [some (.inr (some r0)), l1, l2] [] (Z, Rf, K, n, z) Q = ((K r0).1 = 4 ∧ (K r0).1 = 4 ∧ (K r0).1 = 4 ∧ (Rf r0 4).isSome = true ∧ (K r0).1 = 4 ∧ sm_rd (K (((Rf r0 4).getD 0))) (wr ((sm_u Z r0 5 ((Z r0 5) - 1)) r0 5)) ∧ (K r0).1 = 4 ∧ sm_call d 50 [.inr (some r0), .inl ((sm_u Z r0 5 ((Z r0 5) - 1)) (((Rf r0 4).getD 0)) ((wr ((sm_u Z r0 5 ((Z r0 5) - 1)) r0 5)).toNat)), .inl 0] (sm_u Z r0 5 ((Z r0 5) - 1), Rf, K, n, z) (sm_cont (d + 1) 48 52 [some (.inr (some r0)), l1, some (.inl ((sm_u Z r0 5 ((Z r0 5) - 1)) (((Rf r0 4).getD 0)) ((wr ((sm_u Z r0 5 ((Z r0 5) - 1)) r0 5)).toNat)))] [] Q)) := (w_aload_n t48_26 rfl rfl).trans ((w_dup t48_27 rfl).trans ((w_getI t48_28 rfl (by decide)).trans (congrArg (And _) ((w_iconst t48_31 rfl).trans ((w_isub t48_32 rfl).trans ((w_putI t48_33 rfl (by decide)).trans (congrArg (And _) ((w_aload_n t48_36 rfl rfl).trans ((w_getR t48_37 rfl (by decide)).trans (congrArg (And _) (congrArg (And _) ((w_aload_n t48_40 rfl rfl).trans ((w_getI t48_41 rfl (by decide)).trans (congrArg (And _) ((w_iald t48_44 rfl rfl).trans (congrArg (And _) ((w_istore_n t48_45 rfl (Nat.le_of_ble_eq_true rfl) rfl).trans ((w_aload_n t48_46 rfl rfl).trans ((w_iload_n t48_47 rfl rfl).trans ((w_iconst t48_48 rfl).trans (w_callV t48_49 rfl rfl rfl rfl (Nat.le_of_ble_eq_true rfl) (Nat.le_of_ble_eq_true rfl) rfl (by decide))))))))))))))))))))))
set_option maxRecDepth 10000 in
theorem b48_52 {d : Nat} {l0 : Option sm_V} {l1 : Option sm_V} {x2 : Int} {Z : Nat → Nat → Int} {Rf : Nat → Nat → Option Nat} {K : Nat → Nat × Nat} {n z : Nat} {Q : Option sm_V → sm_S → Prop} : sm_wp d 48 52 [l0, l1, some (.inl x2)] [] (Z, Rf, K, n, z) Q = (if wr x2 = (3 : Int) then sm_wp d 48 57 [l0, l1, some (.inl x2)] [] (Z, Rf, K, n, z) Q else sm_wp d 48 67 [l0, l1, some (.inl x2)] [] (Z, Rf, K, n, z) Q) := (w_iload_n t48_52 rfl rfl).trans ((w_iconst t48_53 rfl).trans (w_icne t48_54 rfl wl_3 rfl rfl))
set_option maxRecDepth 10000 in
theorem b48_57 {d : Nat} {r0 : Nat} {l1 : Option sm_V} {l2 : Option sm_V} {Z : Nat → Nat → Int} {Rf : Nat → Nat → Option Nat} {K : Nat → Nat × Nat} {n z : Nat} {Q : Option sm_V → sm_S → Prop} : sm_wp d 48 57 [some (.inr (some r0)), l1, l2] [] (Z, Rf, K, n, z) Q = ((K r0).1 = 4 ∧ (K r0).1 = 4 ∧ sm_wp d 48 67 [some (.inr (some r0)), l1, l2] [] (sm_u Z r0 9 ((Z r0 9) - 1), Rf, K, n, z) Q) := (w_aload_n t48_57 rfl rfl).trans ((w_dup t48_58 rfl).trans ((w_getI t48_59 rfl (by decide)).trans (congrArg (And _) ((w_iconst t48_62 rfl).trans ((w_isub t48_63 rfl).trans ((w_putI t48_64 rfl (by decide)).trans (congrArg (And _) rfl)))))))
set_option maxRecDepth 10000 in
theorem b48_67 {d : Nat} {l0 : Option sm_V} {l1 : Option sm_V} {l2 : Option sm_V} {Z : Nat → Nat → Int} {Rf : Nat → Nat → Option Nat} {K : Nat → Nat × Nat} {n z : Nat} {Q : Option sm_V → sm_S → Prop} : sm_wp d 48 67 [l0, l1, l2] [] (Z, Rf, K, n, z) Q = (sm_wp d 48 0 [l0, l1, l2] [] (Z, Rf, K, n, z) Q) := w_goto t48_67 rfl
set_option maxRecDepth 10000 in
theorem b48_70 {d : Nat} {l0 : Option sm_V} {l1 : Option sm_V} {l2 : Option sm_V} {Z : Nat → Nat → Int} {Rf : Nat → Nat → Option Nat} {K : Nat → Nat × Nat} {n z : Nat} {Q : Option sm_V → sm_S → Prop} : sm_wp d 48 70 [l0, l1, l2] [] (Z, Rf, K, n, z) Q = (Q none (Z, Rf, K, n, z)) := w_vret t48_70
theorem t49_0 : sm_at 49 0 = some (1, .aload_n 0, 0, 0, 0) := rfl
theorem t49_1 : sm_at 49 1 = some (3, .getfield 89, 4, 5, 0) := rfl
theorem t49_4 : sm_at 49 4 = some (2, .bipush 40, 0, 0, 0) := rfl
theorem t49_6 : sm_at 49 6 = some (3, .if_icmp .ge 23, 0, 0, 0) := rfl
theorem t49_9 : sm_at 49 9 = some (1, .aload_n 0, 0, 0, 0) := rfl
theorem t49_10 : sm_at 49 10 = some (3, .getfield 15, 4, 4, 0) := rfl
theorem t49_13 : sm_at 49 13 = some (1, .aload_n 0, 0, 0, 0) := rfl
theorem t49_14 : sm_at 49 14 = some (3, .getfield 89, 4, 5, 0) := rfl
theorem t49_17 : sm_at 49 17 = some (1, .iload_n 1, 0, 0, 0) := rfl
theorem t49_18 : sm_at 49 18 = some (1, .iastore, 0, 0, 0) := rfl
theorem t49_19 : sm_at 49 19 = some (1, .aload_n 0, 0, 0, 0) := rfl
theorem t49_20 : sm_at 49 20 = some (1, .dup, 0, 0, 0) := rfl
theorem t49_21 : sm_at 49 21 = some (3, .getfield 89, 4, 5, 0) := rfl
theorem t49_24 : sm_at 49 24 = some (1, .iconst 1, 0, 0, 0) := rfl
theorem t49_25 : sm_at 49 25 = some (1, .iadd, 0, 0, 0) := rfl
theorem t49_26 : sm_at 49 26 = some (3, .putfield 89, 4, 5, 0) := rfl
theorem t49_29 : sm_at 49 29 = some (1, .return_, 0, 0, 0) := rfl
set_option maxRecDepth 10000 in
theorem b49_0 {d : Nat} {r0 : Nat} {l1 : Option sm_V} {Z : Nat → Nat → Int} {Rf : Nat → Nat → Option Nat} {K : Nat → Nat × Nat} {n z : Nat} {Q : Option sm_V → sm_S → Prop} : sm_wp d 49 0 [some (.inr (some r0)), l1] [] (Z, Rf, K, n, z) Q = ((K r0).1 = 4 ∧ (if (40 : Int) ≤ wr (Z r0 5) then sm_wp d 49 29 [some (.inr (some r0)), l1] [] (Z, Rf, K, n, z) Q else sm_wp d 49 9 [some (.inr (some r0)), l1] [] (Z, Rf, K, n, z) Q)) := (w_aload_n t49_0 rfl rfl).trans ((w_getI t49_1 rfl (by decide)).trans (congrArg (And _) ((w_bipush t49_4 rfl).trans (w_icge t49_6 rfl wl_40 rfl rfl))))
set_option maxRecDepth 10000 in
theorem b49_9 {d : Nat} {r0 : Nat} {x1 : Int} {Z : Nat → Nat → Int} {Rf : Nat → Nat → Option Nat} {K : Nat → Nat × Nat} {n z : Nat} {Q : Option sm_V → sm_S → Prop} : sm_wp d 49 9 [some (.inr (some r0)), some (.inl x1)] [] (Z, Rf, K, n, z) Q = ((K r0).1 = 4 ∧ (Rf r0 4).isSome = true ∧ (K r0).1 = 4 ∧ sm_wt (K (((Rf r0 4).getD 0))) (wr (Z r0 5)) ∧ (K r0).1 = 4 ∧ (K r0).1 = 4 ∧ sm_wp d 49 29 [some (.inr (some r0)), some (.inl x1)] [] (sm_u (sm_u Z (((Rf r0 4).getD 0)) ((wr (Z r0 5)).toNat) x1) r0 5 (((sm_u Z (((Rf r0 4).getD 0)) ((wr (Z r0 5)).toNat) x1) r0 5) + 1), Rf, K, n, z) Q) := (w_aload_n t49_9 rfl rfl).trans ((w_getR t49_10 rfl (by decide)).trans (congrArg (And _) (congrArg (And _) ((w_aload_n t49_13 rfl rfl).trans ((w_getI t49_14 rfl (by decide)).trans (congrArg (And _) ((w_iload_n t49_17 rfl rfl).trans ((w_iast t49_18 rfl rfl).trans (congrArg (And _) ((w_aload_n t49_19 rfl rfl).trans ((w_dup t49_20 rfl).trans ((w_getI t49_21 rfl (by decide)).trans (congrArg (And _) ((w_iconst t49_24 rfl).trans ((w_iadd t49_25 rfl).trans ((w_putI t49_26 rfl (by decide)).trans (congrArg (And _) rfl)))))))))))))))))
set_option maxRecDepth 10000 in
theorem b49_29 {d : Nat} {l0 : Option sm_V} {l1 : Option sm_V} {Z : Nat → Nat → Int} {Rf : Nat → Nat → Option Nat} {K : Nat → Nat × Nat} {n z : Nat} {Q : Option sm_V → sm_S → Prop} : sm_wp d 49 29 [l0, l1] [] (Z, Rf, K, n, z) Q = (Q none (Z, Rf, K, n, z)) := w_vret t49_29
theorem t50_0 : sm_at 50 0 = some (1, .aload_n 0, 0, 0, 0) := rfl
theorem t50_1 : sm_at 50 1 = some (3, .getfield 55, 4, 3, 0) := rfl
theorem t50_4 : sm_at 50 4 = some (1, .aload_n 0, 0, 0, 0) := rfl
theorem t50_5 : sm_at 50 5 = some (3, .getfield 9, 4, 2, 0) := rfl
theorem t50_8 : sm_at 50 8 = some (1, .arraylength, 0, 0, 0) := rfl
theorem t50_9 : sm_at 50 9 = some (3, .if_icmp .ge 27, 0, 0, 0) := rfl
theorem t50_12 : sm_at 50 12 = some (1, .aload_n 0, 0, 0, 0) := rfl
theorem t50_13 : sm_at 50 13 = some (3, .getfield 9, 4, 2, 0) := rfl
theorem t50_16 : sm_at 50 16 = some (1, .aload_n 0, 0, 0, 0) := rfl
theorem t50_17 : sm_at 50 17 = some (3, .getfield 55, 4, 3, 0) := rfl
theorem t50_20 : sm_at 50 20 = some (1, .iload_n 2, 0, 0, 0) := rfl
theorem t50_21 : sm_at 50 21 = some (1, .iconst 4, 0, 0, 0) := rfl
theorem t50_22 : sm_at 50 22 = some (1, .ishl, 0, 0, 0) := rfl
theorem t50_23 : sm_at 50 23 = some (1, .iload_n 1, 0, 0, 0) := rfl
theorem t50_24 : sm_at 50 24 = some (1, .ior, 0, 0, 0) := rfl
theorem t50_25 : sm_at 50 25 = some (1, .iastore, 0, 0, 0) := rfl
theorem t50_26 : sm_at 50 26 = some (1, .aload_n 0, 0, 0, 0) := rfl
theorem t50_27 : sm_at 50 27 = some (1, .dup, 0, 0, 0) := rfl
theorem t50_28 : sm_at 50 28 = some (3, .getfield 55, 4, 3, 0) := rfl
theorem t50_31 : sm_at 50 31 = some (1, .iconst 1, 0, 0, 0) := rfl
theorem t50_32 : sm_at 50 32 = some (1, .iadd, 0, 0, 0) := rfl
theorem t50_33 : sm_at 50 33 = some (3, .putfield 55, 4, 3, 0) := rfl
theorem t50_36 : sm_at 50 36 = some (1, .return_, 0, 0, 0) := rfl
set_option maxRecDepth 10000 in
theorem b50_0 {d : Nat} {r0 : Nat} {l1 : Option sm_V} {l2 : Option sm_V} {Z : Nat → Nat → Int} {Rf : Nat → Nat → Option Nat} {K : Nat → Nat × Nat} {n z : Nat} {Q : Option sm_V → sm_S → Prop} : sm_wp d 50 0 [some (.inr (some r0)), l1, l2] [] (Z, Rf, K, n, z) Q = ((K r0).1 = 4 ∧ (K r0).1 = 4 ∧ (Rf r0 2).isSome = true ∧ ((K (((Rf r0 2).getD 0))).1 = 100 ∨ (K (((Rf r0 2).getD 0))).1 = 101 ∨ (K (((Rf r0 2).getD 0))).1 = 102 ∨ (K (((Rf r0 2).getD 0))).1 = 104) ∧ (if wr (((K (((Rf r0 2).getD 0))).2 : Int)) ≤ wr (Z r0 3) then sm_wp d 50 36 [some (.inr (some r0)), l1, l2] [] (Z, Rf, K, n, z) Q else sm_wp d 50 12 [some (.inr (some r0)), l1, l2] [] (Z, Rf, K, n, z) Q)) := (w_aload_n t50_0 rfl rfl).trans ((w_getI t50_1 rfl (by decide)).trans (congrArg (And _) ((w_aload_n t50_4 rfl rfl).trans ((w_getR t50_5 rfl (by decide)).trans (congrArg (And _) (congrArg (And _) ((w_alen t50_8 rfl).trans (congrArg (And _) (w_icge t50_9 rfl rfl rfl rfl)))))))))
set_option maxRecDepth 10000 in
theorem b50_12 {d : Nat} {r0 : Nat} {x1 : Int} {x2 : Int} {Z : Nat → Nat → Int} {Rf : Nat → Nat → Option Nat} {K : Nat → Nat × Nat} {n z : Nat} {Q : Option sm_V → sm_S → Prop} : sm_wp d 50 12 [some (.inr (some r0)), some (.inl x1), some (.inl x2)] [] (Z, Rf, K, n, z) Q = ((K r0).1 = 4 ∧ (Rf r0 2).isSome = true ∧ (K r0).1 = 4 ∧ sm_wt (K (((Rf r0 2).getD 0))) (wr (Z r0 3)) ∧ (K r0).1 = 4 ∧ (K r0).1 = 4 ∧ sm_wp d 50 36 [some (.inr (some r0)), some (.inl x1), some (.inl x2)] [] (sm_u (sm_u Z (((Rf r0 2).getD 0)) ((wr (Z r0 3)).toNat) (sm_or (sm_shl x2 4) x1)) r0 3 (((sm_u Z (((Rf r0 2).getD 0)) ((wr (Z r0 3)).toNat) (sm_or (sm_shl x2 4) x1)) r0 3) + 1), Rf, K, n, z) Q) := (w_aload_n t50_12 rfl rfl).trans ((w_getR t50_13 rfl (by decide)).trans (congrArg (And _) (congrArg (And _) ((w_aload_n t50_16 rfl rfl).trans ((w_getI t50_17 rfl (by decide)).trans (congrArg (And _) ((w_iload_n t50_20 rfl rfl).trans ((w_iconst t50_21 rfl).trans ((w_ishl t50_22 rfl).trans ((w_iload_n t50_23 rfl rfl).trans ((w_ior t50_24 rfl).trans ((w_iast t50_25 rfl rfl).trans (congrArg (And _) ((w_aload_n t50_26 rfl rfl).trans ((w_dup t50_27 rfl).trans ((w_getI t50_28 rfl (by decide)).trans (congrArg (And _) ((w_iconst t50_31 rfl).trans ((w_iadd t50_32 rfl).trans ((w_putI t50_33 rfl (by decide)).trans (congrArg (And _) rfl)))))))))))))))))))))
set_option maxRecDepth 10000 in
theorem b50_36 {d : Nat} {l0 : Option sm_V} {l1 : Option sm_V} {l2 : Option sm_V} {Z : Nat → Nat → Int} {Rf : Nat → Nat → Option Nat} {K : Nat → Nat × Nat} {n z : Nat} {Q : Option sm_V → sm_S → Prop} : sm_wp d 50 36 [l0, l1, l2] [] (Z, Rf, K, n, z) Q = (Q none (Z, Rf, K, n, z)) := w_vret t50_36
theorem t51_0 : sm_at 51 0 = some (1, .aload_n 0, 0, 0, 0) := rfl
theorem t51_1 : sm_at 51 1 = some (3, .invokespecial 3, 1001, 1, 0) := rfl
theorem t51_4 : sm_at 51 4 = some (1, .aload_n 0, 0, 0, 0) := rfl
theorem t51_5 : sm_at 51 5 = some (1, .iload_n 1, 0, 0, 0) := rfl
theorem t51_6 : sm_at 51 6 = some (1, .iconst 0, 0, 0, 0) := rfl
theorem t51_7 : sm_at 51 7 = some (3, .invokestatic 9, 1005, 2, 0) := rfl
theorem t51_10 : sm_at 51 10 = some (3, .putfield 15, 5, 0, 0) := rfl
theorem t51_13 : sm_at 51 13 = some (1, .aload_n 0, 0, 0, 0) := rfl
theorem t51_14 : sm_at 51 14 = some (1, .aload_n 0, 0, 0, 0) := rfl
theorem t51_15 : sm_at 51 15 = some (3, .getfield 15, 5, 0, 0) := rfl
theorem t51_18 : sm_at 51 18 = some (1, .iconst 5, 0, 0, 0) := rfl
theorem t51_19 : sm_at 51 19 = some (1, .imul, 0, 0, 0) := rfl
theorem t51_20 : sm_at 51 20 = some (2, .newarray .int, 0, 0, 0) := rfl
theorem t51_22 : sm_at 51 22 = some (3, .putfield 21, 5, 1, 0) := rfl
theorem t51_25 : sm_at 51 25 = some (1, .return_, 0, 0, 0) := rfl
set_option maxRecDepth 10000 in
theorem b51_0 {d : Nat} {r0 : Nat} {x1 : Int} {Z : Nat → Nat → Int} {Rf : Nat → Nat → Option Nat} {K : Nat → Nat × Nat} {n z : Nat} {Q : Option sm_V → sm_S → Prop} : sm_wp d 51 0 [some (.inr (some r0)), some (.inl x1)] [] (Z, Rf, K, n, z) Q = ((K r0).1 = 5 ∧ (K r0).1 = 5 ∧ (n < 1000000 ∧ 0 ≤ wr (((sm_u Z r0 0 (if wr x1 < (0 : Int) then 0 else x1)) r0 0) * 5) ∧ wr (((sm_u Z r0 0 (if wr x1 < (0 : Int) then 0 else x1)) r0 0) * 5) ≤ 65536) ∧ ((sm_k K n (100, (wr (((sm_u Z r0 0 (if wr x1 < (0 : Int) then 0 else x1)) r0 0) * 5)).toNat)) r0).1 = 5 ∧ Q none (sm_r (sm_u Z r0 0 (if wr x1 < (0 : Int) then 0 else x1)) n (fun _ => 0), sm_u (sm_r Rf n (fun _ => none)) r0 1 (some n), sm_k K n (100, (wr (((sm_u Z r0 0 (if wr x1 < (0 : Int) then 0 else x1)) r0 0) * 5)).toNat), n + 1, z + (wr (((sm_u Z r0 0 (if wr x1 < (0 : Int) then 0 else x1)) r0 0) * 5)).toNat)) := (w_aload_n t51_0 rfl rfl).trans ((w_oinit t51_1 rfl (Nat.le_of_ble_eq_true rfl)).trans ((w_aload_n t51_4 rfl rfl).trans ((w_iload_n t51_5 rfl rfl).trans ((w_iconst t51_6 rfl).trans ((w_max t51_7 rfl (Nat.le_of_ble_eq_true rfl) rfl wl_0).trans ((w_putI t51_10 rfl (by decide)).trans (congrArg (And _) ((w_aload_n t51_13 rfl rfl).trans ((w_aload_n t51_14 rfl rfl).trans ((w_getI t51_15 rfl (by decide)).trans (congrArg (And _) ((w_iconst t51_18 rfl).trans ((w_imul t51_19 rfl).trans ((w_newa t51_20 rfl rfl).trans (congrArg (And _) ((w_putR t51_22 rfl (by decide)).trans (congrArg (And _) (w_vret t51_25))))))))))))))))))
theorem t52_0 : sm_at 52 0 = some (1, .aload_n 0, 0, 0, 0) := rfl
theorem t52_1 : sm_at 52 1 = some (3, .getfield 25, 5, 2, 0) := rfl
theorem t52_4 : sm_at 52 4 = some (1, .aload_n 0, 0, 0, 0) := rfl
theorem t52_5 : sm_at 52 5 = some (3, .getfield 15, 5, 0, 0) := rfl
theorem t52_8 : sm_at 52 8 = some (3, .if_icmp .lt 5, 0, 0, 0) := rfl
theorem t52_11 : sm_at 52 11 = some (1, .iconst (-1), 0, 0, 0) := rfl
theorem t52_12 : sm_at 52 12 = some (1, .ireturn, 0, 0, 0) := rfl
theorem t52_13 : sm_at 52 13 = some (1, .aload_n 0, 0, 0, 0) := rfl
theorem t52_14 : sm_at 52 14 = some (3, .getfield 25, 5, 2, 0) := rfl
theorem t52_17 : sm_at 52 17 = some (1, .iconst 5, 0, 0, 0) := rfl
theorem t52_18 : sm_at 52 18 = some (1, .imul, 0, 0, 0) := rfl
theorem t52_19 : sm_at 52 19 = some (2, .istore 6, 0, 0, 0) := rfl
theorem t52_21 : sm_at 52 21 = some (1, .aload_n 0, 0, 0, 0) := rfl
theorem t52_22 : sm_at 52 22 = some (3, .getfield 21, 5, 1, 0) := rfl
theorem t52_25 : sm_at 52 25 = some (2, .iload 6, 0, 0, 0) := rfl
theorem t52_27 : sm_at 52 27 = some (1, .iload_n 1, 0, 0, 0) := rfl
theorem t52_28 : sm_at 52 28 = some (1, .iastore, 0, 0, 0) := rfl
theorem t52_29 : sm_at 52 29 = some (1, .aload_n 0, 0, 0, 0) := rfl
theorem t52_30 : sm_at 52 30 = some (3, .getfield 21, 5, 1, 0) := rfl
theorem t52_33 : sm_at 52 33 = some (2, .iload 6, 0, 0, 0) := rfl
theorem t52_35 : sm_at 52 35 = some (1, .iconst 1, 0, 0, 0) := rfl
theorem t52_36 : sm_at 52 36 = some (1, .iadd, 0, 0, 0) := rfl
theorem t52_37 : sm_at 52 37 = some (1, .iload_n 2, 0, 0, 0) := rfl
theorem t52_38 : sm_at 52 38 = some (1, .iastore, 0, 0, 0) := rfl
theorem t52_39 : sm_at 52 39 = some (1, .aload_n 0, 0, 0, 0) := rfl
theorem t52_40 : sm_at 52 40 = some (3, .getfield 21, 5, 1, 0) := rfl
theorem t52_43 : sm_at 52 43 = some (2, .iload 6, 0, 0, 0) := rfl
theorem t52_45 : sm_at 52 45 = some (1, .iconst 2, 0, 0, 0) := rfl
theorem t52_46 : sm_at 52 46 = some (1, .iadd, 0, 0, 0) := rfl
theorem t52_47 : sm_at 52 47 = some (1, .iload_n 3, 0, 0, 0) := rfl
theorem t52_48 : sm_at 52 48 = some (1, .iastore, 0, 0, 0) := rfl
theorem t52_49 : sm_at 52 49 = some (1, .aload_n 0, 0, 0, 0) := rfl
theorem t52_50 : sm_at 52 50 = some (3, .getfield 21, 5, 1, 0) := rfl
theorem t52_53 : sm_at 52 53 = some (2, .iload 6, 0, 0, 0) := rfl
theorem t52_55 : sm_at 52 55 = some (1, .iconst 3, 0, 0, 0) := rfl
theorem t52_56 : sm_at 52 56 = some (1, .iadd, 0, 0, 0) := rfl
theorem t52_57 : sm_at 52 57 = some (2, .iload 4, 0, 0, 0) := rfl
theorem t52_59 : sm_at 52 59 = some (1, .iastore, 0, 0, 0) := rfl
theorem t52_60 : sm_at 52 60 = some (1, .aload_n 0, 0, 0, 0) := rfl
theorem t52_61 : sm_at 52 61 = some (3, .getfield 21, 5, 1, 0) := rfl
theorem t52_64 : sm_at 52 64 = some (2, .iload 6, 0, 0, 0) := rfl
theorem t52_66 : sm_at 52 66 = some (1, .iconst 4, 0, 0, 0) := rfl
theorem t52_67 : sm_at 52 67 = some (1, .iadd, 0, 0, 0) := rfl
theorem t52_68 : sm_at 52 68 = some (2, .iload 5, 0, 0, 0) := rfl
theorem t52_70 : sm_at 52 70 = some (1, .iastore, 0, 0, 0) := rfl
theorem t52_71 : sm_at 52 71 = some (1, .aload_n 0, 0, 0, 0) := rfl
theorem t52_72 : sm_at 52 72 = some (1, .dup, 0, 0, 0) := rfl
theorem t52_73 : sm_at 52 73 = some (3, .getfield 25, 5, 2, 0) := rfl
theorem t52_76 : sm_at 52 76 = some (1, .iconst 1, 0, 0, 0) := rfl
theorem t52_77 : sm_at 52 77 = some (1, .iadd, 0, 0, 0) := rfl
theorem t52_78 : sm_at 52 78 = some (3, .putfield 25, 5, 2, 0) := rfl
theorem t52_81 : sm_at 52 81 = some (1, .aload_n 0, 0, 0, 0) := rfl
theorem t52_82 : sm_at 52 82 = some (3, .getfield 25, 5, 2, 0) := rfl
theorem t52_85 : sm_at 52 85 = some (1, .iconst 1, 0, 0, 0) := rfl
theorem t52_86 : sm_at 52 86 = some (1, .isub, 0, 0, 0) := rfl
theorem t52_87 : sm_at 52 87 = some (1, .ireturn, 0, 0, 0) := rfl
set_option maxRecDepth 10000 in
theorem b52_0 {d : Nat} {r0 : Nat} {l1 : Option sm_V} {l2 : Option sm_V} {l3 : Option sm_V} {l4 : Option sm_V} {l5 : Option sm_V} {l6 : Option sm_V} {Z : Nat → Nat → Int} {Rf : Nat → Nat → Option Nat} {K : Nat → Nat × Nat} {n z : Nat} {Q : Option sm_V → sm_S → Prop} : sm_wp d 52 0 [some (.inr (some r0)), l1, l2, l3, l4, l5, l6] [] (Z, Rf, K, n, z) Q = ((K r0).1 = 5 ∧ (K r0).1 = 5 ∧ (if wr (Z r0 2) < wr (Z r0 0) then sm_wp d 52 13 [some (.inr (some r0)), l1, l2, l3, l4, l5, l6] [] (Z, Rf, K, n, z) Q else sm_wp d 52 11 [some (.inr (some r0)), l1, l2, l3, l4, l5, l6] [] (Z, Rf, K, n, z) Q)) := (w_aload_n t52_0 rfl rfl).trans ((w_getI t52_1 rfl (by decide)).trans (congrArg (And _) ((w_aload_n t52_4 rfl rfl).trans ((w_getI t52_5 rfl (by decide)).trans (congrArg (And _) (w_iclt t52_8 rfl rfl rfl rfl))))))
set_option maxRecDepth 10000 in
theorem b52_11 {d : Nat} {l0 : Option sm_V} {l1 : Option sm_V} {l2 : Option sm_V} {l3 : Option sm_V} {l4 : Option sm_V} {l5 : Option sm_V} {l6 : Option sm_V} {Z : Nat → Nat → Int} {Rf : Nat → Nat → Option Nat} {K : Nat → Nat × Nat} {n z : Nat} {Q : Option sm_V → sm_S → Prop} : sm_wp d 52 11 [l0, l1, l2, l3, l4, l5, l6] [] (Z, Rf, K, n, z) Q = (Q (some (.inl ((-1)))) (Z, Rf, K, n, z)) := (w_iconst t52_11 rfl).trans (w_iret t52_12)
set_option maxRecDepth 10000 in
theorem b52_13 {d : Nat} {r0 : Nat} {x1 : Int} {x2 : Int} {x3 : Int} {x4 : Int} {x5 : Int} {l6 : Option sm_V} {Z : Nat → Nat → Int} {Rf : Nat → Nat → Option Nat} {K : Nat → Nat × Nat} {n z : Nat} {Q : Option sm_V → sm_S → Prop} : sm_wp d 52 13 [some (.inr (some r0)), some (.inl x1), some (.inl x2), some (.inl x3), some (.inl x4), some (.inl x5), l6] [] (Z, Rf, K, n, z) Q = ((K r0).1 = 5 ∧ (K r0).1 = 5 ∧ (Rf r0 1).isSome = true ∧ sm_wt (K (((Rf r0 1).getD 0))) (wr ((Z r0 2) * 5)) ∧ (K r0).1 = 5 ∧ (Rf r0 1).isSome = true ∧ sm_wt (K (((Rf r0 1).getD 0))) (wr (((Z r0 2) * 5) + 1)) ∧ (K r0).1 = 5 ∧ (Rf r0 1).isSome = true ∧ sm_wt (K (((Rf r0 1).getD 0))) (wr (((Z r0 2) * 5) + 2)) ∧ (K r0).1 = 5 ∧ (Rf r0 1).isSome = true ∧ sm_wt (K (((Rf r0 1).getD 0))) (wr (((Z r0 2) * 5) + 3)) ∧ (K r0).1 = 5 ∧ (Rf r0 1).isSome = true ∧ sm_wt (K (((Rf r0 1).getD 0))) (wr (((Z r0 2) * 5) + 4)) ∧ (K r0).1 = 5 ∧ (K r0).1 = 5 ∧ (K r0).1 = 5 ∧ Q (some (.inl (((sm_u (sm_u (sm_u (sm_u (sm_u (sm_u Z (((Rf r0 1).getD 0)) ((wr ((Z r0 2) * 5)).toNat) x1) (((Rf r0 1).getD 0)) ((wr (((Z r0 2) * 5) + 1)).toNat) x2) (((Rf r0 1).getD 0)) ((wr (((Z r0 2) * 5) + 2)).toNat) x3) (((Rf r0 1).getD 0)) ((wr (((Z r0 2) * 5) + 3)).toNat) x4) (((Rf r0 1).getD 0)) ((wr (((Z r0 2) * 5) + 4)).toNat) x5) r0 2 (((sm_u (sm_u (sm_u (sm_u (sm_u Z (((Rf r0 1).getD 0)) ((wr ((Z r0 2) * 5)).toNat) x1) (((Rf r0 1).getD 0)) ((wr (((Z r0 2) * 5) + 1)).toNat) x2) (((Rf r0 1).getD 0)) ((wr (((Z r0 2) * 5) + 2)).toNat) x3) (((Rf r0 1).getD 0)) ((wr (((Z r0 2) * 5) + 3)).toNat) x4) (((Rf r0 1).getD 0)) ((wr (((Z r0 2) * 5) + 4)).toNat) x5) r0 2) + 1)) r0 2) - 1))) (sm_u (sm_u (sm_u (sm_u (sm_u (sm_u Z (((Rf r0 1).getD 0)) ((wr ((Z r0 2) * 5)).toNat) x1) (((Rf r0 1).getD 0)) ((wr (((Z r0 2) * 5) + 1)).toNat) x2) (((Rf r0 1).getD 0)) ((wr (((Z r0 2) * 5) + 2)).toNat) x3) (((Rf r0 1).getD 0)) ((wr (((Z r0 2) * 5) + 3)).toNat) x4) (((Rf r0 1).getD 0)) ((wr (((Z r0 2) * 5) + 4)).toNat) x5) r0 2 (((sm_u (sm_u (sm_u (sm_u (sm_u Z (((Rf r0 1).getD 0)) ((wr ((Z r0 2) * 5)).toNat) x1) (((Rf r0 1).getD 0)) ((wr (((Z r0 2) * 5) + 1)).toNat) x2) (((Rf r0 1).getD 0)) ((wr (((Z r0 2) * 5) + 2)).toNat) x3) (((Rf r0 1).getD 0)) ((wr (((Z r0 2) * 5) + 3)).toNat) x4) (((Rf r0 1).getD 0)) ((wr (((Z r0 2) * 5) + 4)).toNat) x5) r0 2) + 1), Rf, K, n, z)) := (w_aload_n t52_13 rfl rfl).trans ((w_getI t52_14 rfl (by decide)).trans (congrArg (And _) ((w_iconst t52_17 rfl).trans ((w_imul t52_18 rfl).trans ((w_istore t52_19 rfl (Nat.le_of_ble_eq_true rfl) rfl).trans ((w_aload_n t52_21 rfl rfl).trans ((w_getR t52_22 rfl (by decide)).trans (congrArg (And _) (congrArg (And _) ((w_iload t52_25 rfl rfl).trans ((w_iload_n t52_27 rfl rfl).trans ((w_iast t52_28 rfl rfl).trans (congrArg (And _) ((w_aload_n t52_29 rfl rfl).trans ((w_getR t52_30 rfl (by decide)).trans (congrArg (And _) (congrArg (And _) ((w_iload t52_33 rfl rfl).trans ((w_iconst t52_35 rfl).trans ((w_iadd t52_36 rfl).trans ((w_iload_n t52_37 rfl rfl).trans ((w_iast t52_38 rfl rfl).trans (congrArg (And _) ((w_aload_n t52_39 rfl rfl).trans ((w_getR t52_40 rfl (by decide)).trans (congrArg (And _) (congrArg (And _) ((w_iload t52_43 rfl rfl).trans ((w_iconst t52_45 rfl).trans ((w_iadd t52_46 rfl).trans ((w_iload_n t52_47 rfl rfl).trans ((w_iast t52_48 rfl rfl).trans (congrArg (And _) ((w_aload_n t52_49 rfl rfl).trans ((w_getR t52_50 rfl (by decide)).trans (congrArg (And _) (congrArg (And _) ((w_iload t52_53 rfl rfl).trans ((w_iconst t52_55 rfl).trans ((w_iadd t52_56 rfl).trans ((w_iload t52_57 rfl rfl).trans ((w_iast t52_59 rfl rfl).trans (congrArg (And _) ((w_aload_n t52_60 rfl rfl).trans ((w_getR t52_61 rfl (by decide)).trans (congrArg (And _) (congrArg (And _) ((w_iload t52_64 rfl rfl).trans ((w_iconst t52_66 rfl).trans ((w_iadd t52_67 rfl).trans ((w_iload t52_68 rfl rfl).trans ((w_iast t52_70 rfl rfl).trans (congrArg (And _) ((w_aload_n t52_71 rfl rfl).trans ((w_dup t52_72 rfl).trans ((w_getI t52_73 rfl (by decide)).trans (congrArg (And _) ((w_iconst t52_76 rfl).trans ((w_iadd t52_77 rfl).trans ((w_putI t52_78 rfl (by decide)).trans (congrArg (And _) ((w_aload_n t52_81 rfl rfl).trans ((w_getI t52_82 rfl (by decide)).trans (congrArg (And _) ((w_iconst t52_85 rfl).trans ((w_isub t52_86 rfl).trans (w_iret t52_87)))))))))))))))))))))))))))))))))))))))))))))))))))))))))))))))))))
theorem t53_0 : sm_at 53 0 = some (1, .aload_n 0, 0, 0, 0) := rfl
theorem t53_1 : sm_at 53 1 = some (3, .getfield 25, 5, 2, 0) := rfl
theorem t53_4 : sm_at 53 4 = some (1, .aload_n 0, 0, 0, 0) := rfl
theorem t53_5 : sm_at 53 5 = some (3, .getfield 15, 5, 0, 0) := rfl
theorem t53_8 : sm_at 53 8 = some (3, .if_icmp .lt 7, 0, 0, 0) := rfl
theorem t53_11 : sm_at 53 11 = some (1, .iconst 1, 0, 0, 0) := rfl
theorem t53_12 : sm_at 53 12 = some (3, .goto 4, 0, 0, 0) := rfl
theorem t53_15 : sm_at 53 15 = some (1, .iconst 0, 0, 0, 0) := rfl
theorem t53_16 : sm_at 53 16 = some (1, .ireturn, 1, 0, 0) := rfl
set_option maxRecDepth 10000 in
theorem b53_0 {d : Nat} {r0 : Nat} {Z : Nat → Nat → Int} {Rf : Nat → Nat → Option Nat} {K : Nat → Nat × Nat} {n z : Nat} {Q : Option sm_V → sm_S → Prop} : sm_wp d 53 0 [some (.inr (some r0))] [] (Z, Rf, K, n, z) Q = ((K r0).1 = 5 ∧ (K r0).1 = 5 ∧ (if wr (Z r0 2) < wr (Z r0 0) then sm_wp d 53 15 [some (.inr (some r0))] [] (Z, Rf, K, n, z) Q else sm_wp d 53 11 [some (.inr (some r0))] [] (Z, Rf, K, n, z) Q)) := (w_aload_n t53_0 rfl rfl).trans ((w_getI t53_1 rfl (by decide)).trans (congrArg (And _) ((w_aload_n t53_4 rfl rfl).trans ((w_getI t53_5 rfl (by decide)).trans (congrArg (And _) (w_iclt t53_8 rfl rfl rfl rfl))))))
set_option maxRecDepth 10000 in
theorem b53_11 {d : Nat} {l0 : Option sm_V} {Z : Nat → Nat → Int} {Rf : Nat → Nat → Option Nat} {K : Nat → Nat × Nat} {n z : Nat} {Q : Option sm_V → sm_S → Prop} : sm_wp d 53 11 [l0] [] (Z, Rf, K, n, z) Q = (sm_wp d 53 16 [l0] [.inl 1] (Z, Rf, K, n, z) Q) := (w_iconst t53_11 rfl).trans (w_goto t53_12 rfl)
set_option maxRecDepth 10000 in
theorem b53_15 {d : Nat} {l0 : Option sm_V} {Z : Nat → Nat → Int} {Rf : Nat → Nat → Option Nat} {K : Nat → Nat × Nat} {n z : Nat} {Q : Option sm_V → sm_S → Prop} : sm_wp d 53 15 [l0] [] (Z, Rf, K, n, z) Q = (sm_wp d 53 16 [l0] [.inl 0] (Z, Rf, K, n, z) Q) := w_iconst t53_15 rfl
set_option maxRecDepth 10000 in
theorem b53_16 {d : Nat} {l0 : Option sm_V} {s0 : Int} {Z : Nat → Nat → Int} {Rf : Nat → Nat → Option Nat} {K : Nat → Nat × Nat} {n z : Nat} {Q : Option sm_V → sm_S → Prop} : sm_wp d 53 16 [l0] [.inl s0] (Z, Rf, K, n, z) Q = ((wr s0 = 0 ∨ wr s0 = 1) ∧ Q (some (.inl s0)) (Z, Rf, K, n, z)) := w_zret t53_16 rfl
theorem t54_0 : sm_at 54 0 = some (1, .iload_n 1, 0, 0, 0) := rfl
theorem t54_1 : sm_at 54 1 = some (3, .ifCond .lt 20, 0, 0, 0) := rfl
theorem t54_4 : sm_at 54 4 = some (1, .iload_n 1, 0, 0, 0) := rfl
theorem t54_5 : sm_at 54 5 = some (1, .aload_n 0, 0, 0, 0) := rfl
theorem t54_6 : sm_at 54 6 = some (3, .getfield 25, 5, 2, 0) := rfl
theorem t54_9 : sm_at 54 9 = some (3, .if_icmp .ge 12, 0, 0, 0) := rfl
theorem t54_12 : sm_at 54 12 = some (1, .iload_n 2, 0, 0, 0) := rfl
theorem t54_13 : sm_at 54 13 = some (3, .ifCond .lt 8, 0, 0, 0) := rfl
theorem t54_16 : sm_at 54 16 = some (1, .iload_n 2, 0, 0, 0) := rfl
theorem t54_17 : sm_at 54 17 = some (1, .iconst 5, 0, 0, 0) := rfl
theorem t54_18 : sm_at 54 18 = some (3, .if_icmp .lt 5, 0, 0, 0) := rfl
theorem t54_21 : sm_at 54 21 = some (1, .iconst (-1), 0, 0, 0) := rfl
theorem t54_22 : sm_at 54 22 = some (1, .ireturn, 0, 0, 0) := rfl
theorem t54_23 : sm_at 54 23 = some (1, .aload_n 0, 0, 0, 0) := rfl
theorem t54_24 : sm_at 54 24 = some (3, .getfield 21, 5, 1, 0) := rfl
theorem t54_27 : sm_at 54 27 = some (1, .iload_n 1, 0, 0, 0) := rfl
theorem t54_28 : sm_at 54 28 = some (1, .iconst 5, 0, 0, 0) := rfl
theorem t54_29 : sm_at 54 29 = some (1, .imul, 0, 0, 0) := rfl
theorem t54_30 : sm_at 54 30 = some (1, .iload_n 2, 0, 0, 0) := rfl
theorem t54_31 : sm_at 54 31 = some (1, .iadd, 0, 0, 0) := rfl
theorem t54_32 : sm_at 54 32 = some (1, .iaload, 0, 0, 0) := rfl
theorem t54_33 : sm_at 54 33 = some (1, .ireturn, 0, 0, 0) := rfl
set_option maxRecDepth 10000 in
theorem b54_0 {d : Nat} {l0 : Option sm_V} {x1 : Int} {l2 : Option sm_V} {Z : Nat → Nat → Int} {Rf : Nat → Nat → Option Nat} {K : Nat → Nat × Nat} {n z : Nat} {Q : Option sm_V → sm_S → Prop} : sm_wp d 54 0 [l0, some (.inl x1), l2] [] (Z, Rf, K, n, z) Q = (if wr x1 < 0 then sm_wp d 54 21 [l0, some (.inl x1), l2] [] (Z, Rf, K, n, z) Q else sm_wp d 54 4 [l0, some (.inl x1), l2] [] (Z, Rf, K, n, z) Q) := (w_iload_n t54_0 rfl rfl).trans (w_iflt t54_1 rfl rfl rfl)
set_option maxRecDepth 10000 in
theorem b54_4 {d : Nat} {r0 : Nat} {x1 : Int} {l2 : Option sm_V} {Z : Nat → Nat → Int} {Rf : Nat → Nat → Option Nat} {K : Nat → Nat × Nat} {n z : Nat} {Q : Option sm_V → sm_S → Prop} : sm_wp d 54 4 [some (.inr (some r0)), some (.inl x1), l2] [] (Z, Rf, K, n, z) Q = ((K r0).1 = 5 ∧ (if wr (Z r0 2) ≤ wr x1 then sm_wp d 54 21 [some (.inr (some r0)), some (.inl x1), l2] [] (Z, Rf, K, n, z) Q else sm_wp d 54 12 [some (.inr (some r0)), some (.inl x1), l2] [] (Z, Rf, K, n, z) Q)) := (w_iload_n t54_4 rfl rfl).trans ((w_aload_n t54_5 rfl rfl).trans ((w_getI t54_6 rfl (by decide)).trans (congrArg (And _) (w_icge t54_9 rfl rfl rfl rfl))))
set_option maxRecDepth 10000 in
theorem b54_12 {d : Nat} {l0 : Option sm_V} {l1 : Option sm_V} {x2 : Int} {Z : Nat → Nat → Int} {Rf : Nat → Nat → Option Nat} {K : Nat → Nat × Nat} {n z : Nat} {Q : Option sm_V → sm_S → Prop} : sm_wp d 54 12 [l0, l1, some (.inl x2)] [] (Z, Rf, K, n, z) Q = (if wr x2 < 0 then sm_wp d 54 21 [l0, l1, some (.inl x2)] [] (Z, Rf, K, n, z) Q else sm_wp d 54 16 [l0, l1, some (.inl x2)] [] (Z, Rf, K, n, z) Q) := (w_iload_n t54_12 rfl rfl).trans (w_iflt t54_13 rfl rfl rfl)
set_option maxRecDepth 10000 in
theorem b54_16 {d : Nat} {l0 : Option sm_V} {l1 : Option sm_V} {x2 : Int} {Z : Nat → Nat → Int} {Rf : Nat → Nat → Option Nat} {K : Nat → Nat × Nat} {n z : Nat} {Q : Option sm_V → sm_S → Prop} : sm_wp d 54 16 [l0, l1, some (.inl x2)] [] (Z, Rf, K, n, z) Q = (if wr x2 < (5 : Int) then sm_wp d 54 23 [l0, l1, some (.inl x2)] [] (Z, Rf, K, n, z) Q else sm_wp d 54 21 [l0, l1, some (.inl x2)] [] (Z, Rf, K, n, z) Q) := (w_iload_n t54_16 rfl rfl).trans ((w_iconst t54_17 rfl).trans (w_iclt t54_18 rfl wl_5 rfl rfl))
set_option maxRecDepth 10000 in
theorem b54_21 {d : Nat} {l0 : Option sm_V} {l1 : Option sm_V} {l2 : Option sm_V} {Z : Nat → Nat → Int} {Rf : Nat → Nat → Option Nat} {K : Nat → Nat × Nat} {n z : Nat} {Q : Option sm_V → sm_S → Prop} : sm_wp d 54 21 [l0, l1, l2] [] (Z, Rf, K, n, z) Q = (Q (some (.inl ((-1)))) (Z, Rf, K, n, z)) := (w_iconst t54_21 rfl).trans (w_iret t54_22)
set_option maxRecDepth 10000 in
theorem b54_23 {d : Nat} {r0 : Nat} {x1 : Int} {x2 : Int} {Z : Nat → Nat → Int} {Rf : Nat → Nat → Option Nat} {K : Nat → Nat × Nat} {n z : Nat} {Q : Option sm_V → sm_S → Prop} : sm_wp d 54 23 [some (.inr (some r0)), some (.inl x1), some (.inl x2)] [] (Z, Rf, K, n, z) Q = ((K r0).1 = 5 ∧ (Rf r0 1).isSome = true ∧ sm_rd (K (((Rf r0 1).getD 0))) (wr ((x1 * 5) + x2)) ∧ Q (some (.inl (Z (((Rf r0 1).getD 0)) ((wr ((x1 * 5) + x2)).toNat)))) (Z, Rf, K, n, z)) := (w_aload_n t54_23 rfl rfl).trans ((w_getR t54_24 rfl (by decide)).trans (congrArg (And _) (congrArg (And _) ((w_iload_n t54_27 rfl rfl).trans ((w_iconst t54_28 rfl).trans ((w_imul t54_29 rfl).trans ((w_iload_n t54_30 rfl rfl).trans ((w_iadd t54_31 rfl).trans ((w_iald t54_32 rfl rfl).trans (congrArg (And _) (w_iret t54_33)))))))))))
theorem t55_0 : sm_at 55 0 = some (1, .aload_n 0, 0, 0, 0) := rfl
theorem t55_1 : sm_at 55 1 = some (3, .getfield 21, 5, 1, 0) := rfl
theorem t55_4 : sm_at 55 4 = some (1, .arraylength, 0, 0, 0) := rfl
theorem t55_5 : sm_at 55 5 = some (1, .aload_n 1, 0, 0, 0) := rfl
theorem t55_6 : sm_at 55 6 = some (3, .getfield 21, 5, 1, 0) := rfl
theorem t55_9 : sm_at 55 9 = some (1, .arraylength, 0, 0, 0) := rfl
theorem t55_10 : sm_at 55 10 = some (3, .invokestatic 28, 1004, 2, 0) := rfl
theorem t55_13 : sm_at 55 13 = some (1, .istore_n 2, 0, 0, 0) := rfl
theorem t55_14 : sm_at 55 14 = some (1, .aload_n 1, 0, 0, 0) := rfl
theorem t55_15 : sm_at 55 15 = some (3, .getfield 21, 5, 1, 0) := rfl
theorem t55_18 : sm_at 55 18 = some (1, .iconst 0, 0, 0, 0) := rfl
theorem t55_19 : sm_at 55 19 = some (1, .aload_n 0, 0, 0, 0) := rfl
theorem t55_20 : sm_at 55 20 = some (3, .getfield 21, 5, 1, 0) := rfl
theorem t55_23 : sm_at 55 23 = some (1, .iconst 0, 0, 0, 0) := rfl
theorem t55_24 : sm_at 55 24 = some (1, .iload_n 2, 0, 0, 0) := rfl
theorem t55_25 : sm_at 55 25 = some (3, .invokestatic 31, 1000, 5, 0) := rfl
theorem t55_28 : sm_at 55 28 = some (1, .aload_n 0, 0, 0, 0) := rfl
theorem t55_29 : sm_at 55 29 = some (1, .aload_n 1, 0, 0, 0) := rfl
theorem t55_30 : sm_at 55 30 = some (3, .getfield 25, 5, 2, 0) := rfl
theorem t55_33 : sm_at 55 33 = some (3, .putfield 25, 5, 2, 0) := rfl
theorem t55_36 : sm_at 55 36 = some (1, .return_, 0, 0, 0) := rfl
set_option maxRecDepth 10000 in
theorem b55_0 {d : Nat} {r0 : Nat} {r1 : Nat} {l2 : Option sm_V} {Z : Nat → Nat → Int} {Rf : Nat → Nat → Option Nat} {K : Nat → Nat × Nat} {n z : Nat} {Q : Option sm_V → sm_S → Prop} : sm_wp d 55 0 [some (.inr (some r0)), some (.inr (some r1)), l2] [] (Z, Rf, K, n, z) Q = ((K r0).1 = 5 ∧ (Rf r0 1).isSome = true ∧ ((K (((Rf r0 1).getD 0))).1 = 100 ∨ (K (((Rf r0 1).getD 0))).1 = 101 ∨ (K (((Rf r0 1).getD 0))).1 = 102 ∨ (K (((Rf r0 1).getD 0))).1 = 104) ∧ (K r1).1 = 5 ∧ (Rf r1 1).isSome = true ∧ ((K (((Rf r1 1).getD 0))).1 = 100 ∨ (K (((Rf r1 1).getD 0))).1 = 101 ∨ (K (((Rf r1 1).getD 0))).1 = 102 ∨ (K (((Rf r1 1).getD 0))).1 = 104) ∧ (K r1).1 = 5 ∧ (Rf r1 1).isSome = true ∧ (K r0).1 = 5 ∧ (Rf r0 1).isSome = true ∧ sm_cp (K (((Rf r1 1).getD 0))) (K (((Rf r0 1).getD 0))) ((0 : Int)) ((0 : Int)) (wr (if wr (((K (((Rf r1 1).getD 0))).2 : Int)) < wr (((K (((Rf r0 1).getD 0))).2 : Int)) then ((K (((Rf r1 1).getD 0))).2 : Int) else ((K (((Rf r0 1).getD 0))).2 : Int))) ∧ (K r1).1 = 5 ∧ (K r0).1 = 5 ∧ Q none (sm_u (sm_mv Z (((Rf r1 1).getD 0)) (((Rf r0 1).getD 0)) ((0 : Int)) ((0 : Int)) (wr (if wr (((K (((Rf r1 1).getD 0))).2 : Int)) < wr (((K (((Rf r0 1).getD 0))).2 : Int)) then ((K (((Rf r1 1).getD 0))).2 : Int) else ((K (((Rf r0 1).getD 0))).2 : Int)))) r0 2 ((sm_mv Z (((Rf r1 1).getD 0)) (((Rf r0 1).getD 0)) ((0 : Int)) ((0 : Int)) (wr (if wr (((K (((Rf r1 1).getD 0))).2 : Int)) < wr (((K (((Rf r0 1).getD 0))).2 : Int)) then ((K (((Rf r1 1).getD 0))).2 : Int) else ((K (((Rf r0 1).getD 0))).2 : Int)))) r1 2), Rf, K, n, z)) := (w_aload_n t55_0 rfl rfl).trans ((w_getR t55_1 rfl (by decide)).trans (congrArg (And _) (congrArg (And _) ((w_alen t55_4 rfl).trans (congrArg (And _) ((w_aload_n t55_5 rfl rfl).trans ((w_getR t55_6 rfl (by decide)).trans (congrArg (And _) (congrArg (And _) ((w_alen t55_9 rfl).trans (congrArg (And _) ((w_min t55_10 rfl (Nat.le_of_ble_eq_true rfl) rfl rfl).trans ((w_istore_n t55_13 rfl (Nat.le_of_ble_eq_true rfl) rfl).trans ((w_aload_n t55_14 rfl rfl).trans ((w_getR t55_15 rfl (by decide)).trans (congrArg (And _) (congrArg (And _) ((w_iconst t55_18 rfl).trans ((w_aload_n t55_19 rfl rfl).trans ((w_getR t55_20 rfl (by decide)).trans (congrArg (And _) (congrArg (And _) ((w_iconst t55_23 rfl).trans ((w_iload_n t55_24 rfl rfl).trans ((w_copy t55_25 rfl (Nat.le_of_ble_eq_true rfl) wl_0 wl_0 rfl).trans (congrArg (And _) ((w_aload_n t55_28 rfl rfl).trans ((w_aload_n t55_29 rfl rfl).trans ((w_getI t55_30 rfl (by decide)).trans (congrArg (And _) ((w_putI t55_33 rfl (by decide)).trans (congrArg (And _) (w_vret t55_36)))))))))))))))))))))))))))))))))
theorem t56_0 : sm_at 56 0 = some (1, .aload_n 0, 0, 0, 0) := rfl
theorem t56_1 : sm_at 56 1 = some (3, .invokespecial 3, 1001, 1, 0) := rfl
theorem t56_4 : sm_at 56 4 = some (1, .aload_n 0, 0, 0, 0) := rfl
theorem t56_5 : sm_at 56 5 = some (2, .bipush 100, 0, 0, 0) := rfl
theorem t56_7 : sm_at 56 7 = some (2, .newarray .int, 0, 0, 0) := rfl
theorem t56_9 : sm_at 56 9 = some (3, .putfield 9, 6, 0, 0) := rfl
theorem t56_12 : sm_at 56 12 = some (1, .aload_n 0, 0, 0, 0) := rfl
theorem t56_13 : sm_at 56 13 = some (2, .bipush 100, 0, 0, 0) := rfl
theorem t56_15 : sm_at 56 15 = some (2, .newarray .int, 0, 0, 0) := rfl
theorem t56_17 : sm_at 56 17 = some (3, .putfield 15, 6, 1, 0) := rfl
theorem t56_20 : sm_at 56 20 = some (1, .return_, 0, 0, 0) := rfl
set_option maxRecDepth 10000 in
theorem b56_0 {d : Nat} {r0 : Nat} {Z : Nat → Nat → Int} {Rf : Nat → Nat → Option Nat} {K : Nat → Nat × Nat} {n z : Nat} {Q : Option sm_V → sm_S → Prop} : sm_wp d 56 0 [some (.inr (some r0))] [] (Z, Rf, K, n, z) Q = ((n < 1000000 ∧ 0 ≤ (100 : Int) ∧ (100 : Int) ≤ 65536) ∧ ((sm_k K n (100, 100)) r0).1 = 6 ∧ (n + 1 < 1000000 ∧ 0 ≤ (100 : Int) ∧ (100 : Int) ≤ 65536) ∧ ((sm_k (sm_k K n (100, 100)) (n + 1) (100, 100)) r0).1 = 6 ∧ Q none (sm_r (sm_r Z n (fun _ => 0)) (n + 1) (fun _ => 0), sm_u (sm_r (sm_u (sm_r Rf n (fun _ => none)) r0 0 (some n)) (n + 1) (fun _ => none)) r0 1 (some (n + 1)), sm_k (sm_k K n (100, 100)) (n + 1) (100, 100), n + 1 + 1, z + 100 + 100)) := (w_aload_n t56_0 rfl rfl).trans ((w_oinit t56_1 rfl (Nat.le_of_ble_eq_true rfl)).trans ((w_aload_n t56_4 rfl rfl).trans ((w_bipush t56_5 rfl).trans ((w_newa t56_7 rfl wl_100).trans (congrArg (And _) ((w_putR t56_9 rfl (by decide)).trans (congrArg (And _) ((w_aload_n t56_12 rfl rfl).trans ((w_bipush t56_13 rfl).trans ((w_newa t56_15 rfl wl_100).trans (congrArg (And _) ((w_putR t56_17 rfl (by decide)).trans (congrArg (And _) (w_vret t56_20))))))))))))))
theorem t57_0 : sm_at 57 0 = some (1, .aload_n 1, 0, 0, 0) := rfl
theorem t57_1 : sm_at 57 1 = some (3, .getfield 18, 1, 4, 0) := rfl
theorem t57_4 : sm_at 57 4 = some (1, .iconst 0, 0, 0, 0) := rfl
theorem t57_5 : sm_at 57 5 = some (1, .aload_n 0, 0, 0, 0) := rfl
theorem t57_6 : sm_at 57 6 = some (3, .getfield 9, 6, 0, 0) := rfl
theorem t57_9 : sm_at 57 9 = some (1, .iconst 0, 0, 0, 0) := rfl
theorem t57_10 : sm_at 57 10 = some (2, .bipush 100, 0, 0, 0) := rfl
theorem t57_12 : sm_at 57 12 = some (3, .invokestatic 23, 1000, 5, 0) := rfl
theorem t57_15 : sm_at 57 15 = some (1, .aload_n 0, 0, 0, 0) := rfl
theorem t57_16 : sm_at 57 16 = some (3, .getfield 15, 6, 1, 0) := rfl
theorem t57_19 : sm_at 57 19 = some (1, .iconst 0, 0, 0, 0) := rfl
theorem t57_20 : sm_at 57 20 = some (3, .invokestatic 29, 205, 2, 0) := rfl
theorem t57_23 : sm_at 57 23 = some (1, .iconst 0, 0, 0, 0) := rfl
theorem t57_24 : sm_at 57 24 = some (1, .istore_n 2, 0, 0, 0) := rfl
theorem t57_25 : sm_at 57 25 = some (1, .iload_n 2, 0, 0, 0) := rfl
theorem t57_26 : sm_at 57 26 = some (2, .bipush 100, 0, 0, 0) := rfl
theorem t57_28 : sm_at 57 28 = some (3, .if_icmp .ge 25, 0, 0, 0) := rfl
theorem t57_31 : sm_at 57 31 = some (1, .aload_n 1, 0, 0, 0) := rfl
theorem t57_32 : sm_at 57 32 = some (3, .getfield 35, 1, 7, 0) := rfl
theorem t57_35 : sm_at 57 35 = some (1, .iload_n 2, 0, 0, 0) := rfl
theorem t57_36 : sm_at 57 36 = some (1, .iaload, 0, 0, 0) := rfl
theorem t57_37 : sm_at 57 37 = some (3, .ifCond .eq 10, 0, 0, 0) := rfl
theorem t57_40 : sm_at 57 40 = some (1, .aload_n 0, 0, 0, 0) := rfl
theorem t57_41 : sm_at 57 41 = some (1, .aload_n 1, 0, 0, 0) := rfl
theorem t57_42 : sm_at 57 42 = some (1, .iload_n 2, 0, 0, 0) := rfl
theorem t57_43 : sm_at 57 43 = some (1, .iconst 1, 0, 0, 0) := rfl
theorem t57_44 : sm_at 57 44 = some (3, .invokevirtual 36, 58, 4, 0) := rfl
theorem t57_47 : sm_at 57 47 = some (3, .iinc 2 1, 0, 0, 0) := rfl
theorem t57_50 : sm_at 57 50 = some (3, .goto (-25), 0, 0, 0) := rfl
theorem t57_53 : sm_at 57 53 = some (1, .return_, 0, 0, 0) := rfl
set_option maxRecDepth 10000 in
theorem b57_0 {d : Nat} {r0 : Nat} {r1 : Nat} {l2 : Option sm_V} {Z : Nat → Nat → Int} {Rf : Nat → Nat → Option Nat} {K : Nat → Nat × Nat} {n z : Nat} {Q : Option sm_V → sm_S → Prop} : sm_wp (d + 1) 57 0 [some (.inr (some r0)), some (.inr (some r1)), l2] [] (Z, Rf, K, n, z) Q = ((K r1).1 = 1 ∧ (Rf r1 4).isSome = true ∧ (K r0).1 = 6 ∧ (Rf r0 0).isSome = true ∧ sm_cp (K (((Rf r1 4).getD 0))) (K (((Rf r0 0).getD 0))) ((0 : Int)) ((0 : Int)) ((100 : Int)) ∧ (K r0).1 = 6 ∧ (Rf r0 1).isSome = true ∧ sm_call d 205 [.inr (some ((Rf r0 1).getD 0)), .inl 0] (sm_mv Z (((Rf r1 4).getD 0)) (((Rf r0 0).getD 0)) ((0 : Int)) ((0 : Int)) ((100 : Int)), Rf, K, n, z) (sm_cont (d + 1) 57 23 [some (.inr (some r0)), some (.inr (some r1)), l2] [] Q)) := (w_aload_n t57_0 rfl rfl).trans ((w_getR t57_1 rfl (by decide)).trans (congrArg (And _) (congrArg (And _) ((w_iconst t57_4 rfl).trans ((w_aload_n t57_5 rfl rfl).trans ((w_getR t57_6 rfl (by decide)).trans (congrArg (And _) (congrArg (And _) ((w_iconst t57_9 rfl).trans ((w_bipush t57_10 rfl).trans ((w_copy t57_12 rfl (Nat.le_of_ble_eq_true rfl) wl_0 wl_0 wl_100).trans (congrArg (And _) ((w_aload_n t57_15 rfl rfl).trans ((w_getR t57_16 rfl (by decide)).trans (congrArg (And _) (congrArg (And _) ((w_iconst t57_19 rfl).trans (w_callS t57_20 rfl rfl rfl rfl (Nat.le_of_ble_eq_true rfl) (Nat.le_of_ble_eq_true rfl) rfl))))))))))))))))))
set_option maxRecDepth 10000 in
theorem b57_23 {d : Nat} {l0 : Option sm_V} {l1 : Option sm_V} {l2 : Option sm_V} {Z : Nat → Nat → Int} {Rf : Nat → Nat → Option Nat} {K : Nat → Nat × Nat} {n z : Nat} {Q : Option sm_V → sm_S → Prop} : sm_wp d 57 23 [l0, l1, l2] [] (Z, Rf, K, n, z) Q = (sm_wp d 57 25 [l0, l1, some (.inl 0)] [] (Z, Rf, K, n, z) Q) := (w_iconst t57_23 rfl).trans (w_istore_n t57_24 rfl (Nat.le_of_ble_eq_true rfl) rfl)
set_option maxRecDepth 10000 in
theorem b57_25 {d : Nat} {l0 : Option sm_V} {l1 : Option sm_V} {x2 : Int} {Z : Nat → Nat → Int} {Rf : Nat → Nat → Option Nat} {K : Nat → Nat × Nat} {n z : Nat} {Q : Option sm_V → sm_S → Prop} : sm_wp d 57 25 [l0, l1, some (.inl x2)] [] (Z, Rf, K, n, z) Q = (if (100 : Int) ≤ wr x2 then sm_wp d 57 53 [l0, l1, some (.inl x2)] [] (Z, Rf, K, n, z) Q else sm_wp d 57 31 [l0, l1, some (.inl x2)] [] (Z, Rf, K, n, z) Q) := (w_iload_n t57_25 rfl rfl).trans ((w_bipush t57_26 rfl).trans (w_icge t57_28 rfl wl_100 rfl rfl))
set_option maxRecDepth 10000 in
theorem b57_31 {d : Nat} {l0 : Option sm_V} {r1 : Nat} {x2 : Int} {Z : Nat → Nat → Int} {Rf : Nat → Nat → Option Nat} {K : Nat → Nat × Nat} {n z : Nat} {Q : Option sm_V → sm_S → Prop} : sm_wp d 57 31 [l0, some (.inr (some r1)), some (.inl x2)] [] (Z, Rf, K, n, z) Q = ((K r1).1 = 1 ∧ (Rf r1 7).isSome = true ∧ sm_rd (K (((Rf r1 7).getD 0))) (wr x2) ∧ (if wr (Z (((Rf r1 7).getD 0)) ((wr x2).toNat)) = 0 then sm_wp d 57 47 [l0, some (.inr (some r1)), some (.inl x2)] [] (Z, Rf, K, n, z) Q else sm_wp d 57 40 [l0, some (.inr (some r1)), some (.inl x2)] [] (Z, Rf, K, n, z) Q)) := (w_aload_n t57_31 rfl rfl).trans ((w_getR t57_32 rfl (by decide)).trans (congrArg (And _) (congrArg (And _) ((w_iload_n t57_35 rfl rfl).trans ((w_iald t57_36 rfl rfl).trans (congrArg (And _) (w_ifeq t57_37 rfl rfl rfl)))))))
set_option maxRecDepth 10000 in
theorem b57_40 {d : Nat} {r0 : Nat} {q1 : Option Nat} {x2 : Int} {Z : Nat → Nat → Int} {Rf : Nat → Nat → Option Nat} {K : Nat → Nat × Nat} {n z : Nat} {Q : Option sm_V → sm_S → Prop} : sm_wp (d + 1) 57 40 [some (.inr (some r0)), some (.inr q1), some (.inl x2)] [] (Z, Rf, K, n, z) Q = ((K r0).1 = 6 ∧ sm_call d 58 [.inr (some r0), .inr q1, .inl x2, .inl 1] (Z, Rf, K, n, z) (sm_cont (d + 1) 57 47 [some (.inr (some r0)), some (.inr q1), some (.inl x2)] [] Q)) := (w_aload_n t57_40 rfl rfl).trans ((w_aload_n t57_41 rfl rfl).trans ((w_iload_n t57_42 rfl rfl).trans ((w_iconst t57_43 rfl).trans (w_callV t57_44 rfl rfl rfl rfl (Nat.le_of_ble_eq_true rfl) (Nat.le_of_ble_eq_true rfl) rfl (by decide)))))
set_option maxRecDepth 10000 in
theorem b57_47 {d : Nat} {l0 : Option sm_V} {l1 : Option sm_V} {x2 : Int} {Z : Nat → Nat → Int} {Rf : Nat → Nat → Option Nat} {K : Nat → Nat × Nat} {n z : Nat} {Q : Option sm_V → sm_S → Prop} : sm_wp d 57 47 [l0, l1, some (.inl x2)] [] (Z, Rf, K, n, z) Q = (sm_wp d 57 25 [l0, l1, some (.inl (x2 + 1))] [] (Z, Rf, K, n, z) Q) := (w_iinc t57_47 rfl rfl (Nat.le_of_ble_eq_true rfl) rfl).trans (w_goto t57_50 rfl)
set_option maxRecDepth 10000 in
theorem b57_53 {d : Nat} {l0 : Option sm_V} {l1 : Option sm_V} {l2 : Option sm_V} {Z : Nat → Nat → Int} {Rf : Nat → Nat → Option Nat} {K : Nat → Nat × Nat} {n z : Nat} {Q : Option sm_V → sm_S → Prop} : sm_wp d 57 53 [l0, l1, l2] [] (Z, Rf, K, n, z) Q = (Q none (Z, Rf, K, n, z)) := w_vret t57_53
theorem t58_0 : sm_at 58 0 = some (1, .aload_n 1, 0, 0, 0) := rfl
theorem t58_1 : sm_at 58 1 = some (1, .iload_n 2, 0, 0, 0) := rfl
theorem t58_2 : sm_at 58 2 = some (3, .invokevirtual 40, 8, 2, 0) := rfl
theorem t58_5 : sm_at 58 5 = some (3, .ifCond .ne 4, 0, 0, 0) := rfl
theorem t58_8 : sm_at 58 8 = some (1, .return_, 0, 0, 0) := rfl
theorem t58_9 : sm_at 58 9 = some (1, .aload_n 0, 0, 0, 0) := rfl
theorem t58_10 : sm_at 58 10 = some (3, .getfield 15, 6, 1, 0) := rfl
theorem t58_13 : sm_at 58 13 = some (1, .iload_n 2, 0, 0, 0) := rfl
theorem t58_14 : sm_at 58 14 = some (1, .dup2, 0, 0, 0) := rfl
theorem t58_15 : sm_at 58 15 = some (1, .iaload, 0, 0, 0) := rfl
theorem t58_16 : sm_at 58 16 = some (1, .iload_n 3, 0, 0, 0) := rfl
theorem t58_17 : sm_at 58 17 = some (1, .iadd, 0, 0, 0) := rfl
theorem t58_18 : sm_at 58 18 = some (1, .iastore, 0, 0, 0) := rfl
theorem t58_19 : sm_at 58 19 = some (1, .aload_n 0, 0, 0, 0) := rfl
theorem t58_20 : sm_at 58 20 = some (3, .getfield 9, 6, 0, 0) := rfl
theorem t58_23 : sm_at 58 23 = some (1, .iload_n 2, 0, 0, 0) := rfl
theorem t58_24 : sm_at 58 24 = some (1, .dup2, 0, 0, 0) := rfl
theorem t58_25 : sm_at 58 25 = some (1, .iaload, 0, 0, 0) := rfl
theorem t58_26 : sm_at 58 26 = some (1, .iload_n 3, 0, 0, 0) := rfl
theorem t58_27 : sm_at 58 27 = some (2, .bipush 20, 0, 0, 0) := rfl
theorem t58_29 : sm_at 58 29 = some (1, .imul, 0, 0, 0) := rfl
theorem t58_30 : sm_at 58 30 = some (1, .iadd, 0, 0, 0) := rfl
theorem t58_31 : sm_at 58 31 = some (1, .iastore, 0, 0, 0) := rfl
theorem t58_32 : sm_at 58 32 = some (1, .iconst 0, 0, 0, 0) := rfl
theorem t58_33 : sm_at 58 33 = some (2, .istore 4, 0, 0, 0) := rfl
theorem t58_35 : sm_at 58 35 = some (2, .iload 4, 0, 0, 0) := rfl
theorem t58_37 : sm_at 58 37 = some (1, .iconst 4, 0, 0, 0) := rfl
theorem t58_38 : sm_at 58 38 = some (3, .if_icmp .ge 56, 0, 0, 0) := rfl
theorem t58_41 : sm_at 58 41 = some (1, .aload_n 1, 0, 0, 0) := rfl
theorem t58_42 : sm_at 58 42 = some (1, .iload_n 2, 0, 0, 0) := rfl
theorem t58_43 : sm_at 58 43 = some (2, .bipush 10, 0, 0, 0) := rfl
theorem t58_45 : sm_at 58 45 = some (1, .irem, 0, 0, 0) := rfl
theorem t58_46 : sm_at 58 46 = some (3, .getstatic 44, 1, 1000000, 0) := rfl
theorem t58_49 : sm_at 58 49 = some (2, .iload 4, 0, 0, 0) := rfl
theorem t58_51 : sm_at 58 51 = some (1, .iaload, 0, 0, 0) := rfl
theorem t58_52 : sm_at 58 52 = some (1, .iadd, 0, 0, 0) := rfl
theorem t58_53 : sm_at 58 53 = some (1, .iload_n 2, 0, 0, 0) := rfl
theorem t58_54 : sm_at 58 54 = some (2, .bipush 10, 0, 0, 0) := rfl
theorem t58_56 : sm_at 58 56 = some (1, .idiv, 0, 0, 0) := rfl
theorem t58_57 : sm_at 58 57 = some (3, .getstatic 47, 1, 1000001, 0) := rfl
theorem t58_60 : sm_at 58 60 = some (2, .iload 4, 0, 0, 0) := rfl
theorem t58_62 : sm_at 58 62 = some (1, .iaload, 0, 0, 0) := rfl
theorem t58_63 : sm_at 58 63 = some (1, .iadd, 0, 0, 0) := rfl
theorem t58_64 : sm_at 58 64 = some (3, .invokevirtual 50, 9, 3, 0) := rfl
theorem t58_67 : sm_at 58 67 = some (2, .istore 5, 0, 0, 0) := rfl
theorem t58_69 : sm_at 58 69 = some (2, .iload 5, 0, 0, 0) := rfl
theorem t58_71 : sm_at 58 71 = some (1, .iconst (-1), 0, 0, 0) := rfl
theorem t58_72 : sm_at 58 72 = some (3, .if_icmp .eq 16, 0, 0, 0) := rfl
theorem t58_75 : sm_at 58 75 = some (1, .aload_n 0, 0, 0, 0) := rfl
theorem t58_76 : sm_at 58 76 = some (3, .getfield 9, 6, 0, 0) := rfl
theorem t58_79 : sm_at 58 79 = some (2, .iload 5, 0, 0, 0) := rfl
theorem t58_81 : sm_at 58 81 = some (1, .dup2, 0, 0, 0) := rfl
theorem t58_82 : sm_at 58 82 = some (1, .iaload, 0, 0, 0) := rfl
theorem t58_83 : sm_at 58 83 = some (1, .iload_n 3, 0, 0, 0) := rfl
theorem t58_84 : sm_at 58 84 = some (1, .iconst 5, 0, 0, 0) := rfl
theorem t58_85 : sm_at 58 85 = some (1, .imul, 0, 0, 0) := rfl
theorem t58_86 : sm_at 58 86 = some (1, .iadd, 0, 0, 0) := rfl
theorem t58_87 : sm_at 58 87 = some (1, .iastore, 0, 0, 0) := rfl
theorem t58_88 : sm_at 58 88 = some (3, .iinc 4 1, 0, 0, 0) := rfl
theorem t58_91 : sm_at 58 91 = some (3, .goto (-56), 0, 0, 0) := rfl
set_option maxRecDepth 100000 in
theorem t58_94 : sm_at 58 94 = some (1, .return_, 0, 0, 0) := rfl
set_option maxRecDepth 10000 in
theorem b58_0 {d : Nat} {l0 : Option sm_V} {r1 : Nat} {x2 : Int} {l3 : Option sm_V} {l4 : Option sm_V} {l5 : Option sm_V} {Z : Nat → Nat → Int} {Rf : Nat → Nat → Option Nat} {K : Nat → Nat × Nat} {n z : Nat} {Q : Option sm_V → sm_S → Prop} : sm_wp (d + 1) 58 0 [l0, some (.inr (some r1)), some (.inl x2), l3, l4, l5] [] (Z, Rf, K, n, z) Q = ((K r1).1 = 1 ∧ sm_call d 8 [.inr (some r1), .inl x2] (Z, Rf, K, n, z) (sm_cont (d + 1) 58 5 [l0, some (.inr (some r1)), some (.inl x2), l3, l4, l5] [] Q)) := (w_aload_n t58_0 rfl rfl).trans ((w_iload_n t58_1 rfl rfl).trans (w_callV t58_2 rfl rfl rfl rfl (Nat.le_of_ble_eq_true rfl) (Nat.le_of_ble_eq_true rfl) rfl (by decide)))
set_option maxRecDepth 10000 in
theorem b58_5 {d : Nat} {l0 : Option sm_V} {l1 : Option sm_V} {l2 : Option sm_V} {l3 : Option sm_V} {l4 : Option sm_V} {l5 : Option sm_V} {s0 : Int} {Z : Nat → Nat → Int} {Rf : Nat → Nat → Option Nat} {K : Nat → Nat × Nat} {n z : Nat} {Q : Option sm_V → sm_S → Prop} : sm_wp d 58 5 [l0, l1, l2, l3, l4, l5] [.inl s0] (Z, Rf, K, n, z) Q = (if wr s0 = 0 then sm_wp d 58 8 [l0, l1, l2, l3, l4, l5] [] (Z, Rf, K, n, z) Q else sm_wp d 58 9 [l0, l1, l2, l3, l4, l5] [] (Z, Rf, K, n, z) Q) := w_ifne t58_5 rfl rfl rfl
set_option maxRecDepth 10000 in
theorem b58_8 {d : Nat} {l0 : Option sm_V} {l1 : Option sm_V} {l2 : Option sm_V} {l3 : Option sm_V} {l4 : Option sm_V} {l5 : Option sm_V} {Z : Nat → Nat → Int} {Rf : Nat → Nat → Option Nat} {K : Nat → Nat × Nat} {n z : Nat} {Q : Option sm_V → sm_S → Prop} : sm_wp d 58 8 [l0, l1, l2, l3, l4, l5] [] (Z, Rf, K, n, z) Q = (Q none (Z, Rf, K, n, z)) := w_vret t58_8
set_option maxRecDepth 10000 in
theorem b58_9 {d : Nat} {r0 : Nat} {l1 : Option sm_V} {x2 : Int} {x3 : Int} {l4 : Option sm_V} {l5 : Option sm_V} {Z : Nat → Nat → Int} {Rf : Nat → Nat → Option Nat} {K : Nat → Nat × Nat} {n z : Nat} {Q : Option sm_V → sm_S → Prop} : sm_wp d 58 9 [some (.inr (some r0)), l1, some (.inl x2), some (.inl x3), l4, l5] [] (Z, Rf, K, n, z) Q = ((K r0).1 = 6 ∧ (Rf r0 1).isSome = true ∧ sm_rd (K (((Rf r0 1).getD 0))) (wr x2) ∧ sm_wt (K (((Rf r0 1).getD 0))) (wr x2) ∧ (K r0).1 = 6 ∧ (Rf r0 0).isSome = true ∧ sm_rd (K (((Rf r0 0).getD 0))) (wr x2) ∧ sm_wt (K (((Rf r0 0).getD 0))) (wr x2) ∧ sm_wp d 58 35 [some (.inr (some r0)), l1, some (.inl x2), some (.inl x3), some (.inl 0), l5] [] (sm_u (sm_u Z (((Rf r0 1).getD 0)) ((wr x2).toNat) ((Z (((Rf r0 1).getD 0)) ((wr x2).toNat)) + x3)) (((Rf r0 0).getD 0)) ((wr x2).toNat) (((sm_u Z (((Rf r0 1).getD 0)) ((wr x2).toNat) ((Z (((Rf r0 1).getD 0)) ((wr x2).toNat)) + x3)) (((Rf r0 0).getD 0)) ((wr x2).toNat)) + (x3 * 20)), Rf, K, n, z) Q) := (w_aload_n t58_9 rfl rfl).trans ((w_getR t58_10 rfl (by decide)).trans (congrArg (And _) (congrArg (And _) ((w_iload_n t58_13 rfl rfl).trans ((w_dup2 t58_14 rfl).trans ((w_iald t58_15 rfl rfl).trans (congrArg (And _) ((w_iload_n t58_16 rfl rfl).trans ((w_iadd t58_17 rfl).trans ((w_iast t58_18 rfl rfl).trans (congrArg (And _) ((w_aload_n t58_19 rfl rfl).trans ((w_getR t58_20 rfl (by decide)).trans (congrArg (And _) (congrArg (And _) ((w_iload_n t58_23 rfl rfl).trans ((w_dup2 t58_24 rfl).trans ((w_iald t58_25 rfl rfl).trans (congrArg (And _) ((w_iload_n t58_26 rfl rfl).trans ((w_bipush t58_27 rfl).trans ((w_imul t58_29 rfl).trans ((w_iadd t58_30 rfl).trans ((w_iast t58_31 rfl rfl).trans (congrArg (And _) ((w_iconst t58_32 rfl).trans (w_istore t58_33 rfl (Nat.le_of_ble_eq_true rfl) rfl)))))))))))))))))))))))))))
set_option maxRecDepth 10000 in
theorem b58_35 {d : Nat} {l0 : Option sm_V} {l1 : Option sm_V} {l2 : Option sm_V} {l3 : Option sm_V} {x4 : Int} {l5 : Option sm_V} {Z : Nat → Nat → Int} {Rf : Nat → Nat → Option Nat} {K : Nat → Nat × Nat} {n z : Nat} {Q : Option sm_V → sm_S → Prop} : sm_wp d 58 35 [l0, l1, l2, l3, some (.inl x4), l5] [] (Z, Rf, K, n, z) Q = (if (4 : Int) ≤ wr x4 then sm_wp d 58 94 [l0, l1, l2, l3, some (.inl x4), l5] [] (Z, Rf, K, n, z) Q else sm_wp d 58 41 [l0, l1, l2, l3, some (.inl x4), l5] [] (Z, Rf, K, n, z) Q) := (w_iload t58_35 rfl rfl).trans ((w_iconst t58_37 rfl).trans (w_icge t58_38 rfl wl_4 rfl rfl))
set_option maxRecDepth 10000 in
theorem b58_41 {d : Nat} {l0 : Option sm_V} {r1 : Nat} {x2 : Int} {l3 : Option sm_V} {x4 : Int} {l5 : Option sm_V} {Z : Nat → Nat → Int} {Rf : Nat → Nat → Option Nat} {K : Nat → Nat × Nat} {n z : Nat} {Q : Option sm_V → sm_S → Prop} : sm_wp (d + 1) 58 41 [l0, some (.inr (some r1)), some (.inl x2), l3, some (.inl x4), l5] [] (Z, Rf, K, n, z) Q = (¬ (10 : Int) = 0 ∧ sm_rd (K 1000000) (wr x4) ∧ ¬ (10 : Int) = 0 ∧ sm_rd (K 1000001) (wr x4) ∧ (K r1).1 = 1 ∧ sm_call d 9 [.inr (some r1), .inl ((sm_rem x2 10) + (Z 1000000 ((wr x4).toNat))), .inl ((sm_div x2 10) + (Z 1000001 ((wr x4).toNat)))] (Z, Rf, K, n, z) (sm_cont (d + 1) 58 67 [l0, some (.inr (some r1)), some (.inl x2), l3, some (.inl x4), l5] [] Q)) := (w_aload_n t58_41 rfl rfl).trans ((w_iload_n t58_42 rfl rfl).trans ((w_bipush t58_43 rfl).trans ((w_irem t58_45 rfl wl_10).trans (congrArg (And _) ((w_gs1 t58_46 rfl).trans ((w_iload t58_49 rfl rfl).trans ((w_iald t58_51 rfl rfl).trans (congrArg (And _) ((w_iadd t58_52 rfl).trans ((w_iload_n t58_53 rfl rfl).trans ((w_bipush t58_54 rfl).trans ((w_idiv t58_56 rfl wl_10).trans (congrArg (And _) ((w_gs1 t58_57 rfl).trans ((w_iload t58_60 rfl rfl).trans ((w_iald t58_62 rfl rfl).trans (congrArg (And _) ((w_iadd t58_63 rfl).trans (w_callV t58_64 rfl rfl rfl rfl (Nat.le_of_ble_eq_true rfl) (Nat.le_of_ble_eq_true rfl) rfl (by decide))))))))))))))))))))
set_option maxRecDepth 10000 in
theorem b58_67 {d : Nat} {l0 : Option sm_V} {l1 : Option sm_V} {l2 : Option sm_V} {l3 : Option sm_V} {l4 : Option sm_V} {l5 : Option sm_V} {s0 : Int} {Z : Nat → Nat → Int} {Rf : Nat → Nat → Option Nat} {K : Nat → Nat × Nat} {n z : Nat} {Q : Option sm_V → sm_S → Prop} : sm_wp d 58 67 [l0, l1, l2, l3, l4, l5] [.inl s0] (Z, Rf, K, n, z) Q = (if wr s0 = (-1 : Int) then sm_wp d 58 88 [l0, l1, l2, l3, l4, some (.inl s0)] [] (Z, Rf, K, n, z) Q else sm_wp d 58 75 [l0, l1, l2, l3, l4, some (.inl s0)] [] (Z, Rf, K, n, z) Q) := (w_istore t58_67 rfl (Nat.le_of_ble_eq_true rfl) rfl).trans ((w_iload t58_69 rfl rfl).trans ((w_iconst t58_71 rfl).trans (w_iceq t58_72 rfl wl_m1 rfl rfl)))
set_option maxRecDepth 10000 in
theorem b58_75 {d : Nat} {r0 : Nat} {l1 : Option sm_V} {l2 : Option sm_V} {x3 : Int} {l4 : Option sm_V} {x5 : Int} {Z : Nat → Nat → Int} {Rf : Nat → Nat → Option Nat} {K : Nat → Nat × Nat} {n z : Nat} {Q : Option sm_V → sm_S → Prop} : sm_wp d 58 75 [some (.inr (some r0)), l1, l2, some (.inl x3), l4, some (.inl x5)] [] (Z, Rf, K, n, z) Q = ((K r0).1 = 6 ∧ (Rf r0 0).isSome = true ∧ sm_rd (K (((Rf r0 0).getD 0))) (wr x5) ∧ sm_wt (K (((Rf r0 0).getD 0))) (wr x5) ∧ sm_wp d 58 88 [some (.inr (some r0)), l1, l2, some (.inl x3), l4, some (.inl x5)] [] (sm_u Z (((Rf r0 0).getD 0)) ((wr x5).toNat) ((Z (((Rf r0 0).getD 0)) ((wr x5).toNat)) + (x3 * 5)), Rf, K, n, z) Q) := (w_aload_n t58_75 rfl rfl).trans ((w_getR t58_76 rfl (by decide)).trans (congrArg (And _) (congrArg (And _) ((w_iload t58_79 rfl rfl).trans ((w_dup2 t58_81 rfl).trans ((w_iald t58_82 rfl rfl).trans (congrArg (And _) ((w_iload_n t58_83 rfl rfl).trans ((w_iconst t58_84 rfl).trans ((w_imul t58_85 rfl).trans ((w_iadd t58_86 rfl).trans ((w_iast t58_87 rfl rfl).trans (congrArg (And _) rfl)))))))))))))
set_option maxRecDepth 10000 in
theorem b58_88 {d : Nat} {l0 : Option sm_V} {l1 : Option sm_V} {l2 : Option sm_V} {l3 : Option sm_V} {x4 : Int} {l5 : Option sm_V} {Z : Nat → Nat → Int} {Rf : Nat → Nat → Option Nat} {K : Nat → Nat × Nat} {n z : Nat} {Q : Option sm_V → sm_S → Prop} : sm_wp d 58 88 [l0, l1, l2, l3, some (.inl x4), l5] [] (Z, Rf, K, n, z) Q = (sm_wp d 58 35 [l0, l1, l2, l3, some (.inl (x4 + 1)), l5] [] (Z, Rf, K, n, z) Q) := (w_iinc t58_88 rfl rfl (Nat.le_of_ble_eq_true rfl) rfl).trans (w_goto t58_91 rfl)
set_option maxRecDepth 10000 in
theorem b58_94 {d : Nat} {l0 : Option sm_V} {l1 : Option sm_V} {l2 : Option sm_V} {l3 : Option sm_V} {l4 : Option sm_V} {l5 : Option sm_V} {Z : Nat → Nat → Int} {Rf : Nat → Nat → Option Nat} {K : Nat → Nat × Nat} {n z : Nat} {Q : Option sm_V → sm_S → Prop} : sm_wp d 58 94 [l0, l1, l2, l3, l4, l5] [] (Z, Rf, K, n, z) Q = (Q none (Z, Rf, K, n, z)) := w_vret t58_94
theorem t59_0 : sm_at 59 0 = some (1, .aload_n 0, 0, 0, 0) := rfl
theorem t59_1 : sm_at 59 1 = some (3, .invokespecial 3, 1001, 1, 0) := rfl
theorem t59_4 : sm_at 59 4 = some (1, .aload_n 0, 0, 0, 0) := rfl
theorem t59_5 : sm_at 59 5 = some (3, .new 9, 6, 0, 0) := rfl
theorem t59_8 : sm_at 59 8 = some (1, .dup, 0, 0, 0) := rfl
theorem t59_9 : sm_at 59 9 = some (3, .invokespecial 11, 56, 1, 0) := rfl
theorem t59_12 : sm_at 59 12 = some (3, .putfield 12, 7, 0, 0) := rfl
theorem t59_15 : sm_at 59 15 = some (1, .aload_n 0, 0, 0, 0) := rfl
theorem t59_16 : sm_at 59 16 = some (3, .new 18, 0, 0, 0) := rfl
theorem t59_19 : sm_at 59 19 = some (1, .dup, 0, 0, 0) := rfl
theorem t59_20 : sm_at 59 20 = some (3, .invokespecial 20, 0, 1, 0) := rfl
theorem t59_23 : sm_at 59 23 = some (3, .putfield 21, 7, 1, 0) := rfl
theorem t59_26 : sm_at 59 26 = some (1, .aload_n 0, 0, 0, 0) := rfl
theorem t59_27 : sm_at 59 27 = some (3, .new 25, 5, 0, 0) := rfl
theorem t59_30 : sm_at 59 30 = some (1, .dup, 0, 0, 0) := rfl
theorem t59_31 : sm_at 59 31 = some (2, .bipush 8, 0, 0, 0) := rfl
theorem t59_33 : sm_at 59 33 = some (3, .invokespecial 27, 51, 2, 0) := rfl
theorem t59_36 : sm_at 59 36 = some (3, .putfield 30, 7, 2, 0) := rfl
theorem t59_39 : sm_at 59 39 = some (1, .aload_n 0, 0, 0, 0) := rfl
theorem t59_40 : sm_at 59 40 = some (2, .bipush 9, 0, 0, 0) := rfl
theorem t59_42 : sm_at 59 42 = some (2, .newarray .int, 0, 0, 0) := rfl
theorem t59_44 : sm_at 59 44 = some (3, .putfield 34, 7, 3, 0) := rfl
theorem t59_47 : sm_at 59 47 = some (1, .aload_n 0, 0, 0, 0) := rfl
theorem t59_48 : sm_at 59 48 = some (2, .bipush 32, 0, 0, 0) := rfl
theorem t59_50 : sm_at 59 50 = some (2, .newarray .int, 0, 0, 0) := rfl
theorem t59_52 : sm_at 59 52 = some (3, .putfield 38, 7, 4, 0) := rfl
theorem t59_55 : sm_at 59 55 = some (1, .return_, 0, 0, 0) := rfl
set_option maxRecDepth 10000 in
theorem b59_0 {d : Nat} {r0 : Nat} {Z : Nat → Nat → Int} {Rf : Nat → Nat → Option Nat} {K : Nat → Nat × Nat} {n z : Nat} {Q : Option sm_V → sm_S → Prop} : sm_wp (d + 1) 59 0 [some (.inr (some r0))] [] (Z, Rf, K, n, z) Q = (n < 1000000 ∧ ((sm_k K n (6, 2)) n).1 = 6 ∧ sm_call d 56 [.inr (some n)] (sm_r Z n (fun _ => 0), sm_r Rf n (fun _ => none), sm_k K n (6, 2), n + 1, z + 2) (sm_cont (d + 1) 59 12 [some (.inr (some r0))] [.inr (some n), .inr (some r0)] Q)) := (w_aload_n t59_0 rfl rfl).trans ((w_oinit t59_1 rfl (Nat.le_of_ble_eq_true rfl)).trans ((w_aload_n t59_4 rfl rfl).trans ((w_new t59_5 rfl (by decide) rfl).trans (congrArg (And _) ((w_dup t59_8 rfl).trans (w_callV t59_9 rfl rfl rfl rfl (Nat.le_of_ble_eq_true rfl) (Nat.le_of_ble_eq_true rfl) rfl (by decide)))))))
set_option maxRecDepth 10000 in
theorem b59_12 {d : Nat} {q0 : Option Nat} {rs0 : Nat} {qs1 : Option Nat} {Z : Nat → Nat → Int} {Rf : Nat → Nat → Option Nat} {K : Nat → Nat × Nat} {n z : Nat} {Q : Option sm_V → sm_S → Prop} : sm_wp (d + 1) 59 12 [some (.inr q0)] [.inr qs1, .inr (some rs0)] (Z, Rf, K, n, z) Q = ((K rs0).1 = 7 ∧ n < 1000000 ∧ ((sm_k K n (0, 4)) n).1 = 0 ∧ sm_call d 0 [.inr (some n)] (sm_r Z n (fun _ => 0), sm_r (sm_u Rf rs0 0 qs1) n (fun _ => none), sm_k K n (0, 4), n + 1, z + 4) (sm_cont (d + 1) 59 23 [some (.inr q0)] [.inr (some n), .inr q0] Q)) := (w_putR t59_12 rfl (by decide)).trans (congrArg (And _) ((w_aload_n t59_15 rfl rfl).trans ((w_new t59_16 rfl (by decide) rfl).trans (congrArg (And _) ((w_dup t59_19 rfl).trans (w_callV t59_20 rfl rfl rfl rfl (Nat.le_of_ble_eq_true rfl) (Nat.le_of_ble_eq_true rfl) rfl (by decide)))))))
set_option maxRecDepth 10000 in
theorem b59_23 {d : Nat} {q0 : Option Nat} {rs0 : Nat} {qs1 : Option Nat} {Z : Nat → Nat → Int} {Rf : Nat → Nat → Option Nat} {K : Nat → Nat × Nat} {n z : Nat} {Q : Option sm_V → sm_S → Prop} : sm_wp (d + 1) 59 23 [some (.inr q0)] [.inr qs1, .inr (some rs0)] (Z, Rf, K, n, z) Q = ((K rs0).1 = 7 ∧ n < 1000000 ∧ ((sm_k K n (5, 3)) n).1 = 5 ∧ sm_call d 51 [.inr (some n), .inl 8] (sm_r Z n (fun _ => 0), sm_r (sm_u Rf rs0 1 qs1) n (fun _ => none), sm_k K n (5, 3), n + 1, z + 3) (sm_cont (d + 1) 59 36 [some (.inr q0)] [.inr (some n), .inr q0] Q)) := (w_putR t59_23 rfl (by decide)).trans (congrArg (And _) ((w_aload_n t59_26 rfl rfl).trans ((w_new t59_27 rfl (by decide) rfl).trans (congrArg (And _) ((w_dup t59_30 rfl).trans ((w_bipush t59_31 rfl).trans (w_callV t59_33 rfl rfl rfl rfl (Nat.le_of_ble_eq_true rfl) (Nat.le_of_ble_eq_true rfl) rfl (by decide))))))))
set_option maxRecDepth 10000 in
theorem b59_36 {d : Nat} {r0 : Nat} {rs0 : Nat} {qs1 : Option Nat} {Z : Nat → Nat → Int} {Rf : Nat → Nat → Option Nat} {K : Nat → Nat × Nat} {n z : Nat} {Q : Option sm_V → sm_S → Prop} : sm_wp d 59 36 [some (.inr (some r0))] [.inr qs1, .inr (some rs0)] (Z, Rf, K, n, z) Q = ((K rs0).1 = 7 ∧ (n < 1000000 ∧ 0 ≤ (9 : Int) ∧ (9 : Int) ≤ 65536) ∧ ((sm_k K n (100, 9)) r0).1 = 7 ∧ (n + 1 < 1000000 ∧ 0 ≤ (32 : Int) ∧ (32 : Int) ≤ 65536) ∧ ((sm_k (sm_k K n (100, 9)) (n + 1) (100, 32)) r0).1 = 7 ∧ Q none (sm_r (sm_r Z n (fun _ => 0)) (n + 1) (fun _ => 0), sm_u (sm_r (sm_u (sm_r (sm_u Rf rs0 2 qs1) n (fun _ => none)) r0 3 (some n)) (n + 1) (fun _ => none)) r0 4 (some (n + 1)), sm_k (sm_k K n (100, 9)) (n + 1) (100, 32), n + 1 + 1, z + 9 + 32)) := (w_putR t59_36 rfl (by decide)).trans (congrArg (And _) ((w_aload_n t59_39 rfl rfl).trans ((w_bipush t59_40 rfl).trans ((w_newa t59_42 rfl wl_9).trans (congrArg (And _) ((w_putR t59_44 rfl (by decide)).trans (congrArg (And _) ((w_aload_n t59_47 rfl rfl).trans ((w_bipush t59_48 rfl).trans ((w_newa t59_50 rfl wl_32).trans (congrArg (And _) ((w_putR t59_52 rfl (by decide)).trans (congrArg (And _) (w_vret t59_55))))))))))))))
theorem t60_0 : sm_at 60 0 = some (1, .aload_n 2, 0, 0, 0) := rfl
theorem t60_1 : sm_at 60 1 = some (3, .invokevirtual 41, 76, 1, 0) := rfl
theorem t60_4 : sm_at 60 4 = some (1, .aload_n 0, 0, 0, 0) := rfl
theorem t60_5 : sm_at 60 5 = some (3, .getfield 30, 7, 2, 0) := rfl
theorem t60_8 : sm_at 60 8 = some (1, .iconst 0, 0, 0, 0) := rfl
theorem t60_9 : sm_at 60 9 = some (3, .putfield 46, 5, 2, 0) := rfl
theorem t60_12 : sm_at 60 12 = some (1, .iconst 0, 0, 0, 0) := rfl
theorem t60_13 : sm_at 60 13 = some (1, .istore_n 3, 0, 0, 0) := rfl
theorem t60_14 : sm_at 60 14 = some (1, .iload_n 3, 0, 0, 0) := rfl
theorem t60_15 : sm_at 60 15 = some (1, .aload_n 1, 0, 0, 0) := rfl
theorem t60_16 : sm_at 60 16 = some (3, .getfield 50, 1, 13, 0) := rfl
theorem t60_19 : sm_at 60 19 = some (3, .getfield 46, 5, 2, 0) := rfl
theorem t60_22 : sm_at 60 22 = some (3, .if_icmp .ge 16, 0, 0, 0) := rfl
theorem t60_25 : sm_at 60 25 = some (1, .aload_n 0, 0, 0, 0) := rfl
theorem t60_26 : sm_at 60 26 = some (1, .aload_n 1, 0, 0, 0) := rfl
theorem t60_27 : sm_at 60 27 = some (1, .aload_n 2, 0, 0, 0) := rfl
theorem t60_28 : sm_at 60 28 = some (1, .iload_n 3, 0, 0, 0) := rfl
theorem t60_29 : sm_at 60 29 = some (3, .invokevirtual 55, 61, 4, 0) := rfl
theorem t60_32 : sm_at 60 32 = some (3, .iinc 3 1, 0, 0, 0) := rfl
theorem t60_35 : sm_at 60 35 = some (3, .goto (-21), 0, 0, 0) := rfl
theorem t60_38 : sm_at 60 38 = some (1, .return_, 0, 0, 0) := rfl
set_option maxRecDepth 10000 in
theorem b60_0 {d : Nat} {l0 : Option sm_V} {l1 : Option sm_V} {r2 : Nat} {l3 : Option sm_V} {Z : Nat → Nat → Int} {Rf : Nat → Nat → Option Nat} {K : Nat → Nat × Nat} {n z : Nat} {Q : Option sm_V → sm_S → Prop} : sm_wp (d + 1) 60 0 [l0, l1, some (.inr (some r2)), l3] [] (Z, Rf, K, n, z) Q = ((K r2).1 = 9 ∧ sm_call d 76 [.inr (some r2)] (Z, Rf, K, n, z) (sm_cont (d + 1) 60 4 [l0, l1, some (.inr (some r2)), l3] [] Q)) := (w_aload_n t60_0 rfl rfl).trans (w_callV t60_1 rfl rfl rfl rfl (Nat.le_of_ble_eq_true rfl) (Nat.le_of_ble_eq_true rfl) rfl (by decide))
set_option maxRecDepth 10000 in
theorem b60_4 {d : Nat} {r0 : Nat} {l1 : Option sm_V} {l2 : Option sm_V} {l3 : Option sm_V} {Z : Nat → Nat → Int} {Rf : Nat → Nat → Option Nat} {K : Nat → Nat × Nat} {n z : Nat} {Q : Option sm_V → sm_S → Prop} : sm_wp d 60 4 [some (.inr (some r0)), l1, l2, l3] [] (Z, Rf, K, n, z) Q = ((K r0).1 = 7 ∧ (Rf r0 2).isSome = true ∧ (K (((Rf r0 2).getD 0))).1 = 5 ∧ sm_wp d 60 14 [some (.inr (some r0)), l1, l2, some (.inl 0)] [] (sm_u Z (((Rf r0 2).getD 0)) 2 0, Rf, K, n, z) Q) := (w_aload_n t60_4 rfl rfl).trans ((w_getR t60_5 rfl (by decide)).trans (congrArg (And _) (congrArg (And _) ((w_iconst t60_8 rfl).trans ((w_putI t60_9 rfl (by decide)).trans (congrArg (And _) ((w_iconst t60_12 rfl).trans (w_istore_n t60_13 rfl (Nat.le_of_ble_eq_true rfl) rfl))))))))
set_option maxRecDepth 10000 in
theorem b60_14 {d : Nat} {l0 : Option sm_V} {r1 : Nat} {l2 : Option sm_V} {x3 : Int} {Z : Nat → Nat → Int} {Rf : Nat → Nat → Option Nat} {K : Nat → Nat × Nat} {n z : Nat} {Q : Option sm_V → sm_S → Prop} : sm_wp d 60 14 [l0, some (.inr (some r1)), l2, some (.inl x3)] [] (Z, Rf, K, n, z) Q = ((K r1).1 = 1 ∧ (Rf r1 13).isSome = true ∧ (K (((Rf r1 13).getD 0))).1 = 5 ∧ (if wr (Z (((Rf r1 13).getD 0)) 2) ≤ wr x3 then sm_wp d 60 38 [l0, some (.inr (some r1)), l2, some (.inl x3)] [] (Z, Rf, K, n, z) Q else sm_wp d 60 25 [l0, some (.inr (some r1)), l2, some (.inl x3)] [] (Z, Rf, K, n, z) Q)) := (w_iload_n t60_14 rfl rfl).trans ((w_aload_n t60_15 rfl rfl).trans ((w_getR t60_16 rfl (by decide)).trans (congrArg (And _) (congrArg (And _) ((w_getI t60_19 rfl (by decide)).trans (congrArg (And _) (w_icge t60_22 rfl rfl rfl rfl)))))))
set_option maxRecDepth 10000 in
theorem b60_25 {d : Nat} {r0 : Nat} {q1 : Option Nat} {q2 : Option Nat} {x3 : Int} {Z : Nat → Nat → Int} {Rf : Nat → Nat → Option Nat} {K : Nat → Nat × Nat} {n z : Nat} {Q : Option sm_V → sm_S → Prop} : sm_wp (d + 1) 60 25 [some (.inr (some r0)), some (.inr q1), some (.inr q2), some (.inl x3)] [] (Z, Rf, K, n, z) Q = ((K r0).1 = 7 ∧ sm_call d 61 [.inr (some r0), .inr q1, .inr q2, .inl x3] (Z, Rf, K, n, z) (sm_cont (d + 1) 60 32 [some (.inr (some r0)), some (.inr q1), some (.inr q2), some (.inl x3)] [] Q)) := (w_aload_n t60_25 rfl rfl).trans ((w_aload_n t60_26 rfl rfl).trans ((w_aload_n t60_27 rfl rfl).trans ((w_iload_n t60_28 rfl rfl).trans (w_callV t60_29 rfl rfl rfl rfl (Nat.le_of_ble_eq_true rfl) (Nat.le_of_ble_eq_true rfl) rfl (by decide)))))
set_option maxRecDepth 10000 in
theorem b60_32 {d : Nat} {l0 : Option sm_V} {l1 : Option sm_V} {l2 : Option sm_V} {x3 : Int} {Z : Nat → Nat → Int} {Rf : Nat → Nat → Option Nat} {K : Nat → Nat × Nat} {n z : Nat} {Q : Option sm_V → sm_S → Prop} : sm_wp d 60 32 [l0, l1, l2, some (.inl x3)] [] (Z, Rf, K, n, z) Q = (sm_wp d 60 14 [l0, l1, l2, some (.inl (x3 + 1))] [] (Z, Rf, K, n, z) Q) := (w_iinc t60_32 rfl rfl (Nat.le_of_ble_eq_true rfl) rfl).trans (w_goto t60_35 rfl)
set_option maxRecDepth 10000 in
theorem b60_38 {d : Nat} {l0 : Option sm_V} {l1 : Option sm_V} {l2 : Option sm_V} {l3 : Option sm_V} {Z : Nat → Nat → Int} {Rf : Nat → Nat → Option Nat} {K : Nat → Nat × Nat} {n z : Nat} {Q : Option sm_V → sm_S → Prop} : sm_wp d 60 38 [l0, l1, l2, l3] [] (Z, Rf, K, n, z) Q = (Q none (Z, Rf, K, n, z)) := w_vret t60_38
theorem t61_0 : sm_at 61 0 = some (1, .aload_n 1, 0, 0, 0) := rfl
theorem t61_1 : sm_at 61 1 = some (1, .iload_n 3, 0, 0, 0) := rfl
theorem t61_2 : sm_at 61 2 = some (3, .invokevirtual 59, 16, 2, 0) := rfl
theorem t61_5 : sm_at 61 5 = some (2, .astore 4, 0, 0, 0) := rfl
theorem t61_7 : sm_at 61 7 = some (1, .aload_n 1, 0, 0, 0) := rfl
theorem t61_8 : sm_at 61 8 = some (3, .getfield 50, 1, 13, 0) := rfl
theorem t61_11 : sm_at 61 11 = some (1, .iload_n 3, 0, 0, 0) := rfl
theorem t61_12 : sm_at 61 12 = some (1, .iconst 3, 0, 0, 0) := rfl
theorem t61_13 : sm_at 61 13 = some (3, .invokevirtual 63, 54, 3, 0) := rfl
theorem t61_16 : sm_at 61 16 = some (2, .istore 5, 0, 0, 0) := rfl
theorem t61_18 : sm_at 61 18 = some (1, .aload_n 0, 0, 0, 0) := rfl
theorem t61_19 : sm_at 61 19 = some (1, .aload_n 1, 0, 0, 0) := rfl
theorem t61_20 : sm_at 61 20 = some (3, .getfield 50, 1, 13, 0) := rfl
theorem t61_23 : sm_at 61 23 = some (1, .iload_n 3, 0, 0, 0) := rfl
theorem t61_24 : sm_at 61 24 = some (1, .iconst 0, 0, 0, 0) := rfl
theorem t61_25 : sm_at 61 25 = some (3, .invokevirtual 63, 54, 3, 0) := rfl
theorem t61_28 : sm_at 61 28 = some (3, .putfield 67, 7, 5, 0) := rfl
theorem t61_31 : sm_at 61 31 = some (1, .aload_n 0, 0, 0, 0) := rfl
theorem t61_32 : sm_at 61 32 = some (1, .aload_n 1, 0, 0, 0) := rfl
theorem t61_33 : sm_at 61 33 = some (3, .getfield 50, 1, 13, 0) := rfl
theorem t61_36 : sm_at 61 36 = some (1, .iload_n 3, 0, 0, 0) := rfl
theorem t61_37 : sm_at 61 37 = some (1, .iconst 1, 0, 0, 0) := rfl
theorem t61_38 : sm_at 61 38 = some (3, .invokevirtual 63, 54, 3, 0) := rfl
theorem t61_41 : sm_at 61 41 = some (3, .putfield 70, 7, 6, 0) := rfl
theorem t61_44 : sm_at 61 44 = some (1, .aload_n 0, 0, 0, 0) := rfl
theorem t61_45 : sm_at 61 45 = some (1, .aload_n 1, 0, 0, 0) := rfl
theorem t61_46 : sm_at 61 46 = some (3, .getfield 50, 1, 13, 0) := rfl
theorem t61_49 : sm_at 61 49 = some (1, .iload_n 3, 0, 0, 0) := rfl
theorem t61_50 : sm_at 61 50 = some (1, .iconst 2, 0, 0, 0) := rfl
theorem t61_51 : sm_at 61 51 = some (3, .invokevirtual 63, 54, 3, 0) := rfl
theorem t61_54 : sm_at 61 54 = some (1, .iconst 3, 0, 0, 0) := rfl
theorem t61_55 : sm_at 61 55 = some (1, .iand, 0, 0, 0) := rfl
theorem t61_56 : sm_at 61 56 = some (3, .putfield 73, 7, 7, 0) := rfl
theorem t61_59 : sm_at 61 59 = some (1, .iconst 1, 0, 0, 0) := rfl
theorem t61_60 : sm_at 61 60 = some (2, .istore 6, 0, 0, 0) := rfl
theorem t61_62 : sm_at 61 62 = some (1, .iconst 0, 0, 0, 0) := rfl
theorem t61_63 : sm_at 61 63 = some (2, .istore 7, 0, 0, 0) := rfl
theorem t61_65 : sm_at 61 65 = some (2, .iload 6, 0, 0, 0) := rfl
theorem t61_67 : sm_at 61 67 = some (3, .ifCond .eq 211, 0, 0, 0) := rfl
theorem t61_70 : sm_at 61 70 = some (2, .iload 7, 0, 0, 0) := rfl
theorem t61_72 : sm_at 61 72 = some (2, .iload 5, 0, 0, 0) := rfl
theorem t61_74 : sm_at 61 74 = some (3, .if_icmp .ge 204, 0, 0, 0) := rfl
theorem t61_77 : sm_at 61 77 = some (1, .aload_n 0, 0, 0, 0) := rfl
theorem t61_78 : sm_at 61 78 = some (1, .aload_n 1, 0, 0, 0) := rfl
theorem t61_79 : sm_at 61 79 = some (1, .aload_n 2, 0, 0, 0) := rfl
theorem t61_80 : sm_at 61 80 = some (3, .invokevirtual 76, 62, 3, 0) := rfl
theorem t61_83 : sm_at 61 83 = some (1, .aload_n 0, 0, 0, 0) := rfl
theorem t61_84 : sm_at 61 84 = some (3, .getfield 34, 7, 3, 0) := rfl
theorem t61_87 : sm_at 61 87 = some (2, .bipush 6, 0, 0, 0) := rfl
theorem t61_89 : sm_at 61 89 = some (2, .iload 7, 0, 0, 0) := rfl
theorem t61_91 : sm_at 61 91 = some (1, .iastore, 0, 0, 0) := rfl
theorem t61_92 : sm_at 61 92 = some (1, .aload_n 0, 0, 0, 0) := rfl
theorem t61_93 : sm_at 61 93 = some (3, .getfield 34, 7, 3, 0) := rfl
theorem t61_96 : sm_at 61 96 = some (2, .bipush 7, 0, 0, 0) := rfl
theorem t61_98 : sm_at 61 98 = some (2, .iload 5, 0, 0, 0) := rfl
theorem t61_100 : sm_at 61 100 = some (2, .iload 7, 0, 0, 0) := rfl
theorem t61_102 : sm_at 61 102 = some (1, .isub, 0, 0, 0) := rfl
theorem t61_103 : sm_at 61 103 = some (1, .iastore, 0, 0, 0) := rfl
theorem t61_104 : sm_at 61 104 = some (1, .aload_n 0, 0, 0, 0) := rfl
theorem t61_105 : sm_at 61 105 = some (3, .getfield 34, 7, 3, 0) := rfl
set_option maxRecDepth 100000 in
theorem t61_108 : sm_at 61 108 = some (2, .bipush 8, 0, 0, 0) := rfl
set_option maxRecDepth 100000 in
theorem t61_110 : sm_at 61 110 = some (1, .iload_n 3, 0, 0, 0) := rfl
set_option maxRecDepth 100000 in
theorem t61_111 : sm_at 61 111 = some (1, .iastore, 0, 0, 0) := rfl
set_option maxRecDepth 100000 in
theorem t61_112 : sm_at 61 112 = some (2, .aload 4, 0, 0, 0) := rfl
set_option maxRecDepth 100000 in
theorem t61_114 : sm_at 61 114 = some (1, .aload_n 0, 0, 0, 0) := rfl
set_option maxRecDepth 100000 in
theorem t61_115 : sm_at 61 115 = some (3, .getfield 34, 7, 3, 0) := rfl
set_option maxRecDepth 100000 in
theorem t61_118 : sm_at 61 118 = some (1, .aload_n 0, 0, 0, 0) := rfl
set_option maxRecDepth 100000 in
theorem t61_119 : sm_at 61 119 = some (3, .getfield 38, 7, 4, 0) := rfl
set_option maxRecDepth 100000 in
theorem t61_122 : sm_at 61 122 = some (3, .invokevirtual 80, 22, 3, 0) := rfl
set_option maxRecDepth 100000 in
theorem t61_125 : sm_at 61 125 = some (2, .istore 8, 0, 0, 0) := rfl
set_option maxRecDepth 100000 in
theorem t61_127 : sm_at 61 127 = some (1, .aload_n 0, 0, 0, 0) := rfl
set_option maxRecDepth 100000 in
theorem t61_128 : sm_at 61 128 = some (1, .aload_n 0, 0, 0, 0) := rfl
set_option maxRecDepth 100000 in
theorem t61_129 : sm_at 61 129 = some (2, .iload 8, 0, 0, 0) := rfl
set_option maxRecDepth 100000 in
theorem t61_131 : sm_at 61 131 = some (1, .aload_n 1, 0, 0, 0) := rfl
set_option maxRecDepth 100000 in
theorem t61_132 : sm_at 61 132 = some (1, .aload_n 0, 0, 0, 0) := rfl
set_option maxRecDepth 100000 in
theorem t61_133 : sm_at 61 133 = some (3, .getfield 67, 7, 5, 0) := rfl
set_option maxRecDepth 100000 in
theorem t61_136 : sm_at 61 136 = some (1, .aload_n 0, 0, 0, 0) := rfl
set_option maxRecDepth 100000 in
theorem t61_137 : sm_at 61 137 = some (3, .getfield 70, 7, 6, 0) := rfl
set_option maxRecDepth 100000 in
theorem t61_140 : sm_at 61 140 = some (3, .invokevirtual 86, 13, 3, 0) := rfl
set_option maxRecDepth 100000 in
theorem t61_143 : sm_at 61 143 = some (3, .invokevirtual 90, 63, 3, 0) := rfl
set_option maxRecDepth 100000 in
theorem t61_146 : sm_at 61 146 = some (3, .putfield 73, 7, 7, 0) := rfl
set_option maxRecDepth 100000 in
theorem t61_149 : sm_at 61 149 = some (1, .aload_n 1, 0, 0, 0) := rfl
set_option maxRecDepth 100000 in
theorem t61_150 : sm_at 61 150 = some (1, .aload_n 0, 0, 0, 0) := rfl
set_option maxRecDepth 100000 in
theorem t61_151 : sm_at 61 151 = some (3, .getfield 67, 7, 5, 0) := rfl
set_option maxRecDepth 100000 in
theorem t61_154 : sm_at 61 154 = some (1, .aload_n 0, 0, 0, 0) := rfl
set_option maxRecDepth 100000 in
theorem t61_155 : sm_at 61 155 = some (3, .getfield 70, 7, 6, 0) := rfl
set_option maxRecDepth 100000 in
theorem t61_158 : sm_at 61 158 = some (1, .aload_n 0, 0, 0, 0) := rfl
set_option maxRecDepth 100000 in
theorem t61_159 : sm_at 61 159 = some (3, .getfield 73, 7, 7, 0) := rfl
set_option maxRecDepth 100000 in
theorem t61_162 : sm_at 61 162 = some (3, .invokevirtual 94, 11, 4, 0) := rfl
set_option maxRecDepth 100000 in
theorem t61_165 : sm_at 61 165 = some (2, .istore 9, 0, 0, 0) := rfl
set_option maxRecDepth 100000 in
theorem t61_167 : sm_at 61 167 = some (2, .iload 8, 0, 0, 0) := rfl
set_option maxRecDepth 100000 in
theorem t61_169 : sm_at 61 169 = some (1, .iconst 4, 0, 0, 0) := rfl
set_option maxRecDepth 100000 in
theorem t61_170 : sm_at 61 170 = some (3, .if_icmp .eq 13, 0, 0, 0) := rfl
set_option maxRecDepth 100000 in
theorem t61_173 : sm_at 61 173 = some (2, .iload 9, 0, 0, 0) := rfl
set_option maxRecDepth 100000 in
theorem t61_175 : sm_at 61 175 = some (1, .iconst (-1), 0, 0, 0) := rfl
set_option maxRecDepth 100000 in
theorem t61_176 : sm_at 61 176 = some (3, .if_icmp .eq 7, 0, 0, 0) := rfl
set_option maxRecDepth 100000 in
theorem t61_179 : sm_at 61 179 = some (1, .iconst 1, 0, 0, 0) := rfl
set_option maxRecDepth 100000 in
theorem t61_180 : sm_at 61 180 = some (3, .goto 4, 0, 0, 0) := rfl
set_option maxRecDepth 100000 in
theorem t61_183 : sm_at 61 183 = some (1, .iconst 0, 0, 0, 0) := rfl
set_option maxRecDepth 100000 in
theorem t61_184 : sm_at 61 184 = some (2, .istore 6, 0, 0, 0) := rfl
set_option maxRecDepth 100000 in
theorem t61_186 : sm_at 61 186 = some (2, .iload 6, 0, 0, 0) := rfl
set_option maxRecDepth 100000 in
theorem t61_188 : sm_at 61 188 = some (3, .ifCond .eq 87, 0, 0, 0) := rfl
set_option maxRecDepth 100000 in
theorem t61_191 : sm_at 61 191 = some (1, .aload_n 2, 0, 0, 0) := rfl
set_option maxRecDepth 100000 in
theorem t61_192 : sm_at 61 192 = some (2, .iload 9, 0, 0, 0) := rfl
set_option maxRecDepth 100000 in
theorem t61_194 : sm_at 61 194 = some (1, .iload_n 3, 0, 0, 0) := rfl
set_option maxRecDepth 100000 in
theorem t61_195 : sm_at 61 195 = some (2, .iload 7, 0, 0, 0) := rfl
set_option maxRecDepth 100000 in
theorem t61_197 : sm_at 61 197 = some (3, .invokevirtual 98, 78, 4, 0) := rfl
set_option maxRecDepth 100000 in
theorem t61_200 : sm_at 61 200 = some (1, .aload_n 0, 0, 0, 0) := rfl
set_option maxRecDepth 100000 in
theorem t61_201 : sm_at 61 201 = some (1, .dup, 0, 0, 0) := rfl
set_option maxRecDepth 100000 in
theorem t61_202 : sm_at 61 202 = some (3, .getfield 67, 7, 5, 0) := rfl
set_option maxRecDepth 100000 in
theorem t61_205 : sm_at 61 205 = some (3, .getstatic 102, 1, 1000000, 0) := rfl
set_option maxRecDepth 100000 in
theorem t61_208 : sm_at 61 208 = some (1, .aload_n 0, 0, 0, 0) := rfl
set_option maxRecDepth 100000 in
theorem t61_209 : sm_at 61 209 = some (3, .getfield 73, 7, 7, 0) := rfl
set_option maxRecDepth 100000 in
theorem t61_212 : sm_at 61 212 = some (1, .iaload, 0, 0, 0) := rfl
set_option maxRecDepth 100000 in
theorem t61_213 : sm_at 61 213 = some (1, .iadd, 0, 0, 0) := rfl
set_option maxRecDepth 100000 in
theorem t61_214 : sm_at 61 214 = some (3, .putfield 67, 7, 5, 0) := rfl
set_option maxRecDepth 100000 in
theorem t61_217 : sm_at 61 217 = some (1, .aload_n 0, 0, 0, 0) := rfl
set_option maxRecDepth 100000 in
theorem t61_218 : sm_at 61 218 = some (1, .dup, 0, 0, 0) := rfl
set_option maxRecDepth 100000 in
theorem t61_219 : sm_at 61 219 = some (3, .getfield 70, 7, 6, 0) := rfl
set_option maxRecDepth 100000 in
theorem t61_222 : sm_at 61 222 = some (3, .getstatic 105, 1, 1000001, 0) := rfl
set_option maxRecDepth 100000 in
theorem t61_225 : sm_at 61 225 = some (1, .aload_n 0, 0, 0, 0) := rfl
set_option maxRecDepth 100000 in
theorem t61_226 : sm_at 61 226 = some (3, .getfield 73, 7, 7, 0) := rfl
set_option maxRecDepth 100000 in
theorem t61_229 : sm_at 61 229 = some (1, .iaload, 0, 0, 0) := rfl
set_option maxRecDepth 100000 in
theorem t61_230 : sm_at 61 230 = some (1, .iadd, 0, 0, 0) := rfl
set_option maxRecDepth 100000 in
theorem t61_231 : sm_at 61 231 = some (3, .putfield 70, 7, 6, 0) := rfl
set_option maxRecDepth 100000 in
theorem t61_234 : sm_at 61 234 = some (1, .aload_n 2, 0, 0, 0) := rfl
set_option maxRecDepth 100000 in
theorem t61_235 : sm_at 61 235 = some (1, .aload_n 1, 0, 0, 0) := rfl
set_option maxRecDepth 100000 in
theorem t61_236 : sm_at 61 236 = some (1, .iload_n 3, 0, 0, 0) := rfl
set_option maxRecDepth 100000 in
theorem t61_237 : sm_at 61 237 = some (1, .aload_n 0, 0, 0, 0) := rfl
set_option maxRecDepth 100000 in
theorem t61_238 : sm_at 61 238 = some (3, .getfield 67, 7, 5, 0) := rfl
set_option maxRecDepth 100000 in
theorem t61_241 : sm_at 61 241 = some (1, .aload_n 0, 0, 0, 0) := rfl
set_option maxRecDepth 100000 in
theorem t61_242 : sm_at 61 242 = some (3, .getfield 70, 7, 6, 0) := rfl
set_option maxRecDepth 100000 in
theorem t61_245 : sm_at 61 245 = some (2, .iload 7, 0, 0, 0) := rfl
set_option maxRecDepth 100000 in
theorem t61_247 : sm_at 61 247 = some (3, .invokevirtual 108, 79, 6, 0) := rfl
set_option maxRecDepth 100000 in
theorem t61_250 : sm_at 61 250 = some (1, .aload_n 1, 0, 0, 0) := rfl
set_option maxRecDepth 100000 in
theorem t61_251 : sm_at 61 251 = some (1, .aload_n 0, 0, 0, 0) := rfl
set_option maxRecDepth 100000 in
theorem t61_252 : sm_at 61 252 = some (3, .getfield 67, 7, 5, 0) := rfl
set_option maxRecDepth 100000 in
theorem t61_255 : sm_at 61 255 = some (1, .aload_n 0, 0, 0, 0) := rfl
set_option maxRecDepth 100000 in
theorem t61_256 : sm_at 61 256 = some (3, .getfield 70, 7, 6, 0) := rfl
set_option maxRecDepth 100000 in
theorem t61_259 : sm_at 61 259 = some (3, .invokevirtual 112, 14, 3, 0) := rfl
set_option maxRecDepth 100000 in
theorem t61_262 : sm_at 61 262 = some (3, .ifCond .ne 7, 0, 0, 0) := rfl
set_option maxRecDepth 100000 in
theorem t61_265 : sm_at 61 265 = some (1, .iconst 1, 0, 0, 0) := rfl
set_option maxRecDepth 100000 in
theorem t61_266 : sm_at 61 266 = some (3, .goto 4, 0, 0, 0) := rfl
set_option maxRecDepth 100000 in
theorem t61_269 : sm_at 61 269 = some (1, .iconst 0, 0, 0, 0) := rfl
set_option maxRecDepth 100000 in
theorem t61_270 : sm_at 61 270 = some (2, .istore 6, 0, 0, 0) := rfl
set_option maxRecDepth 100000 in
theorem t61_272 : sm_at 61 272 = some (3, .iinc 7 1, 0, 0, 0) := rfl
set_option maxRecDepth 100000 in
theorem t61_275 : sm_at 61 275 = some (3, .goto (-210), 0, 0, 0) := rfl
set_option maxRecDepth 100000 in
theorem t61_278 : sm_at 61 278 = some (1, .aload_n 0, 0, 0, 0) := rfl
set_option maxRecDepth 100000 in
theorem t61_279 : sm_at 61 279 = some (3, .getfield 30, 7, 2, 0) := rfl
set_option maxRecDepth 100000 in
theorem t61_282 : sm_at 61 282 = some (1, .aload_n 0, 0, 0, 0) := rfl
set_option maxRecDepth 100000 in
theorem t61_283 : sm_at 61 283 = some (3, .getfield 67, 7, 5, 0) := rfl
set_option maxRecDepth 100000 in
theorem t61_286 : sm_at 61 286 = some (1, .aload_n 0, 0, 0, 0) := rfl
set_option maxRecDepth 100000 in
theorem t61_287 : sm_at 61 287 = some (3, .getfield 70, 7, 6, 0) := rfl
set_option maxRecDepth 100000 in
theorem t61_290 : sm_at 61 290 = some (2, .iload 7, 0, 0, 0) := rfl
set_option maxRecDepth 100000 in
theorem t61_292 : sm_at 61 292 = some (1, .aload_n 0, 0, 0, 0) := rfl
set_option maxRecDepth 100000 in
theorem t61_293 : sm_at 61 293 = some (3, .getfield 73, 7, 7, 0) := rfl
set_option maxRecDepth 100000 in
theorem t61_296 : sm_at 61 296 = some (1, .iconst 0, 0, 0, 0) := rfl
set_option maxRecDepth 100000 in
theorem t61_297 : sm_at 61 297 = some (3, .invokevirtual 115, 52, 6, 0) := rfl
set_option maxRecDepth 100000 in
theorem t61_300 : sm_at 61 300 = some (1, .pop, 0, 0, 0) := rfl
set_option maxRecDepth 100000 in
theorem t61_301 : sm_at 61 301 = some (1, .return_, 0, 0, 0) := rfl
set_option maxRecDepth 10000 in
theorem b61_0 {d : Nat} {l0 : Option sm_V} {r1 : Nat} {l2 : Option sm_V} {x3 : Int} {l4 : Option sm_V} {l5 : Option sm_V} {l6 : Option sm_V} {l7 : Option sm_V} {l8 : Option sm_V} {l9 : Option sm_V} {Z : Nat → Nat → Int} {Rf : Nat → Nat → Option Nat} {K : Nat → Nat × Nat} {n z : Nat} {Q : Option sm_V → sm_S → Prop} : sm_wp (d + 1) 61 0 [l0, some (.inr (some r1)), l2, some (.inl x3), l4, l5, l6, l7, l8, l9] [] (Z, Rf, K, n, z) Q = ((K r1).1 = 1 ∧ sm_call d 16 [.inr (some r1), .inl x3] (Z, Rf, K, n, z) (sm_cont (d + 1) 61 5 [l0, some (.inr (some r1)), l2, some (.inl x3), l4, l5, l6, l7, l8, l9] [] Q)) := (w_aload_n t61_0 rfl rfl).trans ((w_iload_n t61_1 rfl rfl).trans (w_callV t61_2 rfl rfl rfl rfl (Nat.le_of_ble_eq_true rfl) (Nat.le_of_ble_eq_true rfl) rfl (by decide)))
set_option maxRecDepth 10000 in
theorem b61_5 {d : Nat} {l0 : Option sm_V} {r1 : Nat} {l2 : Option sm_V} {x3 : Int} {l4 : Option sm_V} {l5 : Option sm_V} {l6 : Option sm_V} {l7 : Option sm_V} {l8 : Option sm_V} {l9 : Option sm_V} {qs0 : Option Nat} {Z : Nat → Nat → Int} {Rf : Nat → Nat → Option Nat} {K : Nat → Nat × Nat} {n z : Nat} {Q : Option sm_V → sm_S → Prop} : sm_wp (d + 1) 61 5 [l0, some (.inr (some r1)), l2, some (.inl x3), l4, l5, l6, l7, l8, l9] [.inr qs0] (Z, Rf, K, n, z) Q = ((K r1).1 = 1 ∧ (Rf r1 13).isSome = true ∧ (K (((Rf r1 13).getD 0))).1 = 5 ∧ sm_call d 54 [.inr (some ((Rf r1 13).getD 0)), .inl x3, .inl 3] (Z, Rf, K, n, z) (sm_cont (d + 1) 61 16 [l0, some (.inr (some r1)), l2, some (.inl x3), some (.inr qs0), l5, l6, l7, l8, l9] [] Q)) := (w_astore t61_5 rfl (Nat.le_of_ble_eq_true rfl) rfl).trans ((w_aload_n t61_7 rfl rfl).trans ((w_getR t61_8 rfl (by decide)).trans (congrArg (And _) (congrArg (And _) ((w_iload_n t61_11 rfl rfl).trans ((w_iconst t61_12 rfl).trans (w_callV t61_13 rfl rfl rfl rfl (Nat.le_of_ble_eq_true rfl) (Nat.le_of_ble_eq_true rfl) rfl (by decide))))))))
set_option maxRecDepth 10000 in
theorem b61_16 {d : Nat} {q0 : Option Nat} {r1 : Nat} {l2 : Option sm_V} {x3 : Int} {l4 : Option sm_V} {l5 : Option sm_V} {l6 : Option sm_V} {l7 : Option sm_V} {l8 : Option sm_V} {l9 : Option sm_V} {s0 : Int} {Z : Nat → Nat → Int} {Rf : Nat → Nat → Option Nat} {K : Nat → Nat × Nat} {n z : Nat} {Q : Option sm_V → sm_S → Prop} : sm_wp (d + 1) 61 16 [some (.inr q0), some (.inr (some r1)), l2, some (.inl x3), l4, l5, l6, l7, l8, l9] [.inl s0] (Z, Rf, K, n, z) Q = ((K r1).1 = 1 ∧ (Rf r1 13).isSome = true ∧ (K (((Rf r1 13).getD 0))).1 = 5 ∧ sm_call d 54 [.inr (some ((Rf r1 13).getD 0)), .inl x3, .inl 0] (Z, Rf, K, n, z) (sm_cont (d + 1) 61 28 [some (.inr q0), some (.inr (some r1)), l2, some (.inl x3), l4, some (.inl s0), l6, l7, l8, l9] [.inr q0] Q)) := (w_istore t61_16 rfl (Nat.le_of_ble_eq_true rfl) rfl).trans ((w_aload_n t61_18 rfl rfl).trans ((w_aload_n t61_19 rfl rfl).trans ((w_getR t61_20 rfl (by decide)).trans (congrArg (And _) (congrArg (And _) ((w_iload_n t61_23 rfl rfl).trans ((w_iconst t61_24 rfl).trans (w_callV t61_25 rfl rfl rfl rfl (Nat.le_of_ble_eq_true rfl) (Nat.le_of_ble_eq_true rfl) rfl (by decide)))))))))
set_option maxRecDepth 10000 in
theorem b61_28 {d : Nat} {q0 : Option Nat} {r1 : Nat} {l2 : Option sm_V} {x3 : Int} {l4 : Option sm_V} {l5 : Option sm_V} {l6 : Option sm_V} {l7 : Option sm_V} {l8 : Option sm_V} {l9 : Option sm_V} {rs0 : Nat} {s1 : Int} {Z : Nat → Nat → Int} {Rf : Nat → Nat → Option Nat} {K : Nat → Nat × Nat} {n z : Nat} {Q : Option sm_V → sm_S → Prop} : sm_wp (d + 1) 61 28 [some (.inr q0), some (.inr (some r1)), l2, some (.inl x3), l4, l5, l6, l7, l8, l9] [.inl s1, .inr (some rs0)] (Z, Rf, K, n, z) Q = ((K rs0).1 = 7 ∧ (K r1).1 = 1 ∧ (Rf r1 13).isSome = true ∧ (K (((Rf r1 13).getD 0))).1 = 5 ∧ sm_call d 54 [.inr (some ((Rf r1 13).getD 0)), .inl x3, .inl 1] (sm_u Z rs0 5 s1, Rf, K, n, z) (sm_cont (d + 1) 61 41 [some (.inr q0), some (.inr (some r1)), l2, some (.inl x3), l4, l5, l6, l7, l8, l9] [.inr q0] Q)) := (w_putI t61_28 rfl (by decide)).trans (congrArg (And _) ((w_aload_n t61_31 rfl rfl).trans ((w_aload_n t61_32 rfl rfl).trans ((w_getR t61_33 rfl (by decide)).trans (congrArg (And _) (congrArg (And _) ((w_iload_n t61_36 rfl rfl).trans ((w_iconst t61_37 rfl).trans (w_callV t61_38 rfl rfl rfl rfl (Nat.le_of_ble_eq_true rfl) (Nat.le_of_ble_eq_true rfl) rfl (by decide))))))))))
set_option maxRecDepth 10000 in
theorem b61_41 {d : Nat} {q0 : Option Nat} {r1 : Nat} {l2 : Option sm_V} {x3 : Int} {l4 : Option sm_V} {l5 : Option sm_V} {l6 : Option sm_V} {l7 : Option sm_V} {l8 : Option sm_V} {l9 : Option sm_V} {rs0 : Nat} {s1 : Int} {Z : Nat → Nat → Int} {Rf : Nat → Nat → Option Nat} {K : Nat → Nat × Nat} {n z : Nat} {Q : Option sm_V → sm_S → Prop} : sm_wp (d + 1) 61 41 [some (.inr q0), some (.inr (some r1)), l2, some (.inl x3), l4, l5, l6, l7, l8, l9] [.inl s1, .inr (some rs0)] (Z, Rf, K, n, z) Q = ((K rs0).1 = 7 ∧ (K r1).1 = 1 ∧ (Rf r1 13).isSome = true ∧ (K (((Rf r1 13).getD 0))).1 = 5 ∧ sm_call d 54 [.inr (some ((Rf r1 13).getD 0)), .inl x3, .inl 2] (sm_u Z rs0 6 s1, Rf, K, n, z) (sm_cont (d + 1) 61 54 [some (.inr q0), some (.inr (some r1)), l2, some (.inl x3), l4, l5, l6, l7, l8, l9] [.inr q0] Q)) := (w_putI t61_41 rfl (by decide)).trans (congrArg (And _) ((w_aload_n t61_44 rfl rfl).trans ((w_aload_n t61_45 rfl rfl).trans ((w_getR t61_46 rfl (by decide)).trans (congrArg (And _) (congrArg (And _) ((w_iload_n t61_49 rfl rfl).trans ((w_iconst t61_50 rfl).trans (w_callV t61_51 rfl rfl rfl rfl (Nat.le_of_ble_eq_true rfl) (Nat.le_of_ble_eq_true rfl) rfl (by decide))))))))))
set_option maxRecDepth 10000 in
theorem b61_54 {d : Nat} {l0 : Option sm_V} {l1 : Option sm_V} {l2 : Option sm_V} {l3 : Option sm_V} {l4 : Option sm_V} {l5 : Option sm_V} {l6 : Option sm_V} {l7 : Option sm_V} {l8 : Option sm_V} {l9 : Option sm_V} {rs0 : Nat} {s1 : Int} {Z : Nat → Nat → Int} {Rf : Nat → Nat → Option Nat} {K : Nat → Nat × Nat} {n z : Nat} {Q : Option sm_V → sm_S → Prop} : sm_wp d 61 54 [l0, l1, l2, l3, l4, l5, l6, l7, l8, l9] [.inl s1, .inr (some rs0)] (Z, Rf, K, n, z) Q = ((K rs0).1 = 7 ∧ sm_wp d 61 65 [l0, l1, l2, l3, l4, l5, some (.inl 1), some (.inl 0), l8, l9] [] (sm_u Z rs0 7 (sm_and s1 3), Rf, K, n, z) Q) := (w_iconst t61_54 rfl).trans ((w_iand t61_55 rfl).trans ((w_putI t61_56 rfl (by decide)).trans (congrArg (And _) ((w_iconst t61_59 rfl).trans ((w_istore t61_60 rfl (Nat.le_of_ble_eq_true rfl) rfl).trans ((w_iconst t61_62 rfl).trans (w_istore t61_63 rfl (Nat.le_of_ble_eq_true rfl) rfl)))))))
set_option maxRecDepth 10000 in
theorem b61_65 {d : Nat} {l0 : Option sm_V} {l1 : Option sm_V} {l2 : Option sm_V} {l3 : Option sm_V} {l4 : Option sm_V} {l5 : Option sm_V} {x6 : Int} {l7 : Option sm_V} {l8 : Option sm_V} {l9 : Option sm_V} {Z : Nat → Nat → Int} {Rf : Nat → Nat → Option Nat} {K : Nat → Nat × Nat} {n z : Nat} {Q : Option sm_V → sm_S → Prop} : sm_wp d 61 65 [l0, l1, l2, l3, l4, l5, some (.inl x6), l7, l8, l9] [] (Z, Rf, K, n, z) Q = (if wr x6 = 0 then sm_wp d 61 278 [l0, l1, l2, l3, l4, l5, some (.inl x6), l7, l8, l9] [] (Z, Rf, K, n, z) Q else sm_wp d 61 70 [l0, l1, l2, l3, l4, l5, some (.inl x6), l7, l8, l9] [] (Z, Rf, K, n, z) Q) := (w_iload t61_65 rfl rfl).trans (w_ifeq t61_67 rfl rfl rfl)
set_option maxRecDepth 10000 in
theorem b61_70 {d : Nat} {l0 : Option sm_V} {l1 : Option sm_V} {l2 : Option sm_V} {l3 : Option sm_V} {l4 : Option sm_V} {x5 : Int} {l6 : Option sm_V} {x7 : Int} {l8 : Option sm_V} {l9 : Option sm_V} {Z : Nat → Nat → Int} {Rf : Nat → Nat → Option Nat} {K : Nat → Nat × Nat} {n z : Nat} {Q : Option sm_V → sm_S → Prop} : sm_wp d 61 70 [l0, l1, l2, l3, l4, some (.inl x5), l6, some (.inl x7), l8, l9] [] (Z, Rf, K, n, z) Q = (if wr x5 ≤ wr x7 then sm_wp d 61 278 [l0, l1, l2, l3, l4, some (.inl x5), l6, some (.inl x7), l8, l9] [] (Z, Rf, K, n, z) Q else sm_wp d 61 77 [l0, l1, l2, l3, l4, some (.inl x5), l6, some (.inl x7), l8, l9] [] (Z, Rf, K, n, z) Q) := (w_iload t61_70 rfl rfl).trans ((w_iload t61_72 rfl rfl).trans (w_icge t61_74 rfl rfl rfl rfl))
set_option maxRecDepth 10000 in
theorem b61_77 {d : Nat} {r0 : Nat} {q1 : Option Nat} {q2 : Option Nat} {l3 : Option sm_V} {l4 : Option sm_V} {l5 : Option sm_V} {l6 : Option sm_V} {l7 : Option sm_V} {l8 : Option sm_V} {l9 : Option sm_V} {Z : Nat → Nat → Int} {Rf : Nat → Nat → Option Nat} {K : Nat → Nat × Nat} {n z : Nat} {Q : Option sm_V → sm_S → Prop} : sm_wp (d + 1) 61 77 [some (.inr (some r0)), some (.inr q1), some (.inr q2), l3, l4, l5, l6, l7, l8, l9] [] (Z, Rf, K, n, z) Q = ((K r0).1 = 7 ∧ sm_call d 62 [.inr (some r0), .inr q1, .inr q2] (Z, Rf, K, n, z) (sm_cont (d + 1) 61 83 [some (.inr (some r0)), some (.inr q1), some (.inr q2), l3, l4, l5, l6, l7, l8, l9] [] Q)) := (w_aload_n t61_77 rfl rfl).trans ((w_aload_n t61_78 rfl rfl).trans ((w_aload_n t61_79 rfl rfl).trans (w_callV t61_80 rfl rfl rfl rfl (Nat.le_of_ble_eq_true rfl) (Nat.le_of_ble_eq_true rfl) rfl (by decide))))
set_option maxRecDepth 10000 in
theorem b61_83 {d : Nat} {r0 : Nat} {l1 : Option sm_V} {l2 : Option sm_V} {x3 : Int} {r4 : Nat} {x5 : Int} {l6 : Option sm_V} {x7 : Int} {l8 : Option sm_V} {l9 : Option sm_V} {Z : Nat → Nat → Int} {Rf : Nat → Nat → Option Nat} {K : Nat → Nat × Nat} {n z : Nat} {Q : Option sm_V → sm_S → Prop} : sm_wp (d + 1) 61 83 [some (.inr (some r0)), l1, l2, some (.inl x3), some (.inr (some r4)), some (.inl x5), l6, some (.inl x7), l8, l9] [] (Z, Rf, K, n, z) Q = ((K r0).1 = 7 ∧ (Rf r0 3).isSome = true ∧ sm_wt (K (((Rf r0 3).getD 0))) ((6 : Int)) ∧ (K r0).1 = 7 ∧ (Rf r0 3).isSome = true ∧ sm_wt (K (((Rf r0 3).getD 0))) ((7 : Int)) ∧ (K r0).1 = 7 ∧ (Rf r0 3).isSome = true ∧ sm_wt (K (((Rf r0 3).getD 0))) ((8 : Int)) ∧ (K r0).1 = 7 ∧ (Rf r0 3).isSome = true ∧ (K r0).1 = 7 ∧ (Rf r0 4).isSome = true ∧ (K r4).1 = 2 ∧ sm_call d 22 [.inr (some r4), .inr (some ((Rf r0 3).getD 0)), .inr (some ((Rf r0 4).getD 0))] (sm_u (sm_u (sm_u Z (((Rf r0 3).getD 0)) 6 x7) (((Rf r0 3).getD 0)) 7 (x5 - x7)) (((Rf r0 3).getD 0)) 8 x3, Rf, K, n, z) (sm_cont (d + 1) 61 125 [some (.inr (some r0)), l1, l2, some (.inl x3), some (.inr (some r4)), some (.inl x5), l6, some (.inl x7), l8, l9] [] Q)) := (w_aload_n t61_83 rfl rfl).trans ((w_getR t61_84 rfl (by decide)).trans (congrArg (And _) (congrArg (And _) ((w_bipush t61_87 rfl).trans ((w_iload t61_89 rfl rfl).trans ((w_iast t61_91 rfl wl_6).trans (congrArg (And _) ((w_aload_n t61_92 rfl rfl).trans ((w_getR t61_93 rfl (by decide)).trans (congrArg (And _) (congrArg (And _) ((w_bipush t61_96 rfl).trans ((w_iload t61_98 rfl rfl).trans ((w_iload t61_100 rfl rfl).trans ((w_isub t61_102 rfl).trans ((w_iast t61_103 rfl wl_7).trans (congrArg (And _) ((w_aload_n t61_104 rfl rfl).trans ((w_getR t61_105 rfl (by decide)).trans (congrArg (And _) (congrArg (And _) ((w_bipush t61_108 rfl).trans ((w_iload_n t61_110 rfl rfl).trans ((w_iast t61_111 rfl wl_8).trans (congrArg (And _) ((w_aload t61_112 rfl rfl).trans ((w_aload_n t61_114 rfl rfl).trans ((w_getR t61_115 rfl (by decide)).trans (congrArg (And _) (congrArg (And _) ((w_aload_n t61_118 rfl rfl).trans ((w_getR t61_119 rfl (by decide)).trans (congrArg (And _) (congrArg (And _) (w_callV t61_122 rfl rfl rfl rfl (Nat.le_of_ble_eq_true rfl) (Nat.le_of_ble_eq_true rfl) rfl (by decide))))))))))))))))))))))))))))))))))))
set_option maxRecDepth 10000 in
theorem b61_125 {d : Nat} {r0 : Nat} {r1 : Nat} {l2 : Option sm_V} {l3 : Option sm_V} {l4 : Option sm_V} {l5 : Option sm_V} {l6 : Option sm_V} {l7 : Option sm_V} {l8 : Option sm_V} {l9 : Option sm_V} {s0 : Int} {Z : Nat → Nat → Int} {Rf : Nat → Nat → Option Nat} {K : Nat → Nat × Nat} {n z : Nat} {Q : Option sm_V → sm_S → Prop} : sm_wp (d + 1) 61 125 [some (.inr (some r0)), some (.inr (some r1)), l2, l3, l4, l5, l6, l7, l8, l9] [.inl s0] (Z, Rf, K, n, z) Q = ((K r0).1 = 7 ∧ (K r0).1 = 7 ∧ (K r1).1 = 1 ∧ sm_call d 13 [.inr (some r1), .inl (Z r0 5), .inl (Z r0 6)] (Z, Rf, K, n, z) (sm_cont (d + 1) 61 143 [some (.inr (some r0)), some (.inr (some r1)), l2, l3, l4, l5, l6, l7, some (.inl s0), l9] [.inl s0, .inr (some r0), .inr (some r0)] Q)) := (w_istore t61_125 rfl (Nat.le_of_ble_eq_true rfl) rfl).trans ((w_aload_n t61_127 rfl rfl).trans ((w_aload_n t61_128 rfl rfl).trans ((w_iload t61_129 rfl rfl).trans ((w_aload_n t61_131 rfl rfl).trans ((w_aload_n t61_132 rfl rfl).trans ((w_getI t61_133 rfl (by decide)).trans (congrArg (And _) ((w_aload_n t61_136 rfl rfl).trans ((w_getI t61_137 rfl (by decide)).trans (congrArg (And _) (w_callV t61_140 rfl rfl rfl rfl (Nat.le_of_ble_eq_true rfl) (Nat.le_of_ble_eq_true rfl) rfl (by decide))))))))))))
set_option maxRecDepth 10000 in
theorem b61_143 {d : Nat} {l0 : Option sm_V} {l1 : Option sm_V} {l2 : Option sm_V} {l3 : Option sm_V} {l4 : Option sm_V} {l5 : Option sm_V} {l6 : Option sm_V} {l7 : Option sm_V} {l8 : Option sm_V} {l9 : Option sm_V} {qs0 : Option Nat} {rs1 : Nat} {s2 : Int} {s3 : Int} {Z : Nat → Nat → Int} {Rf : Nat → Nat → Option Nat} {K : Nat → Nat × Nat} {n z : Nat} {Q : Option sm_V → sm_S → Prop} : sm_wp (d + 1) 61 143 [l0, l1, l2, l3, l4, l5, l6, l7, l8, l9] [.inl s3, .inl s2, .inr (some rs1), .inr qs0] (Z, Rf, K, n, z) Q = ((K rs1).1 = 7 ∧ sm_call d 63 [.inr (some rs1), .inl s2, .inl s3] (Z, Rf, K, n, z) (sm_cont (d + 1) 61 146 [l0, l1, l2, l3, l4, l5, l6, l7, l8, l9] [.inr qs0] Q)) := w_callV t61_143 rfl rfl rfl rfl (Nat.le_of_ble_eq_true rfl) (Nat.le_of_ble_eq_true rfl) rfl (by decide)
set_option maxRecDepth 10000 in
theorem b61_146 {d : Nat} {r0 : Nat} {r1 : Nat} {l2 : Option sm_V} {l3 : Option sm_V} {l4 : Option sm_V} {l5 : Option sm_V} {l6 : Option sm_V} {l7 : Option sm_V} {l8 : Option sm_V} {l9 : Option sm_V} {rs0 : Nat} {s1 : Int} {Z : Nat → Nat → Int} {Rf : Nat → Nat → Option Nat} {K : Nat → Nat × Nat} {n z : Nat} {Q : Option sm_V → sm_S → Prop} : sm_wp (d + 1) 61 146 [some (.inr (some r0)), some (.inr (some r1)), l2, l3, l4, l5, l6, l7, l8, l9] [.inl s1, .inr (some rs0)] (Z, Rf, K, n, z) Q = ((K rs0).1 = 7 ∧ (K r0).1 = 7 ∧ (K r0).1 = 7 ∧ (K r0).1 = 7 ∧ (K r1).1 = 1 ∧ sm_call d 11 [.inr (some r1), .inl ((sm_u Z rs0 7 s1) r0 5), .inl ((sm_u Z rs0 7 s1) r0 6), .inl ((sm_u Z rs0 7 s1) r0 7)] (sm_u Z rs0 7 s1, Rf, K, n, z) (sm_cont (d + 1) 61 165 [some (.inr (some r0)), some (.inr (some r1)), l2, l3, l4, l5, l6, l7, l8, l9] [] Q)) := (w_putI t61_146 rfl (by decide)).trans (congrArg (And _) ((w_aload_n t61_149 rfl rfl).trans ((w_aload_n t61_150 rfl rfl).trans ((w_getI t61_151 rfl (by decide)).trans (congrArg (And _) ((w_aload_n t61_154 rfl rfl).trans ((w_getI t61_155 rfl (by decide)).trans (congrArg (And _) ((w_aload_n t61_158 rfl rfl).trans ((w_getI t61_159 rfl (by decide)).trans (congrArg (And _) (w_callV t61_162 rfl rfl rfl rfl (Nat.le_of_ble_eq_true rfl) (Nat.le_of_ble_eq_true rfl) rfl (by decide)))))))))))))
set_option maxRecDepth 10000 in
theorem b61_165 {d : Nat} {l0 : Option sm_V} {l1 : Option sm_V} {l2 : Option sm_V} {l3 : Option sm_V} {l4 : Option sm_V} {l5 : Option sm_V} {l6 : Option sm_V} {l7 : Option sm_V} {x8 : Int} {l9 : Option sm_V} {s0 : Int} {Z : Nat → Nat → Int} {Rf : Nat → Nat → Option Nat} {K : Nat → Nat × Nat} {n z : Nat} {Q : Option sm_V → sm_S → Prop} : sm_wp d 61 165 [l0, l1, l2, l3, l4, l5, l6, l7, some (.inl x8), l9] [.inl s0] (Z, Rf, K, n, z) Q = (if wr x8 = (4 : Int) then sm_wp d 61 183 [l0, l1, l2, l3, l4, l5, l6, l7, some (.inl x8), some (.inl s0)] [] (Z, Rf, K, n, z) Q else sm_wp d 61 173 [l0, l1, l2, l3, l4, l5, l6, l7, some (.inl x8), some (.inl s0)] [] (Z, Rf, K, n, z) Q) := (w_istore t61_165 rfl (Nat.le_of_ble_eq_true rfl) rfl).trans ((w_iload t61_167 rfl rfl).trans ((w_iconst t61_169 rfl).trans (w_iceq t61_170 rfl wl_4 rfl rfl)))
set_option maxRecDepth 10000 in
theorem b61_173 {d : Nat} {l0 : Option sm_V} {l1 : Option sm_V} {l2 : Option sm_V} {l3 : Option sm_V} {l4 : Option sm_V} {l5 : Option sm_V} {l6 : Option sm_V} {l7 : Option sm_V} {l8 : Option sm_V} {x9 : Int} {Z : Nat → Nat → Int} {Rf : Nat → Nat → Option Nat} {K : Nat → Nat × Nat} {n z : Nat} {Q : Option sm_V → sm_S → Prop} : sm_wp d 61 173 [l0, l1, l2, l3, l4, l5, l6, l7, l8, some (.inl x9)] [] (Z, Rf, K, n, z) Q = (if wr x9 = (-1 : Int) then sm_wp d 61 183 [l0, l1, l2, l3, l4, l5, l6, l7, l8, some (.inl x9)] [] (Z, Rf, K, n, z) Q else sm_wp d 61 179 [l0, l1, l2, l3, l4, l5, l6, l7, l8, some (.inl x9)] [] (Z, Rf, K, n, z) Q) := (w_iload t61_173 rfl rfl).trans ((w_iconst t61_175 rfl).trans (w_iceq t61_176 rfl wl_m1 rfl rfl))
set_option maxRecDepth 10000 in
theorem b61_179 {d : Nat} {l0 : Option sm_V} {l1 : Option sm_V} {l2 : Option sm_V} {l3 : Option sm_V} {l4 : Option sm_V} {l5 : Option sm_V} {l6 : Option sm_V} {l7 : Option sm_V} {l8 : Option sm_V} {l9 : Option sm_V} {Z : Nat → Nat → Int} {Rf : Nat → Nat → Option Nat} {K : Nat → Nat × Nat} {n z : Nat} {Q : Option sm_V → sm_S → Prop} : sm_wp d 61 179 [l0, l1, l2, l3, l4, l5, l6, l7, l8, l9] [] (Z, Rf, K, n, z) Q = (sm_wp d 61 184 [l0, l1, l2, l3, l4, l5, l6, l7, l8, l9] [.inl 1] (Z, Rf, K, n, z) Q) := (w_iconst t61_179 rfl).trans (w_goto t61_180 rfl)
set_option maxRecDepth 10000 in
theorem b61_183 {d : Nat} {l0 : Option sm_V} {l1 : Option sm_V} {l2 : Option sm_V} {l3 : Option sm_V} {l4 : Option sm_V} {l5 : Option sm_V} {l6 : Option sm_V} {l7 : Option sm_V} {l8 : Option sm_V} {l9 : Option sm_V} {Z : Nat → Nat → Int} {Rf : Nat → Nat → Option Nat} {K : Nat → Nat × Nat} {n z : Nat} {Q : Option sm_V → sm_S → Prop} : sm_wp d 61 183 [l0, l1, l2, l3, l4, l5, l6, l7, l8, l9] [] (Z, Rf, K, n, z) Q = (sm_wp d 61 184 [l0, l1, l2, l3, l4, l5, l6, l7, l8, l9] [.inl 0] (Z, Rf, K, n, z) Q) := w_iconst t61_183 rfl
set_option maxRecDepth 10000 in
theorem b61_184 {d : Nat} {l0 : Option sm_V} {l1 : Option sm_V} {l2 : Option sm_V} {l3 : Option sm_V} {l4 : Option sm_V} {l5 : Option sm_V} {l6 : Option sm_V} {l7 : Option sm_V} {l8 : Option sm_V} {l9 : Option sm_V} {s0 : Int} {Z : Nat → Nat → Int} {Rf : Nat → Nat → Option Nat} {K : Nat → Nat × Nat} {n z : Nat} {Q : Option sm_V → sm_S → Prop} : sm_wp d 61 184 [l0, l1, l2, l3, l4, l5, l6, l7, l8, l9] [.inl s0] (Z, Rf, K, n, z) Q = (if wr s0 = 0 then sm_wp d 61 275 [l0, l1, l2, l3, l4, l5, some (.inl s0), l7, l8, l9] [] (Z, Rf, K, n, z) Q else sm_wp d 61 191 [l0, l1, l2, l3, l4, l5, some (.inl s0), l7, l8, l9] [] (Z, Rf, K, n, z) Q) := (w_istore t61_184 rfl (Nat.le_of_ble_eq_true rfl) rfl).trans ((w_iload t61_186 rfl rfl).trans (w_ifeq t61_188 rfl rfl rfl))
set_option maxRecDepth 10000 in
theorem b61_191 {d : Nat} {l0 : Option sm_V} {l1 : Option sm_V} {r2 : Nat} {x3 : Int} {l4 : Option sm_V} {l5 : Option sm_V} {l6 : Option sm_V} {x7 : Int} {l8 : Option sm_V} {x9 : Int} {Z : Nat → Nat → Int} {Rf : Nat → Nat → Option Nat} {K : Nat → Nat × Nat} {n z : Nat} {Q : Option sm_V → sm_S → Prop} : sm_wp (d + 1) 61 191 [l0, l1, some (.inr (some r2)), some (.inl x3), l4, l5, l6, some (.inl x7), l8, some (.inl x9)] [] (Z, Rf, K, n, z) Q = ((K r2).1 = 9 ∧ sm_call d 78 [.inr (some r2), .inl x9, .inl x3, .inl x7] (Z, Rf, K, n, z) (sm_cont (d + 1) 61 200 [l0, l1, some (.inr (some r2)), some (.inl x3), l4, l5, l6, some (.inl x7), l8, some (.inl x9)] [] Q)) := (w_aload_n t61_191 rfl rfl).trans ((w_iload t61_192 rfl rfl).trans ((w_iload_n t61_194 rfl rfl).trans ((w_iload t61_195 rfl rfl).trans (w_callV t61_197 rfl rfl rfl rfl (Nat.le_of_ble_eq_true rfl) (Nat.le_of_ble_eq_true rfl) rfl (by decide)))))
set_option maxRecDepth 10000 in
theorem b61_200 {d : Nat} {r0 : Nat} {q1 : Option Nat} {r2 : Nat} {x3 : Int} {l4 : Option sm_V} {l5 : Option sm_V} {l6 : Option sm_V} {x7 : Int} {l8 : Option sm_V} {l9 : Option sm_V} {Z : Nat → Nat → Int} {Rf : Nat → Nat → Option Nat} {K : Nat → Nat × Nat} {n z : Nat} {Q : Option sm_V → sm_S → Prop} : sm_wp (d + 1) 61 200 [some (.inr (some r0)), some (.inr q1), some (.inr (some r2)), some (.inl x3), l4, l5, l6, some (.inl x7), l8, l9] [] (Z, Rf, K, n, z) Q = ((K r0).1 = 7 ∧ (K r0).1 = 7 ∧ sm_rd (K 1000000) (wr (Z r0 7)) ∧ (K r0).1 = 7 ∧ (K r0).1 = 7 ∧ (K r0).1 = 7 ∧ sm_rd (K 1000001) (wr ((sm_u Z r0 5 ((Z r0 5) + (Z 1000000 ((wr (Z r0 7)).toNat)))) r0 7)) ∧ (K r0).1 = 7 ∧ (K r0).1 = 7 ∧ (K r0).1 = 7 ∧ (K r2).1 = 9 ∧ sm_call d 79 [.inr (some r2), .inr q1, .inl x3, .inl ((sm_u (sm_u Z r0 5 ((Z r0 5) + (Z 1000000 ((wr (Z r0 7)).toNat)))) r0 6 (((sm_u Z r0 5 ((Z r0 5) + (Z 1000000 ((wr (Z r0 7)).toNat)))) r0 6) + ((sm_u Z r0 5 ((Z r0 5) + (Z 1000000 ((wr (Z r0 7)).toNat)))) 1000001 ((wr ((sm_u Z r0 5 ((Z r0 5) + (Z 1000000 ((wr (Z r0 7)).toNat)))) r0 7)).toNat)))) r0 5), .inl ((sm_u (sm_u Z r0 5 ((Z r0 5) + (Z 1000000 ((wr (Z r0 7)).toNat)))) r0 6 (((sm_u Z r0 5 ((Z r0 5) + (Z 1000000 ((wr (Z r0 7)).toNat)))) r0 6) + ((sm_u Z r0 5 ((Z r0 5) + (Z 1000000 ((wr (Z r0 7)).toNat)))) 1000001 ((wr ((sm_u Z r0 5 ((Z r0 5) + (Z 1000000 ((wr (Z r0 7)).toNat)))) r0 7)).toNat)))) r0 6), .inl x7] (sm_u (sm_u Z r0 5 ((Z r0 5) + (Z 1000000 ((wr (Z r0 7)).toNat)))) r0 6 (((sm_u Z r0 5 ((Z r0 5) + (Z 1000000 ((wr (Z r0 7)).toNat)))) r0 6) + ((sm_u Z r0 5 ((Z r0 5) + (Z 1000000 ((wr (Z r0 7)).toNat)))) 1000001 ((wr ((sm_u Z r0 5 ((Z r0 5) + (Z 1000000 ((wr (Z r0 7)).toNat)))) r0 7)).toNat))), Rf, K, n, z) (sm_cont (d + 1) 61 250 [some (.inr (some r0)), some (.inr q1), some (.inr (some r2)), some (.inl x3), l4, l5, l6, some (.inl x7), l8, l9] [] Q)) := (w_aload_n t61_200 rfl rfl).trans ((w_dup t61_201 rfl).trans ((w_getI t61_202 rfl (by decide)).trans (congrArg (And _) ((w_gs1 t61_205 rfl).trans ((w_aload_n t61_208 rfl rfl).trans ((w_getI t61_209 rfl (by decide)).trans (congrArg (And _) ((w_iald t61_212 rfl rfl).trans (congrArg (And _) ((w_iadd t61_213 rfl).trans ((w_putI t61_214 rfl (by decide)).trans (congrArg (And _) ((w_aload_n t61_217 rfl rfl).trans ((w_dup t61_218 rfl).trans ((w_getI t61_219 rfl (by decide)).trans (congrArg (And _) ((w_gs1 t61_222 rfl).trans ((w_aload_n t61_225 rfl rfl).trans ((w_getI t61_226 rfl (by decide)).trans (congrArg (And _) ((w_iald t61_229 rfl rfl).trans (congrArg (And _) ((w_iadd t61_230 rfl).trans ((w_putI t61_231 rfl (by decide)).trans (congrArg (And _) ((w_aload_n t61_234 rfl rfl).trans ((w_aload_n t61_235 rfl rfl).trans ((w_iload_n t61_236 rfl rfl).trans ((w_aload_n t61_237 rfl rfl).trans ((w_getI t61_238 rfl (by decide)).trans (congrArg (And _) ((w_aload_n t61_241 rfl rfl).trans ((w_getI t61_242 rfl (by decide)).trans (congrArg (And _) ((w_iload t61_245 rfl rfl).trans (w_callV t61_247 rfl rfl rfl rfl (Nat.le_of_ble_eq_true rfl) (Nat.le_of_ble_eq_true rfl) rfl (by decide)))))))))))))))))))))))))))))))))))))
set_option maxRecDepth 10000 in
theorem b61_250 {d : Nat} {r0 : Nat} {r1 : Nat} {l2 : Option sm_V} {l3 : Option sm_V} {l4 : Option sm_V} {l5 : Option sm_V} {l6 : Option sm_V} {l7 : Option sm_V} {l8 : Option sm_V} {l9 : Option sm_V} {Z : Nat → Nat → Int} {Rf : Nat → Nat → Option Nat} {K : Nat → Nat × Nat} {n z : Nat} {Q : Option sm_V → sm_S → Prop} : sm_wp (d + 1) 61 250 [some (.inr (some r0)), some (.inr (some r1)), l2, l3, l4, l5, l6, l7, l8, l9] [] (Z, Rf, K, n, z) Q = ((K r0).1 = 7 ∧ (K r0).1 = 7 ∧ (K r1).1 = 1 ∧ sm_call d 14 [.inr (some r1), .inl (Z r0 5), .inl (Z r0 6)] (Z, Rf, K, n, z) (sm_cont (d + 1) 61 262 [some (.inr (some r0)), some (.inr (some r1)), l2, l3, l4, l5, l6, l7, l8, l9] [] Q)) := (w_aload_n t61_250 rfl rfl).trans ((w_aload_n t61_251 rfl rfl).trans ((w_getI t61_252 rfl (by decide)).trans (congrArg (And _) ((w_aload_n t61_255 rfl rfl).trans ((w_getI t61_256 rfl (by decide)).trans (congrArg (And _) (w_callV t61_259 rfl rfl rfl rfl (Nat.le_of_ble_eq_true rfl) (Nat.le_of_ble_eq_true rfl) rfl (by decide))))))))
set_option maxRecDepth 10000 in
theorem b61_262 {d : Nat} {l0 : Option sm_V} {l1 : Option sm_V} {l2 : Option sm_V} {l3 : Option sm_V} {l4 : Option sm_V} {l5 : Option sm_V} {l6 : Option sm_V} {l7 : Option sm_V} {l8 : Option sm_V} {l9 : Option sm_V} {s0 : Int} {Z : Nat → Nat → Int} {Rf : Nat → Nat → Option Nat} {K : Nat → Nat × Nat} {n z : Nat} {Q : Option sm_V → sm_S → Prop} : sm_wp d 61 262 [l0, l1, l2, l3, l4, l5, l6, l7, l8, l9] [.inl s0] (Z, Rf, K, n, z) Q = (if wr s0 = 0 then sm_wp d 61 265 [l0, l1, l2, l3, l4, l5, l6, l7, l8, l9] [] (Z, Rf, K, n, z) Q else sm_wp d 61 269 [l0, l1, l2, l3, l4, l5, l6, l7, l8, l9] [] (Z, Rf, K, n, z) Q) := w_ifne t61_262 rfl rfl rfl
set_option maxRecDepth 10000 in
theorem b61_265 {d : Nat} {l0 : Option sm_V} {l1 : Option sm_V} {l2 : Option sm_V} {l3 : Option sm_V} {l4 : Option sm_V} {l5 : Option sm_V} {l6 : Option sm_V} {l7 : Option sm_V} {l8 : Option sm_V} {l9 : Option sm_V} {Z : Nat → Nat → Int} {Rf : Nat → Nat → Option Nat} {K : Nat → Nat × Nat} {n z : Nat} {Q : Option sm_V → sm_S → Prop} : sm_wp d 61 265 [l0, l1, l2, l3, l4, l5, l6, l7, l8, l9] [] (Z, Rf, K, n, z) Q = (sm_wp d 61 270 [l0, l1, l2, l3, l4, l5, l6, l7, l8, l9] [.inl 1] (Z, Rf, K, n, z) Q) := (w_iconst t61_265 rfl).trans (w_goto t61_266 rfl)
set_option maxRecDepth 10000 in
theorem b61_269 {d : Nat} {l0 : Option sm_V} {l1 : Option sm_V} {l2 : Option sm_V} {l3 : Option sm_V} {l4 : Option sm_V} {l5 : Option sm_V} {l6 : Option sm_V} {l7 : Option sm_V} {l8 : Option sm_V} {l9 : Option sm_V} {Z : Nat → Nat → Int} {Rf : Nat → Nat → Option Nat} {K : Nat → Nat × Nat} {n z : Nat} {Q : Option sm_V → sm_S → Prop} : sm_wp d 61 269 [l0, l1, l2, l3, l4, l5, l6, l7, l8, l9] [] (Z, Rf, K, n, z) Q = (sm_wp d 61 270 [l0, l1, l2, l3, l4, l5, l6, l7, l8, l9] [.inl 0] (Z, Rf, K, n, z) Q) := w_iconst t61_269 rfl
set_option maxRecDepth 10000 in
theorem b61_270 {d : Nat} {l0 : Option sm_V} {l1 : Option sm_V} {l2 : Option sm_V} {l3 : Option sm_V} {l4 : Option sm_V} {l5 : Option sm_V} {l6 : Option sm_V} {x7 : Int} {l8 : Option sm_V} {l9 : Option sm_V} {s0 : Int} {Z : Nat → Nat → Int} {Rf : Nat → Nat → Option Nat} {K : Nat → Nat × Nat} {n z : Nat} {Q : Option sm_V → sm_S → Prop} : sm_wp d 61 270 [l0, l1, l2, l3, l4, l5, l6, some (.inl x7), l8, l9] [.inl s0] (Z, Rf, K, n, z) Q = (sm_wp d 61 275 [l0, l1, l2, l3, l4, l5, some (.inl s0), some (.inl (x7 + 1)), l8, l9] [] (Z, Rf, K, n, z) Q) := (w_istore t61_270 rfl (Nat.le_of_ble_eq_true rfl) rfl).trans (w_iinc t61_272 rfl rfl (Nat.le_of_ble_eq_true rfl) rfl)
set_option maxRecDepth 10000 in
theorem b61_275 {d : Nat} {l0 : Option sm_V} {l1 : Option sm_V} {l2 : Option sm_V} {l3 : Option sm_V} {l4 : Option sm_V} {l5 : Option sm_V} {l6 : Option sm_V} {l7 : Option sm_V} {l8 : Option sm_V} {l9 : Option sm_V} {Z : Nat → Nat → Int} {Rf : Nat → Nat → Option Nat} {K : Nat → Nat × Nat} {n z : Nat} {Q : Option sm_V → sm_S → Prop} : sm_wp d 61 275 [l0, l1, l2, l3, l4, l5, l6, l7, l8, l9] [] (Z, Rf, K, n, z) Q = (sm_wp d 61 65 [l0, l1, l2, l3, l4, l5, l6, l7, l8, l9] [] (Z, Rf, K, n, z) Q) := w_goto t61_275 rfl
set_option maxRecDepth 10000 in
theorem b61_278 {d : Nat} {r0 : Nat} {l1 : Option sm_V} {l2 : Option sm_V} {l3 : Option sm_V} {l4 : Option sm_V} {l5 : Option sm_V} {l6 : Option sm_V} {x7 : Int} {l8 : Option sm_V} {l9 : Option sm_V} {Z : Nat → Nat → Int} {Rf : Nat → Nat → Option Nat} {K : Nat → Nat × Nat} {n z : Nat} {Q : Option sm_V → sm_S → Prop} : sm_wp (d + 1) 61 278 [some (.inr (some r0)), l1, l2, l3, l4, l5, l6, some (.inl x7), l8, l9] [] (Z, Rf, K, n, z) Q = ((K r0).1 = 7 ∧ (Rf r0 2).isSome = true ∧ (K r0).1 = 7 ∧ (K r0).1 = 7 ∧ (K r0).1 = 7 ∧ (K (((Rf r0 2).getD 0))).1 = 5 ∧ sm_call d 52 [.inr (some ((Rf r0 2).getD 0)), .inl (Z r0 5), .inl (Z r0 6), .inl x7, .inl (Z r0 7), .inl 0] (Z, Rf, K, n, z) (sm_cont (d + 1) 61 300 [some (.inr (some r0)), l1, l2, l3, l4, l5, l6, some (.inl x7), l8, l9] [] Q)) := (w_aload_n t61_278 rfl rfl).trans ((w_getR t61_279 rfl (by decide)).trans (congrArg (And _) (congrArg (And _) ((w_aload_n t61_282 rfl rfl).trans ((w_getI t61_283 rfl (by decide)).trans (congrArg (And _) ((w_aload_n t61_286 rfl rfl).trans ((w_getI t61_287 rfl (by decide)).trans (congrArg (And _) ((w_iload t61_290 rfl rfl).trans ((w_aload_n t61_292 rfl rfl).trans ((w_getI t61_293 rfl (by decide)).trans (congrArg (And _) ((w_iconst t61_296 rfl).trans (w_callV t61_297 rfl rfl rfl rfl (Nat.le_of_ble_eq_true rfl) (Nat.le_of_ble_eq_true rfl) rfl (by decide))))))))))))))))
set_option maxRecDepth 10000 in
theorem b61_300 {d : Nat} {l0 : Option sm_V} {l1 : Option sm_V} {l2 : Option sm_V} {l3 : Option sm_V} {l4 : Option sm_V} {l5 : Option sm_V} {l6 : Option sm_V} {l7 : Option sm_V} {l8 : Option sm_V} {l9 : Option sm_V} {s0 : Int} {Z : Nat → Nat → Int} {Rf : Nat → Nat → Option Nat} {K : Nat → Nat × Nat} {n z : Nat} {Q : Option sm_V → sm_S → Prop} : sm_wp d 61 300 [l0, l1, l2, l3, l4, l5, l6, l7, l8, l9] [.inl s0] (Z, Rf, K, n, z) Q = (Q none (Z, Rf, K, n, z)) := (w_pop t61_300 rfl).trans (w_vret t61_301)
theorem t62_0 : sm_at 62 0 = some (1, .aload_n 0, 0, 0, 0) := rfl
theorem t62_1 : sm_at 62 1 = some (3, .getfield 73, 7, 7, 0) := rfl
theorem t62_4 : sm_at 62 4 = some (1, .iconst 1, 0, 0, 0) := rfl
theorem t62_5 : sm_at 62 5 = some (1, .iadd, 0, 0, 0) := rfl
theorem t62_6 : sm_at 62 6 = some (1, .iconst 3, 0, 0, 0) := rfl
theorem t62_7 : sm_at 62 7 = some (1, .iand, 0, 0, 0) := rfl
theorem t62_8 : sm_at 62 8 = some (1, .istore_n 3, 0, 0, 0) := rfl
theorem t62_9 : sm_at 62 9 = some (1, .aload_n 1, 0, 0, 0) := rfl
theorem t62_10 : sm_at 62 10 = some (1, .aload_n 0, 0, 0, 0) := rfl
theorem t62_11 : sm_at 62 11 = some (3, .getfield 67, 7, 5, 0) := rfl
theorem t62_14 : sm_at 62 14 = some (3, .getstatic 119, 1, 1000002, 0) := rfl
theorem t62_17 : sm_at 62 17 = some (1, .aload_n 0, 0, 0, 0) := rfl
theorem t62_18 : sm_at 62 18 = some (3, .getfield 73, 7, 7, 0) := rfl
theorem t62_21 : sm_at 62 21 = some (1, .iaload, 0, 0, 0) := rfl
theorem t62_22 : sm_at 62 22 = some (1, .iadd, 0, 0, 0) := rfl
theorem t62_23 : sm_at 62 23 = some (1, .aload_n 0, 0, 0, 0) := rfl
theorem t62_24 : sm_at 62 24 = some (3, .getfield 70, 7, 6, 0) := rfl
theorem t62_27 : sm_at 62 27 = some (3, .getstatic 122, 1, 1000003, 0) := rfl
theorem t62_30 : sm_at 62 30 = some (1, .aload_n 0, 0, 0, 0) := rfl
theorem t62_31 : sm_at 62 31 = some (3, .getfield 73, 7, 7, 0) := rfl
theorem t62_34 : sm_at 62 34 = some (1, .iaload, 0, 0, 0) := rfl
theorem t62_35 : sm_at 62 35 = some (1, .iadd, 0, 0, 0) := rfl
theorem t62_36 : sm_at 62 36 = some (3, .invokevirtual 125, 9, 3, 0) := rfl
theorem t62_39 : sm_at 62 39 = some (2, .istore 4, 0, 0, 0) := rfl
theorem t62_41 : sm_at 62 41 = some (1, .aload_n 1, 0, 0, 0) := rfl
theorem t62_42 : sm_at 62 42 = some (1, .aload_n 0, 0, 0, 0) := rfl
theorem t62_43 : sm_at 62 43 = some (3, .getfield 67, 7, 5, 0) := rfl
theorem t62_46 : sm_at 62 46 = some (3, .getstatic 119, 1, 1000002, 0) := rfl
theorem t62_49 : sm_at 62 49 = some (1, .iload_n 3, 0, 0, 0) := rfl
theorem t62_50 : sm_at 62 50 = some (1, .iaload, 0, 0, 0) := rfl
theorem t62_51 : sm_at 62 51 = some (1, .iadd, 0, 0, 0) := rfl
theorem t62_52 : sm_at 62 52 = some (1, .aload_n 0, 0, 0, 0) := rfl
theorem t62_53 : sm_at 62 53 = some (3, .getfield 70, 7, 6, 0) := rfl
theorem t62_56 : sm_at 62 56 = some (3, .getstatic 122, 1, 1000003, 0) := rfl
theorem t62_59 : sm_at 62 59 = some (1, .iload_n 3, 0, 0, 0) := rfl
theorem t62_60 : sm_at 62 60 = some (1, .iaload, 0, 0, 0) := rfl
theorem t62_61 : sm_at 62 61 = some (1, .iadd, 0, 0, 0) := rfl
theorem t62_62 : sm_at 62 62 = some (3, .invokevirtual 125, 9, 3, 0) := rfl
theorem t62_65 : sm_at 62 65 = some (2, .istore 5, 0, 0, 0) := rfl
theorem t62_67 : sm_at 62 67 = some (1, .aload_n 1, 0, 0, 0) := rfl
theorem t62_68 : sm_at 62 68 = some (1, .aload_n 0, 0, 0, 0) := rfl
theorem t62_69 : sm_at 62 69 = some (3, .getfield 67, 7, 5, 0) := rfl
theorem t62_72 : sm_at 62 72 = some (1, .aload_n 0, 0, 0, 0) := rfl
theorem t62_73 : sm_at 62 73 = some (3, .getfield 70, 7, 6, 0) := rfl
theorem t62_76 : sm_at 62 76 = some (1, .aload_n 0, 0, 0, 0) := rfl
theorem t62_77 : sm_at 62 77 = some (3, .getfield 73, 7, 7, 0) := rfl
theorem t62_80 : sm_at 62 80 = some (3, .invokevirtual 94, 11, 4, 0) := rfl
theorem t62_83 : sm_at 62 83 = some (2, .istore 6, 0, 0, 0) := rfl
theorem t62_85 : sm_at 62 85 = some (1, .aload_n 0, 0, 0, 0) := rfl
theorem t62_86 : sm_at 62 86 = some (3, .getfield 34, 7, 3, 0) := rfl
theorem t62_89 : sm_at 62 89 = some (1, .iconst 0, 0, 0, 0) := rfl
theorem t62_90 : sm_at 62 90 = some (2, .iload 4, 0, 0, 0) := rfl
theorem t62_92 : sm_at 62 92 = some (1, .iconst (-1), 0, 0, 0) := rfl
theorem t62_93 : sm_at 62 93 = some (3, .if_icmp .ne 7, 0, 0, 0) := rfl
theorem t62_96 : sm_at 62 96 = some (1, .iconst 0, 0, 0, 0) := rfl
theorem t62_97 : sm_at 62 97 = some (3, .goto 13, 0, 0, 0) := rfl
theorem t62_100 : sm_at 62 100 = some (1, .aload_n 0, 0, 0, 0) := rfl
theorem t62_101 : sm_at 62 101 = some (3, .getfield 12, 7, 0, 0) := rfl
theorem t62_104 : sm_at 62 104 = some (3, .getfield 128, 6, 0, 0) := rfl
theorem t62_107 : sm_at 62 107 = some (2, .iload 4, 0, 0, 0) := rfl
set_option maxRecDepth 100000 in
theorem t62_109 : sm_at 62 109 = some (1, .iaload, 0, 0, 0) := rfl
set_option maxRecDepth 100000 in
theorem t62_110 : sm_at 62 110 = some (1, .iastore, 0, 0, 0) := rfl
set_option maxRecDepth 100000 in
theorem t62_111 : sm_at 62 111 = some (1, .aload_n 0, 0, 0, 0) := rfl
set_option maxRecDepth 100000 in
theorem t62_112 : sm_at 62 112 = some (3, .getfield 34, 7, 3, 0) := rfl
set_option maxRecDepth 100000 in
theorem t62_115 : sm_at 62 115 = some (1, .iconst 1, 0, 0, 0) := rfl
set_option maxRecDepth 100000 in
theorem t62_116 : sm_at 62 116 = some (2, .iload 5, 0, 0, 0) := rfl
set_option maxRecDepth 100000 in
theorem t62_118 : sm_at 62 118 = some (1, .iconst (-1), 0, 0, 0) := rfl
set_option maxRecDepth 100000 in
theorem t62_119 : sm_at 62 119 = some (3, .if_icmp .ne 7, 0, 0, 0) := rfl
set_option maxRecDepth 100000 in
theorem t62_122 : sm_at 62 122 = some (1, .iconst 0, 0, 0, 0) := rfl
set_option maxRecDepth 100000 in
theorem t62_123 : sm_at 62 123 = some (3, .goto 13, 0, 0, 0) := rfl
set_option maxRecDepth 100000 in
theorem t62_126 : sm_at 62 126 = some (1, .aload_n 0, 0, 0, 0) := rfl
set_option maxRecDepth 100000 in
theorem t62_127 : sm_at 62 127 = some (3, .getfield 12, 7, 0, 0) := rfl
set_option maxRecDepth 100000 in
theorem t62_130 : sm_at 62 130 = some (3, .getfield 128, 6, 0, 0) := rfl
set_option maxRecDepth 100000 in
theorem t62_133 : sm_at 62 133 = some (2, .iload 5, 0, 0, 0) := rfl
set_option maxRecDepth 100000 in
theorem t62_135 : sm_at 62 135 = some (1, .iaload, 0, 0, 0) := rfl
set_option maxRecDepth 100000 in
theorem t62_136 : sm_at 62 136 = some (1, .iastore, 0, 0, 0) := rfl
set_option maxRecDepth 100000 in
theorem t62_137 : sm_at 62 137 = some (1, .aload_n 0, 0, 0, 0) := rfl
set_option maxRecDepth 100000 in
theorem t62_138 : sm_at 62 138 = some (3, .getfield 34, 7, 3, 0) := rfl
set_option maxRecDepth 100000 in
theorem t62_141 : sm_at 62 141 = some (1, .iconst 2, 0, 0, 0) := rfl
set_option maxRecDepth 100000 in
theorem t62_142 : sm_at 62 142 = some (2, .iload 4, 0, 0, 0) := rfl
set_option maxRecDepth 100000 in
theorem t62_144 : sm_at 62 144 = some (1, .iconst (-1), 0, 0, 0) := rfl
set_option maxRecDepth 100000 in
theorem t62_145 : sm_at 62 145 = some (3, .if_icmp .ne 7, 0, 0, 0) := rfl
set_option maxRecDepth 100000 in
theorem t62_148 : sm_at 62 148 = some (1, .iconst 0, 0, 0, 0) := rfl
set_option maxRecDepth 100000 in
theorem t62_149 : sm_at 62 149 = some (3, .goto 13, 0, 0, 0) := rfl
set_option maxRecDepth 100000 in
theorem t62_152 : sm_at 62 152 = some (1, .aload_n 0, 0, 0, 0) := rfl
set_option maxRecDepth 100000 in
theorem t62_153 : sm_at 62 153 = some (3, .getfield 12, 7, 0, 0) := rfl
set_option maxRecDepth 100000 in
theorem t62_156 : sm_at 62 156 = some (3, .getfield 131, 6, 1, 0) := rfl
set_option maxRecDepth 100000 in
theorem t62_159 : sm_at 62 159 = some (2, .iload 4, 0, 0, 0) := rfl
set_option maxRecDepth 100000 in
theorem t62_161 : sm_at 62 161 = some (1, .iaload, 0, 0, 0) := rfl
set_option maxRecDepth 100000 in
theorem t62_162 : sm_at 62 162 = some (1, .iastore, 0, 0, 0) := rfl
set_option maxRecDepth 100000 in
theorem t62_163 : sm_at 62 163 = some (1, .aload_n 0, 0, 0, 0) := rfl
set_option maxRecDepth 100000 in
theorem t62_164 : sm_at 62 164 = some (3, .getfield 34, 7, 3, 0) := rfl
set_option maxRecDepth 100000 in
theorem t62_167 : sm_at 62 167 = some (1, .iconst 3, 0, 0, 0) := rfl
set_option maxRecDepth 100000 in
theorem t62_168 : sm_at 62 168 = some (2, .iload 5, 0, 0, 0) := rfl
set_option maxRecDepth 100000 in
theorem t62_170 : sm_at 62 170 = some (1, .iconst (-1), 0, 0, 0) := rfl
set_option maxRecDepth 100000 in
theorem t62_171 : sm_at 62 171 = some (3, .if_icmp .ne 7, 0, 0, 0) := rfl
set_option maxRecDepth 100000 in
theorem t62_174 : sm_at 62 174 = some (1, .iconst 0, 0, 0, 0) := rfl
set_option maxRecDepth 100000 in
theorem t62_175 : sm_at 62 175 = some (3, .goto 13, 0, 0, 0) := rfl
set_option maxRecDepth 100000 in
theorem t62_178 : sm_at 62 178 = some (1, .aload_n 0, 0, 0, 0) := rfl
set_option maxRecDepth 100000 in
theorem t62_179 : sm_at 62 179 = some (3, .getfield 12, 7, 0, 0) := rfl
set_option maxRecDepth 100000 in
theorem t62_182 : sm_at 62 182 = some (3, .getfield 131, 6, 1, 0) := rfl
set_option maxRecDepth 100000 in
theorem t62_185 : sm_at 62 185 = some (2, .iload 5, 0, 0, 0) := rfl
set_option maxRecDepth 100000 in
theorem t62_187 : sm_at 62 187 = some (1, .iaload, 0, 0, 0) := rfl
set_option maxRecDepth 100000 in
theorem t62_188 : sm_at 62 188 = some (1, .iastore, 0, 0, 0) := rfl
set_option maxRecDepth 100000 in
theorem t62_189 : sm_at 62 189 = some (1, .aload_n 0, 0, 0, 0) := rfl
set_option maxRecDepth 100000 in
theorem t62_190 : sm_at 62 190 = some (3, .getfield 34, 7, 3, 0) := rfl
set_option maxRecDepth 100000 in
theorem t62_193 : sm_at 62 193 = some (1, .iconst 4, 0, 0, 0) := rfl
set_option maxRecDepth 100000 in
theorem t62_194 : sm_at 62 194 = some (2, .iload 6, 0, 0, 0) := rfl
set_option maxRecDepth 100000 in
theorem t62_196 : sm_at 62 196 = some (1, .iconst (-1), 0, 0, 0) := rfl
set_option maxRecDepth 100000 in
theorem t62_197 : sm_at 62 197 = some (3, .if_icmp .eq 18, 0, 0, 0) := rfl
set_option maxRecDepth 100000 in
theorem t62_200 : sm_at 62 200 = some (1, .aload_n 2, 0, 0, 0) := rfl
set_option maxRecDepth 100000 in
theorem t62_201 : sm_at 62 201 = some (3, .getfield 134, 9, 0, 0) := rfl
set_option maxRecDepth 100000 in
theorem t62_204 : sm_at 62 204 = some (2, .iload 6, 0, 0, 0) := rfl
set_option maxRecDepth 100000 in
theorem t62_206 : sm_at 62 206 = some (1, .iaload, 0, 0, 0) := rfl
set_option maxRecDepth 100000 in
theorem t62_207 : sm_at 62 207 = some (1, .iconst (-1), 0, 0, 0) := rfl
set_option maxRecDepth 100000 in
theorem t62_208 : sm_at 62 208 = some (3, .if_icmp .eq 7, 0, 0, 0) := rfl
set_option maxRecDepth 100000 in
theorem t62_211 : sm_at 62 211 = some (1, .iconst 1, 0, 0, 0) := rfl
set_option maxRecDepth 100000 in
theorem t62_212 : sm_at 62 212 = some (3, .goto 4, 0, 0, 0) := rfl
set_option maxRecDepth 100000 in
theorem t62_215 : sm_at 62 215 = some (1, .iconst 0, 0, 0, 0) := rfl
set_option maxRecDepth 100000 in
theorem t62_216 : sm_at 62 216 = some (1, .iastore, 0, 0, 0) := rfl
set_option maxRecDepth 100000 in
theorem t62_217 : sm_at 62 217 = some (1, .aload_n 0, 0, 0, 0) := rfl
set_option maxRecDepth 100000 in
theorem t62_218 : sm_at 62 218 = some (3, .getfield 34, 7, 3, 0) := rfl
set_option maxRecDepth 100000 in
theorem t62_221 : sm_at 62 221 = some (1, .iconst 5, 0, 0, 0) := rfl
set_option maxRecDepth 100000 in
theorem t62_222 : sm_at 62 222 = some (2, .iload 6, 0, 0, 0) := rfl
set_option maxRecDepth 100000 in
theorem t62_224 : sm_at 62 224 = some (1, .iconst (-1), 0, 0, 0) := rfl
set_option maxRecDepth 100000 in
theorem t62_225 : sm_at 62 225 = some (3, .if_icmp .ne 7, 0, 0, 0) := rfl
set_option maxRecDepth 100000 in
theorem t62_228 : sm_at 62 228 = some (1, .iconst 1, 0, 0, 0) := rfl
set_option maxRecDepth 100000 in
theorem t62_229 : sm_at 62 229 = some (3, .goto 4, 0, 0, 0) := rfl
set_option maxRecDepth 100000 in
theorem t62_232 : sm_at 62 232 = some (1, .iconst 0, 0, 0, 0) := rfl
set_option maxRecDepth 100000 in
theorem t62_233 : sm_at 62 233 = some (1, .iastore, 0, 0, 0) := rfl
set_option maxRecDepth 100000 in
theorem t62_234 : sm_at 62 234 = some (1, .return_, 0, 0, 0) := rfl
set_option maxRecDepth 10000 in
theorem b62_0 {d : Nat} {r0 : Nat} {r1 : Nat} {l2 : Option sm_V} {l3 : Option sm_V} {l4 : Option sm_V} {l5 : Option sm_V} {l6 : Option sm_V} {Z : Nat → Nat → Int} {Rf : Nat → Nat → Option Nat} {K : Nat → Nat × Nat} {n z : Nat} {Q : Option sm_V → sm_S → Prop} : sm_wp (d + 1) 62 0 [some (.inr (some r0)), some (.inr (some r1)), l2, l3, l4, l5, l6] [] (Z, Rf, K, n, z) Q = ((K r0).1 = 7 ∧ (K r0).1 = 7 ∧ (K r0).1 = 7 ∧ sm_rd (K 1000002) (wr (Z r0 7)) ∧ (K r0).1 = 7 ∧ (K r0).1 = 7 ∧ sm_rd (K 1000003) (wr (Z r0 7)) ∧ (K r1).1 = 1 ∧ sm_call d 9 [.inr (some r1), .inl ((Z r0 5) + (Z 1000002 ((wr (Z r0 7)).toNat))), .inl ((Z r0 6) + (Z 1000003 ((wr (Z r0 7)).toNat)))] (Z, Rf, K, n, z) (sm_cont (d + 1) 62 39 [some (.inr (some r0)), some (.inr (some r1)), l2, some (.inl (sm_and ((Z r0 7) + 1) 3)), l4, l5, l6] [] Q)) := (w_aload_n t62_0 rfl rfl).trans ((w_getI t62_1 rfl (by decide)).trans (congrArg (And _) ((w_iconst t62_4 rfl).trans ((w_iadd t62_5 rfl).trans ((w_iconst t62_6 rfl).trans ((w_iand t62_7 rfl).trans ((w_istore_n t62_8 rfl (Nat.le_of_ble_eq_true rfl) rfl).trans ((w_aload_n t62_9 rfl rfl).trans ((w_aload_n t62_10 rfl rfl).trans ((w_getI t62_11 rfl (by decide)).trans (congrArg (And _) ((w_gs1 t62_14 rfl).trans ((w_aload_n t62_17 rfl rfl).trans ((w_getI t62_18 rfl (by decide)).trans (congrArg (And _) ((w_iald t62_21 rfl rfl).trans (congrArg (And _) ((w_iadd t62_22 rfl).trans ((w_aload_n t62_23 rfl rfl).trans ((w_getI t62_24 rfl (by decide)).trans (congrArg (And _) ((w_gs1 t62_27 rfl).trans ((w_aload_n t62_30 rfl rfl).trans ((w_getI t62_31 rfl (by decide)).trans (congrArg (And _) ((w_iald t62_34 rfl rfl).trans (congrArg (And _) ((w_iadd t62_35 rfl).trans (w_callV t62_36 rfl rfl rfl rfl (Nat.le_of_ble_eq_true rfl) (Nat.le_of_ble_eq_true rfl) rfl (by decide))))))))))))))))))))))))))))))
set_option maxRecDepth 10000 in
theorem b62_39 {d : Nat} {r0 : Nat} {r1 : Nat} {l2 : Option sm_V} {x3 : Int} {l4 : Option sm_V} {l5 : Option sm_V} {l6 : Option sm_V} {s0 : Int} {Z : Nat → Nat → Int} {Rf : Nat → Nat → Option Nat} {K : Nat → Nat × Nat} {n z : Nat} {Q : Option sm_V → sm_S → Prop} : sm_wp (d + 1) 62 39 [some (.inr (some r0)), some (.inr (some r1)), l2, some (.inl x3), l4, l5, l6] [.inl s0] (Z, Rf, K, n, z) Q = ((K r0).1 = 7 ∧ sm_rd (K 1000002) (wr x3) ∧ (K r0).1 = 7 ∧ sm_rd (K 1000003) (wr x3) ∧ (K r1).1 = 1 ∧ sm_call d 9 [.inr (some r1), .inl ((Z r0 5) + (Z 1000002 ((wr x3).toNat))), .inl ((Z r0 6) + (Z 1000003 ((wr x3).toNat)))] (Z, Rf, K, n, z) (sm_cont (d + 1) 62 65 [some (.inr (some r0)), some (.inr (some r1)), l2, some (.inl x3), some (.inl s0), l5, l6] [] Q)) := (w_istore t62_39 rfl (Nat.le_of_ble_eq_true rfl) rfl).trans ((w_aload_n t62_41 rfl rfl).trans ((w_aload_n t62_42 rfl rfl).trans ((w_getI t62_43 rfl (by decide)).trans (congrArg (And _) ((w_gs1 t62_46 rfl).trans ((w_iload_n t62_49 rfl rfl).trans ((w_iald t62_50 rfl rfl).trans (congrArg (And _) ((w_iadd t62_51 rfl).trans ((w_aload_n t62_52 rfl rfl).trans ((w_getI t62_53 rfl (by decide)).trans (congrArg (And _) ((w_gs1 t62_56 rfl).trans ((w_iload_n t62_59 rfl rfl).trans ((w_iald t62_60 rfl rfl).trans (congrArg (And _) ((w_iadd t62_61 rfl).trans (w_callV t62_62 rfl rfl rfl rfl (Nat.le_of_ble_eq_true rfl) (Nat.le_of_ble_eq_true rfl) rfl (by decide)))))))))))))))))))
set_option maxRecDepth 10000 in
theorem b62_65 {d : Nat} {r0 : Nat} {r1 : Nat} {l2 : Option sm_V} {l3 : Option sm_V} {l4 : Option sm_V} {l5 : Option sm_V} {l6 : Option sm_V} {s0 : Int} {Z : Nat → Nat → Int} {Rf : Nat → Nat → Option Nat} {K : Nat → Nat × Nat} {n z : Nat} {Q : Option sm_V → sm_S → Prop} : sm_wp (d + 1) 62 65 [some (.inr (some r0)), some (.inr (some r1)), l2, l3, l4, l5, l6] [.inl s0] (Z, Rf, K, n, z) Q = ((K r0).1 = 7 ∧ (K r0).1 = 7 ∧ (K r0).1 = 7 ∧ (K r1).1 = 1 ∧ sm_call d 11 [.inr (some r1), .inl (Z r0 5), .inl (Z r0 6), .inl (Z r0 7)] (Z, Rf, K, n, z) (sm_cont (d + 1) 62 83 [some (.inr (some r0)), some (.inr (some r1)), l2, l3, l4, some (.inl s0), l6] [] Q)) := (w_istore t62_65 rfl (Nat.le_of_ble_eq_true rfl) rfl).trans ((w_aload_n t62_67 rfl rfl).trans ((w_aload_n t62_68 rfl rfl).trans ((w_getI t62_69 rfl (by decide)).trans (congrArg (And _) ((w_aload_n t62_72 rfl rfl).trans ((w_getI t62_73 rfl (by decide)).trans (congrArg (And _) ((w_aload_n t62_76 rfl rfl).trans ((w_getI t62_77 rfl (by decide)).trans (congrArg (And _) (w_callV t62_80 rfl rfl rfl rfl (Nat.le_of_ble_eq_true rfl) (Nat.le_of_ble_eq_true rfl) rfl (by decide))))))))))))
set_option maxRecDepth 10000 in
theorem b62_83 {d : Nat} {r0 : Nat} {l1 : Option sm_V} {l2 : Option sm_V} {l3 : Option sm_V} {x4 : Int} {l5 : Option sm_V} {l6 : Option sm_V} {s0 : Int} {Z : Nat → Nat → Int} {Rf : Nat → Nat → Option Nat} {K : Nat → Nat × Nat} {n z : Nat} {Q : Option sm_V → sm_S → Prop} : sm_wp d 62 83 [some (.inr (some r0)), l1, l2, l3, some (.inl x4), l5, l6] [.inl s0] (Z, Rf, K, n, z) Q = ((K r0).1 = 7 ∧ (Rf r0 3).isSome = true ∧ (if wr x4 = (-1 : Int) then sm_wp d 62 96 [some (.inr (some r0)), l1, l2, l3, some (.inl x4), l5, some (.inl s0)] [.inl 0, .inr (some ((Rf r0 3).getD 0))] (Z, Rf, K, n, z) Q else sm_wp d 62 100 [some (.inr (some r0)), l1, l2, l3, some (.inl x4), l5, some (.inl s0)] [.inl 0, .inr (some ((Rf r0 3).getD 0))] (Z, Rf, K, n, z) Q)) := (w_istore t62_83 rfl (Nat.le_of_ble_eq_true rfl) rfl).trans ((w_aload_n t62_85 rfl rfl).trans ((w_getR t62_86 rfl (by decide)).trans (congrArg (And _) (congrArg (And _) ((w_iconst t62_89 rfl).trans ((w_iload t62_90 rfl rfl).trans ((w_iconst t62_92 rfl).trans (w_icne t62_93 rfl wl_m1 rfl rfl))))))))
set_option maxRecDepth 10000 in
theorem b62_96 {d : Nat} {l0 : Option sm_V} {l1 : Option sm_V} {l2 : Option sm_V} {l3 : Option sm_V} {l4 : Option sm_V} {l5 : Option sm_V} {l6 : Option sm_V} {qs0 : Option Nat} {s1 : Int} {Z : Nat → Nat → Int} {Rf : Nat → Nat → Option Nat} {K : Nat → Nat × Nat} {n z : Nat} {Q : Option sm_V → sm_S → Prop} : sm_wp d 62 96 [l0, l1, l2, l3, l4, l5, l6] [.inl s1, .inr qs0] (Z, Rf, K, n, z) Q = (sm_wp d 62 110 [l0, l1, l2, l3, l4, l5, l6] [.inl 0, .inl s1, .inr qs0] (Z, Rf, K, n, z) Q) := (w_iconst t62_96 rfl).trans (w_goto t62_97 rfl)
set_option maxRecDepth 10000 in
theorem b62_100 {d : Nat} {r0 : Nat} {l1 : Option sm_V} {l2 : Option sm_V} {l3 : Option sm_V} {x4 : Int} {l5 : Option sm_V} {l6 : Option sm_V} {qs0 : Option Nat} {s1 : Int} {Z : Nat → Nat → Int} {Rf : Nat → Nat → Option Nat} {K : Nat → Nat × Nat} {n z : Nat} {Q : Option sm_V → sm_S → Prop} : sm_wp d 62 100 [some (.inr (some r0)), l1, l2, l3, some (.inl x4), l5, l6] [.inl s1, .inr qs0] (Z, Rf, K, n, z) Q = ((K r0).1 = 7 ∧ (Rf r0 0).isSome = true ∧ (K (((Rf r0 0).getD 0))).1 = 6 ∧ (Rf (((Rf r0 0).getD 0)) 0).isSome = true ∧ sm_rd (K (((Rf (((Rf r0 0).getD 0)) 0).getD 0))) (wr x4) ∧ sm_wp d 62 110 [some (.inr (some r0)), l1, l2, l3, some (.inl x4), l5, l6] [.inl (Z (((Rf (((Rf r0 0).getD 0)) 0).getD 0)) ((wr x4).toNat)), .inl s1, .inr qs0] (Z, Rf, K, n, z) Q) := (w_aload_n t62_100 rfl rfl).trans ((w_getR t62_101 rfl (by decide)).trans (congrArg (And _) (congrArg (And _) ((w_getR t62_104 rfl (by decide)).trans (congrArg (And _) (congrArg (And _) ((w_iload t62_107 rfl rfl).trans ((w_iald t62_109 rfl rfl).trans (congrArg (And _) rfl)))))))))
set_option maxRecDepth 10000 in
theorem b62_110 {d : Nat} {r0 : Nat} {l1 : Option sm_V} {l2 : Option sm_V} {l3 : Option sm_V} {l4 : Option sm_V} {x5 : Int} {l6 : Option sm_V} {rs0 : Nat} {s1 : Int} {s2 : Int} {Z : Nat → Nat → Int} {Rf : Nat → Nat → Option Nat} {K : Nat → Nat × Nat} {n z : Nat} {Q : Option sm_V → sm_S → Prop} : sm_wp d 62 110 [some (.inr (some r0)), l1, l2, l3, l4, some (.inl x5), l6] [.inl s2, .inl s1, .inr (some rs0)] (Z, Rf, K, n, z) Q = (sm_wt (K rs0) (wr s1) ∧ (K r0).1 = 7 ∧ (Rf r0 3).isSome = true ∧ (if wr x5 = (-1 : Int) then sm_wp d 62 122 [some (.inr (some r0)), l1, l2, l3, l4, some (.inl x5), l6] [.inl 1, .inr (some ((Rf r0 3).getD 0))] (sm_u Z rs0 ((wr s1).toNat) s2, Rf, K, n, z) Q else sm_wp d 62 126 [some (.inr (some r0)), l1, l2, l3, l4, some (.inl x5), l6] [.inl 1, .inr (some ((Rf r0 3).getD 0))] (sm_u Z rs0 ((wr s1).toNat) s2, Rf, K, n, z) Q)) := (w_iast t62_110 rfl rfl).trans (congrArg (And _) ((w_aload_n t62_111 rfl rfl).trans ((w_getR t62_112 rfl (by decide)).trans (congrArg (And _) (congrArg (And _) ((w_iconst t62_115 rfl).trans ((w_iload t62_116 rfl rfl).trans ((w_iconst t62_118 rfl).trans (w_icne t62_119 rfl wl_m1 rfl rfl)))))))))
set_option maxRecDepth 10000 in
theorem b62_122 {d : Nat} {l0 : Option sm_V} {l1 : Option sm_V} {l2 : Option sm_V} {l3 : Option sm_V} {l4 : Option sm_V} {l5 : Option sm_V} {l6 : Option sm_V} {qs0 : Option Nat} {s1 : Int} {Z : Nat → Nat → Int} {Rf : Nat → Nat → Option Nat} {K : Nat → Nat × Nat} {n z : Nat} {Q : Option sm_V → sm_S → Prop} : sm_wp d 62 122 [l0, l1, l2, l3, l4, l5, l6] [.inl s1, .inr qs0] (Z, Rf, K, n, z) Q = (sm_wp d 62 136 [l0, l1, l2, l3, l4, l5, l6] [.inl 0, .inl s1, .inr qs0] (Z, Rf, K, n, z) Q) := (w_iconst t62_122 rfl).trans (w_goto t62_123 rfl)
set_option maxRecDepth 10000 in
theorem b62_126 {d : Nat} {r0 : Nat} {l1 : Option sm_V} {l2 : Option sm_V} {l3 : Option sm_V} {l4 : Option sm_V} {x5 : Int} {l6 : Option sm_V} {qs0 : Option Nat} {s1 : Int} {Z : Nat → Nat → Int} {Rf : Nat → Nat → Option Nat} {K : Nat → Nat × Nat} {n z : Nat} {Q : Option sm_V → sm_S → Prop} : sm_wp d 62 126 [some (.inr (some r0)), l1, l2, l3, l4, some (.inl x5), l6] [.inl s1, .inr qs0] (Z, Rf, K, n, z) Q = ((K r0).1 = 7 ∧ (Rf r0 0).isSome = true ∧ (K (((Rf r0 0).getD 0))).1 = 6 ∧ (Rf (((Rf r0 0).getD 0)) 0).isSome = true ∧ sm_rd (K (((Rf (((Rf r0 0).getD 0)) 0).getD 0))) (wr x5) ∧ sm_wp d 62 136 [some (.inr (some r0)), l1, l2, l3, l4, some (.inl x5), l6] [.inl (Z (((Rf (((Rf r0 0).getD 0)) 0).getD 0)) ((wr x5).toNat)), .inl s1, .inr qs0] (Z, Rf, K, n, z) Q) := (w_aload_n t62_126 rfl rfl).trans ((w_getR t62_127 rfl (by decide)).trans (congrArg (And _) (congrArg (And _) ((w_getR t62_130 rfl (by decide)).trans (congrArg (And _) (congrArg (And _) ((w_iload t62_133 rfl rfl).trans ((w_iald t62_135 rfl rfl).trans (congrArg (And _) rfl)))))))))
set_option maxRecDepth 10000 in
theorem b62_136 {d : Nat} {r0 : Nat} {l1 : Option sm_V} {l2 : Option sm_V} {l3 : Option sm_V} {x4 : Int} {l5 : Option sm_V} {l6 : Option sm_V} {rs0 : Nat} {s1 : Int} {s2 : Int} {Z : Nat → Nat → Int} {Rf : Nat → Nat → Option Nat} {K : Nat → Nat × Nat} {n z : Nat} {Q : Option sm_V → sm_S → Prop} : sm_wp d 62 136 [some (.inr (some r0)), l1, l2, l3, some (.inl x4), l5, l6] [.inl s2, .inl s1, .inr (some rs0)] (Z, Rf, K, n, z) Q = (sm_wt (K rs0) (wr s1) ∧ (K r0).1 = 7 ∧ (Rf r0 3).isSome = true ∧ (if wr x4 = (-1 : Int) then sm_wp d 62 148 [some (.inr (some r0)), l1, l2, l3, some (.inl x4), l5, l6] [.inl 2, .inr (some ((Rf r0 3).getD 0))] (sm_u Z rs0 ((wr s1).toNat) s2, Rf, K, n, z) Q else sm_wp d 62 152 [some (.inr (some r0)), l1, l2, l3, some (.inl x4), l5, l6] [.inl 2, .inr (some ((Rf r0 3).getD 0))] (sm_u Z rs0 ((wr s1).toNat) s2, Rf, K, n, z) Q)) := (w_iast t62_136 rfl rfl).trans (congrArg (And _) ((w_aload_n t62_137 rfl rfl).trans ((w_getR t62_138 rfl (by decide)).trans (congrArg (And _) (congrArg (And _) ((w_iconst t62_141 rfl).trans ((w_iload t62_142 rfl rfl).trans ((w_iconst t62_144 rfl).trans (w_icne t62_145 rfl wl_m1 rfl rfl)))))))))
set_option maxRecDepth 10000 in
theorem b62_148 {d : Nat} {l0 : Option sm_V} {l1 : Option sm_V} {l2 : Option sm_V} {l3 : Option sm_V} {l4 : Option sm_V} {l5 : Option sm_V} {l6 : Option sm_V} {qs0 : Option Nat} {s1 : Int} {Z : Nat → Nat → Int} {Rf : Nat → Nat → Option Nat} {K : Nat → Nat × Nat} {n z : Nat} {Q : Option sm_V → sm_S → Prop} : sm_wp d 62 148 [l0, l1, l2, l3, l4, l5, l6] [.inl s1, .inr qs0] (Z, Rf, K, n, z) Q = (sm_wp d 62 162 [l0, l1, l2, l3, l4, l5, l6] [.inl 0, .inl s1, .inr qs0] (Z, Rf, K, n, z) Q) := (w_iconst t62_148 rfl).trans (w_goto t62_149 rfl)
set_option maxRecDepth 10000 in
theorem b62_152 {d : Nat} {r0 : Nat} {l1 : Option sm_V} {l2 : Option sm_V} {l3 : Option sm_V} {x4 : Int} {l5 : Option sm_V} {l6 : Option sm_V} {qs0 : Option Nat} {s1 : Int} {Z : Nat → Nat → Int} {Rf : Nat → Nat → Option Nat} {K : Nat → Nat × Nat} {n z : Nat} {Q : Option sm_V → sm_S → Prop} : sm_wp d 62 152 [some (.inr (some r0)), l1, l2, l3, some (.inl x4), l5, l6] [.inl s1, .inr qs0] (Z, Rf, K, n, z) Q = ((K r0).1 = 7 ∧ (Rf r0 0).isSome = true ∧ (K (((Rf r0 0).getD 0))).1 = 6 ∧ (Rf (((Rf r0 0).getD 0)) 1).isSome = true ∧ sm_rd (K (((Rf (((Rf r0 0).getD 0)) 1).getD 0))) (wr x4) ∧ sm_wp d 62 162 [some (.inr (some r0)), l1, l2, l3, some (.inl x4), l5, l6] [.inl (Z (((Rf (((Rf r0 0).getD 0)) 1).getD 0)) ((wr x4).toNat)), .inl s1, .inr qs0] (Z, Rf, K, n, z) Q) := (w_aload_n t62_152 rfl rfl).trans ((w_getR t62_153 rfl (by decide)).trans (congrArg (And _) (congrArg (And _) ((w_getR t62_156 rfl (by decide)).trans (congrArg (And _) (congrArg (And _) ((w_iload t62_159 rfl rfl).trans ((w_iald t62_161 rfl rfl).trans (congrArg (And _) rfl)))))))))
set_option maxRecDepth 10000 in
theorem b62_162 {d : Nat} {r0 : Nat} {l1 : Option sm_V} {l2 : Option sm_V} {l3 : Option sm_V} {l4 : Option sm_V} {x5 : Int} {l6 : Option sm_V} {rs0 : Nat} {s1 : Int} {s2 : Int} {Z : Nat → Nat → Int} {Rf : Nat → Nat → Option Nat} {K : Nat → Nat × Nat} {n z : Nat} {Q : Option sm_V → sm_S → Prop} : sm_wp d 62 162 [some (.inr (some r0)), l1, l2, l3, l4, some (.inl x5), l6] [.inl s2, .inl s1, .inr (some rs0)] (Z, Rf, K, n, z) Q = (sm_wt (K rs0) (wr s1) ∧ (K r0).1 = 7 ∧ (Rf r0 3).isSome = true ∧ (if wr x5 = (-1 : Int) then sm_wp d 62 174 [some (.inr (some r0)), l1, l2, l3, l4, some (.inl x5), l6] [.inl 3, .inr (some ((Rf r0 3).getD 0))] (sm_u Z rs0 ((wr s1).toNat) s2, Rf, K, n, z) Q else sm_wp d 62 178 [some (.inr (some r0)), l1, l2, l3, l4, some (.inl x5), l6] [.inl 3, .inr (some ((Rf r0 3).getD 0))] (sm_u Z rs0 ((wr s1).toNat) s2, Rf, K, n, z) Q)) := (w_iast t62_162 rfl rfl).trans (congrArg (And _) ((w_aload_n t62_163 rfl rfl).trans ((w_getR t62_164 rfl (by decide)).trans (congrArg (And _) (congrArg (And _) ((w_iconst t62_167 rfl).trans ((w_iload t62_168 rfl rfl).trans ((w_iconst t62_170 rfl).trans (w_icne t62_171 rfl wl_m1 rfl rfl)))))))))
set_option maxRecDepth 10000 in
theorem b62_174 {d : Nat} {l0 : Option sm_V} {l1 : Option sm_V} {l2 : Option sm_V} {l3 : Option sm_V} {l4 : Option sm_V} {l5 : Option sm_V} {l6 : Option sm_V} {qs0 : Option Nat} {s1 : Int} {Z : Nat → Nat → Int} {Rf : Nat → Nat → Option Nat} {K : Nat → Nat × Nat} {n z : Nat} {Q : Option sm_V → sm_S → Prop} : sm_wp d 62 174 [l0, l1, l2, l3, l4, l5, l6] [.inl s1, .inr qs0] (Z, Rf, K, n, z) Q = (sm_wp d 62 188 [l0, l1, l2, l3, l4, l5, l6] [.inl 0, .inl s1, .inr qs0] (Z, Rf, K, n, z) Q) := (w_iconst t62_174 rfl).trans (w_goto t62_175 rfl)
set_option maxRecDepth 10000 in
theorem b62_178 {d : Nat} {r0 : Nat} {l1 : Option sm_V} {l2 : Option sm_V} {l3 : Option sm_V} {l4 : Option sm_V} {x5 : Int} {l6 : Option sm_V} {qs0 : Option Nat} {s1 : Int} {Z : Nat → Nat → Int} {Rf : Nat → Nat → Option Nat} {K : Nat → Nat × Nat} {n z : Nat} {Q : Option sm_V → sm_S → Prop} : sm_wp d 62 178 [some (.inr (some r0)), l1, l2, l3, l4, some (.inl x5), l6] [.inl s1, .inr qs0] (Z, Rf, K, n, z) Q = ((K r0).1 = 7 ∧ (Rf r0 0).isSome = true ∧ (K (((Rf r0 0).getD 0))).1 = 6 ∧ (Rf (((Rf r0 0).getD 0)) 1).isSome = true ∧ sm_rd (K (((Rf (((Rf r0 0).getD 0)) 1).getD 0))) (wr x5) ∧ sm_wp d 62 188 [some (.inr (some r0)), l1, l2, l3, l4, some (.inl x5), l6] [.inl (Z (((Rf (((Rf r0 0).getD 0)) 1).getD 0)) ((wr x5).toNat)), .inl s1, .inr qs0] (Z, Rf, K, n, z) Q) := (w_aload_n t62_178 rfl rfl).trans ((w_getR t62_179 rfl (by decide)).trans (congrArg (And _) (congrArg (And _) ((w_getR t62_182 rfl (by decide)).trans (congrArg (And _) (congrArg (And _) ((w_iload t62_185 rfl rfl).trans ((w_iald t62_187 rfl rfl).trans (congrArg (And _) rfl)))))))))
set_option maxRecDepth 10000 in
theorem b62_188 {d : Nat} {r0 : Nat} {l1 : Option sm_V} {l2 : Option sm_V} {l3 : Option sm_V} {l4 : Option sm_V} {l5 : Option sm_V} {x6 : Int} {rs0 : Nat} {s1 : Int} {s2 : Int} {Z : Nat → Nat → Int} {Rf : Nat → Nat → Option Nat} {K : Nat → Nat × Nat} {n z : Nat} {Q : Option sm_V → sm_S → Prop} : sm_wp d 62 188 [some (.inr (some r0)), l1, l2, l3, l4, l5, some (.inl x6)] [.inl s2, .inl s1, .inr (some rs0)] (Z, Rf, K, n, z) Q = (sm_wt (K rs0) (wr s1) ∧ (K r0).1 = 7 ∧ (Rf r0 3).isSome = true ∧ (if wr x6 = (-1 : Int) then sm_wp d 62 215 [some (.inr (some r0)), l1, l2, l3, l4, l5, some (.inl x6)] [.inl 4, .inr (some ((Rf r0 3).getD 0))] (sm_u Z rs0 ((wr s1).toNat) s2, Rf, K, n, z) Q else sm_wp d 62 200 [some (.inr (some r0)), l1, l2, l3, l4, l5, some (.inl x6)] [.inl 4, .inr (some ((Rf r0 3).getD 0))] (sm_u Z rs0 ((wr s1).toNat) s2, Rf, K, n, z) Q)) := (w_iast t62_188 rfl rfl).trans (congrArg (And _) ((w_aload_n t62_189 rfl rfl).trans ((w_getR t62_190 rfl (by decide)).trans (congrArg (And _) (congrArg (And _) ((w_iconst t62_193 rfl).trans ((w_iload t62_194 rfl rfl).trans ((w_iconst t62_196 rfl).trans (w_iceq t62_197 rfl wl_m1 rfl rfl)))))))))
set_option maxRecDepth 10000 in
theorem b62_200 {d : Nat} {l0 : Option sm_V} {l1 : Option sm_V} {r2 : Nat} {l3 : Option sm_V} {l4 : Option sm_V} {l5 : Option sm_V} {x6 : Int} {qs0 : Option Nat} {s1 : Int} {Z : Nat → Nat → Int} {Rf : Nat → Nat → Option Nat} {K : Nat → Nat × Nat} {n z : Nat} {Q : Option sm_V → sm_S → Prop} : sm_wp d 62 200 [l0, l1, some (.inr (some r2)), l3, l4, l5, some (.inl x6)] [.inl s1, .inr qs0] (Z, Rf, K, n, z) Q = ((K r2).1 = 9 ∧ (Rf r2 0).isSome = true ∧ sm_rd (K (((Rf r2 0).getD 0))) (wr x6) ∧ (if wr (Z (((Rf r2 0).getD 0)) ((wr x6).toNat)) = (-1 : Int) then sm_wp d 62 215 [l0, l1, some (.inr (some r2)), l3, l4, l5, some (.inl x6)] [.inl s1, .inr qs0] (Z, Rf, K, n, z) Q else sm_wp d 62 211 [l0, l1, some (.inr (some r2)), l3, l4, l5, some (.inl x6)] [.inl s1, .inr qs0] (Z, Rf, K, n, z) Q)) := (w_aload_n t62_200 rfl rfl).trans ((w_getR t62_201 rfl (by decide)).trans (congrArg (And _) (congrArg (And _) ((w_iload t62_204 rfl rfl).trans ((w_iald t62_206 rfl rfl).trans (congrArg (And _) ((w_iconst t62_207 rfl).trans (w_iceq t62_208 rfl wl_m1 rfl rfl))))))))
set_option maxRecDepth 10000 in
theorem b62_211 {d : Nat} {l0 : Option sm_V} {l1 : Option sm_V} {l2 : Option sm_V} {l3 : Option sm_V} {l4 : Option sm_V} {l5 : Option sm_V} {l6 : Option sm_V} {qs0 : Option Nat} {s1 : Int} {Z : Nat → Nat → Int} {Rf : Nat → Nat → Option Nat} {K : Nat → Nat × Nat} {n z : Nat} {Q : Option sm_V → sm_S → Prop} : sm_wp d 62 211 [l0, l1, l2, l3, l4, l5, l6] [.inl s1, .inr qs0] (Z, Rf, K, n, z) Q = (sm_wp d 62 216 [l0, l1, l2, l3, l4, l5, l6] [.inl 1, .inl s1, .inr qs0] (Z, Rf, K, n, z) Q) := (w_iconst t62_211 rfl).trans (w_goto t62_212 rfl)
set_option maxRecDepth 10000 in
theorem b62_215 {d : Nat} {l0 : Option sm_V} {l1 : Option sm_V} {l2 : Option sm_V} {l3 : Option sm_V} {l4 : Option sm_V} {l5 : Option sm_V} {l6 : Option sm_V} {qs0 : Option Nat} {s1 : Int} {Z : Nat → Nat → Int} {Rf : Nat → Nat → Option Nat} {K : Nat → Nat × Nat} {n z : Nat} {Q : Option sm_V → sm_S → Prop} : sm_wp d 62 215 [l0, l1, l2, l3, l4, l5, l6] [.inl s1, .inr qs0] (Z, Rf, K, n, z) Q = (sm_wp d 62 216 [l0, l1, l2, l3, l4, l5, l6] [.inl 0, .inl s1, .inr qs0] (Z, Rf, K, n, z) Q) := w_iconst t62_215 rfl
set_option maxRecDepth 10000 in
theorem b62_216 {d : Nat} {r0 : Nat} {l1 : Option sm_V} {l2 : Option sm_V} {l3 : Option sm_V} {l4 : Option sm_V} {l5 : Option sm_V} {x6 : Int} {rs0 : Nat} {s1 : Int} {s2 : Int} {Z : Nat → Nat → Int} {Rf : Nat → Nat → Option Nat} {K : Nat → Nat × Nat} {n z : Nat} {Q : Option sm_V → sm_S → Prop} : sm_wp d 62 216 [some (.inr (some r0)), l1, l2, l3, l4, l5, some (.inl x6)] [.inl s2, .inl s1, .inr (some rs0)] (Z, Rf, K, n, z) Q = (sm_wt (K rs0) (wr s1) ∧ (K r0).1 = 7 ∧ (Rf r0 3).isSome = true ∧ (if wr x6 = (-1 : Int) then sm_wp d 62 228 [some (.inr (some r0)), l1, l2, l3, l4, l5, some (.inl x6)] [.inl 5, .inr (some ((Rf r0 3).getD 0))] (sm_u Z rs0 ((wr s1).toNat) s2, Rf, K, n, z) Q else sm_wp d 62 232 [some (.inr (some r0)), l1, l2, l3, l4, l5, some (.inl x6)] [.inl 5, .inr (some ((Rf r0 3).getD 0))] (sm_u Z rs0 ((wr s1).toNat) s2, Rf, K, n, z) Q)) := (w_iast t62_216 rfl rfl).trans (congrArg (And _) ((w_aload_n t62_217 rfl rfl).trans ((w_getR t62_218 rfl (by decide)).trans (congrArg (And _) (congrArg (And _) ((w_iconst t62_221 rfl).trans ((w_iload t62_222 rfl rfl).trans ((w_iconst t62_224 rfl).trans (w_icne t62_225 rfl wl_m1 rfl rfl)))))))))
set_option maxRecDepth 10000 in
theorem b62_228 {d : Nat} {l0 : Option sm_V} {l1 : Option sm_V} {l2 : Option sm_V} {l3 : Option sm_V} {l4 : Option sm_V} {l5 : Option sm_V} {l6 : Option sm_V} {qs0 : Option Nat} {s1 : Int} {Z : Nat → Nat → Int} {Rf : Nat → Nat → Option Nat} {K : Nat → Nat × Nat} {n z : Nat} {Q : Option sm_V → sm_S → Prop} : sm_wp d 62 228 [l0, l1, l2, l3, l4, l5, l6] [.inl s1, .inr qs0] (Z, Rf, K, n, z) Q = (sm_wp d 62 233 [l0, l1, l2, l3, l4, l5, l6] [.inl 1, .inl s1, .inr qs0] (Z, Rf, K, n, z) Q) := (w_iconst t62_228 rfl).trans (w_goto t62_229 rfl)
set_option maxRecDepth 10000 in
theorem b62_232 {d : Nat} {l0 : Option sm_V} {l1 : Option sm_V} {l2 : Option sm_V} {l3 : Option sm_V} {l4 : Option sm_V} {l5 : Option sm_V} {l6 : Option sm_V} {qs0 : Option Nat} {s1 : Int} {Z : Nat → Nat → Int} {Rf : Nat → Nat → Option Nat} {K : Nat → Nat × Nat} {n z : Nat} {Q : Option sm_V → sm_S → Prop} : sm_wp d 62 232 [l0, l1, l2, l3, l4, l5, l6] [.inl s1, .inr qs0] (Z, Rf, K, n, z) Q = (sm_wp d 62 233 [l0, l1, l2, l3, l4, l5, l6] [.inl 0, .inl s1, .inr qs0] (Z, Rf, K, n, z) Q) := w_iconst t62_232 rfl
set_option maxRecDepth 10000 in
theorem b62_233 {d : Nat} {l0 : Option sm_V} {l1 : Option sm_V} {l2 : Option sm_V} {l3 : Option sm_V} {l4 : Option sm_V} {l5 : Option sm_V} {l6 : Option sm_V} {rs0 : Nat} {s1 : Int} {s2 : Int} {Z : Nat → Nat → Int} {Rf : Nat → Nat → Option Nat} {K : Nat → Nat × Nat} {n z : Nat} {Q : Option sm_V → sm_S → Prop} : sm_wp d 62 233 [l0, l1, l2, l3, l4, l5, l6] [.inl s2, .inl s1, .inr (some rs0)] (Z, Rf, K, n, z) Q = (sm_wt (K rs0) (wr s1) ∧ Q none (sm_u Z rs0 ((wr s1).toNat) s2, Rf, K, n, z)) := (w_iast t62_233 rfl rfl).trans (congrArg (And _) (w_vret t62_234))
theorem t63_0 : sm_at 63 0 = some (1, .iload_n 1, 0, 0, 0) := rfl
theorem t63_1 : sm_at 63 1 = some (27, .tableswitch 70 1 3 #[27, 44, 61], 0, 0, 0) := rfl
theorem t63_28 : sm_at 63 28 = some (1, .aload_n 0, 0, 0, 0) := rfl
theorem t63_29 : sm_at 63 29 = some (3, .getfield 73, 7, 7, 0) := rfl
theorem t63_32 : sm_at 63 32 = some (1, .iload_n 2, 0, 0, 0) := rfl
theorem t63_33 : sm_at 63 33 = some (3, .ifCond .eq 7, 0, 0, 0) := rfl
theorem t63_36 : sm_at 63 36 = some (1, .iconst 1, 0, 0, 0) := rfl
theorem t63_37 : sm_at 63 37 = some (3, .goto 4, 0, 0, 0) := rfl
theorem t63_40 : sm_at 63 40 = some (1, .iconst 3, 0, 0, 0) := rfl
theorem t63_41 : sm_at 63 41 = some (1, .iadd, 0, 0, 0) := rfl
theorem t63_42 : sm_at 63 42 = some (1, .iconst 3, 0, 0, 0) := rfl
theorem t63_43 : sm_at 63 43 = some (1, .iand, 0, 0, 0) := rfl
theorem t63_44 : sm_at 63 44 = some (1, .ireturn, 0, 0, 0) := rfl
theorem t63_45 : sm_at 63 45 = some (1, .aload_n 0, 0, 0, 0) := rfl
theorem t63_46 : sm_at 63 46 = some (3, .getfield 73, 7, 7, 0) := rfl
theorem t63_49 : sm_at 63 49 = some (1, .iload_n 2, 0, 0, 0) := rfl
theorem t63_50 : sm_at 63 50 = some (3, .ifCond .eq 7, 0, 0, 0) := rfl
theorem t63_53 : sm_at 63 53 = some (1, .iconst 3, 0, 0, 0) := rfl
theorem t63_54 : sm_at 63 54 = some (3, .goto 4, 0, 0, 0) := rfl
theorem t63_57 : sm_at 63 57 = some (1, .iconst 1, 0, 0, 0) := rfl
theorem t63_58 : sm_at 63 58 = some (1, .iadd, 0, 0, 0) := rfl
theorem t63_59 : sm_at 63 59 = some (1, .iconst 3, 0, 0, 0) := rfl
theorem t63_60 : sm_at 63 60 = some (1, .iand, 0, 0, 0) := rfl
theorem t63_61 : sm_at 63 61 = some (1, .ireturn, 0, 0, 0) := rfl
theorem t63_62 : sm_at 63 62 = some (1, .aload_n 0, 0, 0, 0) := rfl
theorem t63_63 : sm_at 63 63 = some (3, .getfield 73, 7, 7, 0) := rfl
theorem t63_66 : sm_at 63 66 = some (1, .iconst 2, 0, 0, 0) := rfl
theorem t63_67 : sm_at 63 67 = some (1, .iadd, 0, 0, 0) := rfl
theorem t63_68 : sm_at 63 68 = some (1, .iconst 3, 0, 0, 0) := rfl
theorem t63_69 : sm_at 63 69 = some (1, .iand, 0, 0, 0) := rfl
theorem t63_70 : sm_at 63 70 = some (1, .ireturn, 0, 0, 0) := rfl
theorem t63_71 : sm_at 63 71 = some (1, .aload_n 0, 0, 0, 0) := rfl
theorem t63_72 : sm_at 63 72 = some (3, .getfield 73, 7, 7, 0) := rfl
theorem t63_75 : sm_at 63 75 = some (1, .ireturn, 0, 0, 0) := rfl
set_option maxRecDepth 10000 in
theorem b63_0 {d : Nat} {l0 : Option sm_V} {x1 : Int} {l2 : Option sm_V} {Z : Nat → Nat → Int} {Rf : Nat → Nat → Option Nat} {K : Nat → Nat × Nat} {n z : Nat} {Q : Option sm_V → sm_S → Prop} : sm_wp d 63 0 [l0, some (.inl x1), l2] [] (Z, Rf, K, n, z) Q = (sm_wp d 63 (sm_sel (wr x1) 71 [(1, 28), (2, 45), (3, 62)]) [l0, some (.inl x1), l2] [] (Z, Rf, K, n, z) Q) := (w_iload_n t63_0 rfl rfl).trans (w_tsw t63_1 rfl rfl rfl (by decide))
set_option maxRecDepth 10000 in
theorem b63_28 {d : Nat} {r0 : Nat} {l1 : Option sm_V} {x2 : Int} {Z : Nat → Nat → Int} {Rf : Nat → Nat → Option Nat} {K : Nat → Nat × Nat} {n z : Nat} {Q : Option sm_V → sm_S → Prop} : sm_wp d 63 28 [some (.inr (some r0)), l1, some (.inl x2)] [] (Z, Rf, K, n, z) Q = ((K r0).1 = 7 ∧ (if wr x2 = 0 then sm_wp d 63 40 [some (.inr (some r0)), l1, some (.inl x2)] [.inl (Z r0 7)] (Z, Rf, K, n, z) Q else sm_wp d 63 36 [some (.inr (some r0)), l1, some (.inl x2)] [.inl (Z r0 7)] (Z, Rf, K, n, z) Q)) := (w_aload_n t63_28 rfl rfl).trans ((w_getI t63_29 rfl (by decide)).trans (congrArg (And _) ((w_iload_n t63_32 rfl rfl).trans (w_ifeq t63_33 rfl rfl rfl))))
set_option maxRecDepth 10000 in
theorem b63_36 {d : Nat} {l0 : Option sm_V} {l1 : Option sm_V} {l2 : Option sm_V} {s0 : Int} {Z : Nat → Nat → Int} {Rf : Nat → Nat → Option Nat} {K : Nat → Nat × Nat} {n z : Nat} {Q : Option sm_V → sm_S → Prop} : sm_wp d 63 36 [l0, l1, l2] [.inl s0] (Z, Rf, K, n, z) Q = (sm_wp d 63 41 [l0, l1, l2] [.inl 1, .inl s0] (Z, Rf, K, n, z) Q) := (w_iconst t63_36 rfl).trans (w_goto t63_37 rfl)
set_option maxRecDepth 10000 in
theorem b63_40 {d : Nat} {l0 : Option sm_V} {l1 : Option sm_V} {l2 : Option sm_V} {s0 : Int} {Z : Nat → Nat → Int} {Rf : Nat → Nat → Option Nat} {K : Nat → Nat × Nat} {n z : Nat} {Q : Option sm_V → sm_S → Prop} : sm_wp d 63 40 [l0, l1, l2] [.inl s0] (Z, Rf, K, n, z) Q = (sm_wp d 63 41 [l0, l1, l2] [.inl 3, .inl s0] (Z, Rf, K, n, z) Q) := w_iconst t63_40 rfl
set_option maxRecDepth 10000 in
theorem b63_41 {d : Nat} {l0 : Option sm_V} {l1 : Option sm_V} {l2 : Option sm_V} {s0 : Int} {s1 : Int} {Z : Nat → Nat → Int} {Rf : Nat → Nat → Option Nat} {K : Nat → Nat × Nat} {n z : Nat} {Q : Option sm_V → sm_S → Prop} : sm_wp d 63 41 [l0, l1, l2] [.inl s1, .inl s0] (Z, Rf, K, n, z) Q = (Q (some (.inl (sm_and (s0 + s1) 3))) (Z, Rf, K, n, z)) := (w_iadd t63_41 rfl).trans ((w_iconst t63_42 rfl).trans ((w_iand t63_43 rfl).trans (w_iret t63_44)))
set_option maxRecDepth 10000 in
theorem b63_45 {d : Nat} {r0 : Nat} {l1 : Option sm_V} {x2 : Int} {Z : Nat → Nat → Int} {Rf : Nat → Nat → Option Nat} {K : Nat → Nat × Nat} {n z : Nat} {Q : Option sm_V → sm_S → Prop} : sm_wp d 63 45 [some (.inr (some r0)), l1, some (.inl x2)] [] (Z, Rf, K, n, z) Q = ((K r0).1 = 7 ∧ (if wr x2 = 0 then sm_wp d 63 57 [some (.inr (some r0)), l1, some (.inl x2)] [.inl (Z r0 7)] (Z, Rf, K, n, z) Q else sm_wp d 63 53 [some (.inr (some r0)), l1, some (.inl x2)] [.inl (Z r0 7)] (Z, Rf, K, n, z) Q)) := (w_aload_n t63_45 rfl rfl).trans ((w_getI t63_46 rfl (by decide)).trans (congrArg (And _) ((w_iload_n t63_49 rfl rfl).trans (w_ifeq t63_50 rfl rfl rfl))))
set_option maxRecDepth 10000 in
theorem b63_53 {d : Nat} {l0 : Option sm_V} {l1 : Option sm_V} {l2 : Option sm_V} {s0 : Int} {Z : Nat → Nat → Int} {Rf : Nat → Nat → Option Nat} {K : Nat → Nat × Nat} {n z : Nat} {Q : Option sm_V → sm_S → Prop} : sm_wp d 63 53 [l0, l1, l2] [.inl s0] (Z, Rf, K, n, z) Q = (sm_wp d 63 58 [l0, l1, l2] [.inl 3, .inl s0] (Z, Rf, K, n, z) Q) := (w_iconst t63_53 rfl).trans (w_goto t63_54 rfl)
set_option maxRecDepth 10000 in
theorem b63_57 {d : Nat} {l0 : Option sm_V} {l1 : Option sm_V} {l2 : Option sm_V} {s0 : Int} {Z : Nat → Nat → Int} {Rf : Nat → Nat → Option Nat} {K : Nat → Nat × Nat} {n z : Nat} {Q : Option sm_V → sm_S → Prop} : sm_wp d 63 57 [l0, l1, l2] [.inl s0] (Z, Rf, K, n, z) Q = (sm_wp d 63 58 [l0, l1, l2] [.inl 1, .inl s0] (Z, Rf, K, n, z) Q) := w_iconst t63_57 rfl
set_option maxRecDepth 10000 in
theorem b63_58 {d : Nat} {l0 : Option sm_V} {l1 : Option sm_V} {l2 : Option sm_V} {s0 : Int} {s1 : Int} {Z : Nat → Nat → Int} {Rf : Nat → Nat → Option Nat} {K : Nat → Nat × Nat} {n z : Nat} {Q : Option sm_V → sm_S → Prop} : sm_wp d 63 58 [l0, l1, l2] [.inl s1, .inl s0] (Z, Rf, K, n, z) Q = (Q (some (.inl (sm_and (s0 + s1) 3))) (Z, Rf, K, n, z)) := (w_iadd t63_58 rfl).trans ((w_iconst t63_59 rfl).trans ((w_iand t63_60 rfl).trans (w_iret t63_61)))
set_option maxRecDepth 10000 in
theorem b63_62 {d : Nat} {r0 : Nat} {l1 : Option sm_V} {l2 : Option sm_V} {Z : Nat → Nat → Int} {Rf : Nat → Nat → Option Nat} {K : Nat → Nat × Nat} {n z : Nat} {Q : Option sm_V → sm_S → Prop} : sm_wp d 63 62 [some (.inr (some r0)), l1, l2] [] (Z, Rf, K, n, z) Q = ((K r0).1 = 7 ∧ Q (some (.inl (sm_and ((Z r0 7) + 2) 3))) (Z, Rf, K, n, z)) := (w_aload_n t63_62 rfl rfl).trans ((w_getI t63_63 rfl (by decide)).trans (congrArg (And _) ((w_iconst t63_66 rfl).trans ((w_iadd t63_67 rfl).trans ((w_iconst t63_68 rfl).trans ((w_iand t63_69 rfl).trans (w_iret t63_70)))))))
set_option maxRecDepth 10000 in
theorem b63_71 {d : Nat} {r0 : Nat} {l1 : Option sm_V} {l2 : Option sm_V} {Z : Nat → Nat → Int} {Rf : Nat → Nat → Option Nat} {K : Nat → Nat × Nat} {n z : Nat} {Q : Option sm_V → sm_S → Prop} : sm_wp d 63 71 [some (.inr (some r0)), l1, l2] [] (Z, Rf, K, n, z) Q = ((K r0).1 = 7 ∧ Q (some (.inl (Z r0 7))) (Z, Rf, K, n, z)) := (w_aload_n t63_71 rfl rfl).trans ((w_getI t63_72 rfl (by decide)).trans (congrArg (And _) (w_iret t63_75)))
theorem t64_0 : sm_at 64 0 = some (1, .aload_n 0, 0, 0, 0) := rfl
theorem t64_1 : sm_at 64 1 = some (3, .invokespecial 3, 1001, 1, 0) := rfl
theorem t64_4 : sm_at 64 4 = some (1, .aload_n 0, 0, 0, 0) := rfl
theorem t64_5 : sm_at 64 5 = some (3, .new 9, 9, 0, 0) := rfl
theorem t64_8 : sm_at 64 8 = some (1, .dup, 0, 0, 0) := rfl
theorem t64_9 : sm_at 64 9 = some (1, .iconst 0, 0, 0, 0) := rfl
theorem t64_10 : sm_at 64 10 = some (3, .invokespecial 11, 75, 2, 0) := rfl
theorem t64_13 : sm_at 64 13 = some (3, .putfield 14, 8, 0, 0) := rfl
theorem t64_16 : sm_at 64 16 = some (1, .aload_n 0, 0, 0, 0) := rfl
theorem t64_17 : sm_at 64 17 = some (2, .bipush 36, 0, 0, 0) := rfl
theorem t64_19 : sm_at 64 19 = some (2, .newarray .int, 0, 0, 0) := rfl
theorem t64_21 : sm_at 64 21 = some (3, .putfield 20, 8, 1, 0) := rfl
theorem t64_24 : sm_at 64 24 = some (1, .return_, 0, 0, 0) := rfl
set_option maxRecDepth 10000 in
theorem b64_0 {d : Nat} {r0 : Nat} {Z : Nat → Nat → Int} {Rf : Nat → Nat → Option Nat} {K : Nat → Nat × Nat} {n z : Nat} {Q : Option sm_V → sm_S → Prop} : sm_wp (d + 1) 64 0 [some (.inr (some r0))] [] (Z, Rf, K, n, z) Q = (n < 1000000 ∧ ((sm_k K n (9, 3)) n).1 = 9 ∧ sm_call d 75 [.inr (some n), .inl 0] (sm_r Z n (fun _ => 0), sm_r Rf n (fun _ => none), sm_k K n (9, 3), n + 1, z + 3) (sm_cont (d + 1) 64 13 [some (.inr (some r0))] [.inr (some n), .inr (some r0)] Q)) := (w_aload_n t64_0 rfl rfl).trans ((w_oinit t64_1 rfl (Nat.le_of_ble_eq_true rfl)).trans ((w_aload_n t64_4 rfl rfl).trans ((w_new t64_5 rfl (by decide) rfl).trans (congrArg (And _) ((w_dup t64_8 rfl).trans ((w_iconst t64_9 rfl).trans (w_callV t64_10 rfl rfl rfl rfl (Nat.le_of_ble_eq_true rfl) (Nat.le_of_ble_eq_true rfl) rfl (by decide))))))))
set_option maxRecDepth 10000 in
theorem b64_13 {d : Nat} {r0 : Nat} {rs0 : Nat} {qs1 : Option Nat} {Z : Nat → Nat → Int} {Rf : Nat → Nat → Option Nat} {K : Nat → Nat × Nat} {n z : Nat} {Q : Option sm_V → sm_S → Prop} : sm_wp d 64 13 [some (.inr (some r0))] [.inr qs1, .inr (some rs0)] (Z, Rf, K, n, z) Q = ((K rs0).1 = 8 ∧ (n < 1000000 ∧ 0 ≤ (36 : Int) ∧ (36 : Int) ≤ 65536) ∧ ((sm_k K n (100, 36)) r0).1 = 8 ∧ Q none (sm_r Z n (fun _ => 0), sm_u (sm_r (sm_u Rf rs0 0 qs1) n (fun _ => none)) r0 1 (some n), sm_k K n (100, 36), n + 1, z + 36)) := (w_putR t64_13 rfl (by decide)).trans (congrArg (And _) ((w_aload_n t64_16 rfl rfl).trans ((w_bipush t64_17 rfl).trans ((w_newa t64_19 rfl wl_36).trans (congrArg (And _) ((w_putR t64_21 rfl (by decide)).trans (congrArg (And _) (w_vret t64_24))))))))
theorem t65_0 : sm_at 65 0 = some (1, .aload_n 2, 0, 0, 0) := rfl
theorem t65_1 : sm_at 65 1 = some (3, .getfield 24, 7, 0, 0) := rfl
theorem t65_4 : sm_at 65 4 = some (1, .aload_n 1, 0, 0, 0) := rfl
theorem t65_5 : sm_at 65 5 = some (3, .invokevirtual 30, 57, 2, 0) := rfl
theorem t65_8 : sm_at 65 8 = some (1, .aload_n 2, 0, 0, 0) := rfl
theorem t65_9 : sm_at 65 9 = some (1, .aload_n 1, 0, 0, 0) := rfl
theorem t65_10 : sm_at 65 10 = some (1, .aload_n 0, 0, 0, 0) := rfl
theorem t65_11 : sm_at 65 11 = some (3, .getfield 14, 8, 0, 0) := rfl
theorem t65_14 : sm_at 65 14 = some (3, .invokevirtual 36, 60, 3, 0) := rfl
theorem t65_17 : sm_at 65 17 = some (1, .aload_n 2, 0, 0, 0) := rfl
theorem t65_18 : sm_at 65 18 = some (3, .getfield 40, 7, 2, 0) := rfl
theorem t65_21 : sm_at 65 21 = some (1, .iload_n 3, 0, 0, 0) := rfl
theorem t65_22 : sm_at 65 22 = some (2, .iload 4, 0, 0, 0) := rfl
theorem t65_24 : sm_at 65 24 = some (3, .invokevirtual 44, 54, 3, 0) := rfl
theorem t65_27 : sm_at 65 27 = some (1, .ireturn, 0, 0, 0) := rfl
set_option maxRecDepth 10000 in
theorem b65_0 {d : Nat} {l0 : Option sm_V} {q1 : Option Nat} {r2 : Nat} {l3 : Option sm_V} {l4 : Option sm_V} {Z : Nat → Nat → Int} {Rf : Nat → Nat → Option Nat} {K : Nat → Nat × Nat} {n z : Nat} {Q : Option sm_V → sm_S → Prop} : sm_wp (d + 1) 65 0 [l0, some (.inr q1), some (.inr (some r2)), l3, l4] [] (Z, Rf, K, n, z) Q = ((K r2).1 = 7 ∧ (Rf r2 0).isSome = true ∧ (K (((Rf r2 0).getD 0))).1 = 6 ∧ sm_call d 57 [.inr (some ((Rf r2 0).getD 0)), .inr q1] (Z, Rf, K, n, z) (sm_cont (d + 1) 65 8 [l0, some (.inr q1), some (.inr (some r2)), l3, l4] [] Q)) := (w_aload_n t65_0 rfl rfl).trans ((w_getR t65_1 rfl (by decide)).trans (congrArg (And _) (congrArg (And _) ((w_aload_n t65_4 rfl rfl).trans (w_callV t65_5 rfl rfl rfl rfl (Nat.le_of_ble_eq_true rfl) (Nat.le_of_ble_eq_true rfl) rfl (by decide))))))
set_option maxRecDepth 10000 in
theorem b65_8 {d : Nat} {r0 : Nat} {q1 : Option Nat} {r2 : Nat} {l3 : Option sm_V} {l4 : Option sm_V} {Z : Nat → Nat → Int} {Rf : Nat → Nat → Option Nat} {K : Nat → Nat × Nat} {n z : Nat} {Q : Option sm_V → sm_S → Prop} : sm_wp (d + 1) 65 8 [some (.inr (some r0)), some (.inr q1), some (.inr (some r2)), l3, l4] [] (Z, Rf, K, n, z) Q = ((K r0).1 = 8 ∧ (Rf r0 0).isSome = true ∧ (K r2).1 = 7 ∧ sm_call d 60 [.inr (some r2), .inr q1, .inr (some ((Rf r0 0).getD 0))] (Z, Rf, K, n, z) (sm_cont (d + 1) 65 17 [some (.inr (some r0)), some (.inr q1), some (.inr (some r2)), l3, l4] [] Q)) := (w_aload_n t65_8 rfl rfl).trans ((w_aload_n t65_9 rfl rfl).trans ((w_aload_n t65_10 rfl rfl).trans ((w_getR t65_11 rfl (by decide)).trans (congrArg (And _) (congrArg (And _) (w_callV t65_14 rfl rfl rfl rfl (Nat.le_of_ble_eq_true rfl) (Nat.le_of_ble_eq_true rfl) rfl (by decide)))))))
set_option maxRecDepth 10000 in
theorem b65_17 {d : Nat} {l0 : Option sm_V} {l1 : Option sm_V} {r2 : Nat} {x3 : Int} {x4 : Int} {Z : Nat → Nat → Int} {Rf : Nat → Nat → Option Nat} {K : Nat → Nat × Nat} {n z : Nat} {Q : Option sm_V → sm_S → Prop} : sm_wp (d + 1) 65 17 [l0, l1, some (.inr (some r2)), some (.inl x3), some (.inl x4)] [] (Z, Rf, K, n, z) Q = ((K r2).1 = 7 ∧ (Rf r2 2).isSome = true ∧ (K (((Rf r2 2).getD 0))).1 = 5 ∧ sm_call d 54 [.inr (some ((Rf r2 2).getD 0)), .inl x3, .inl x4] (Z, Rf, K, n, z) (sm_cont (d + 1) 65 27 [l0, l1, some (.inr (some r2)), some (.inl x3), some (.inl x4)] [] Q)) := (w_aload_n t65_17 rfl rfl).trans ((w_getR t65_18 rfl (by decide)).trans (congrArg (And _) (congrArg (And _) ((w_iload_n t65_21 rfl rfl).trans ((w_iload t65_22 rfl rfl).trans (w_callV t65_24 rfl rfl rfl rfl (Nat.le_of_ble_eq_true rfl) (Nat.le_of_ble_eq_true rfl) rfl (by decide)))))))
set_option maxRecDepth 10000 in
theorem b65_27 {d : Nat} {l0 : Option sm_V} {l1 : Option sm_V} {l2 : Option sm_V} {l3 : Option sm_V} {l4 : Option sm_V} {s0 : Int} {Z : Nat → Nat → Int} {Rf : Nat → Nat → Option Nat} {K : Nat → Nat × Nat} {n z : Nat} {Q : Option sm_V → sm_S → Prop} : sm_wp d 65 27 [l0, l1, l2, l3, l4] [.inl s0] (Z, Rf, K, n, z) Q = (Q (some (.inl s0)) (Z, Rf, K, n, z)) := w_iret t65_27
theorem t66_0 : sm_at 66 0 = some (1, .aload_n 0, 0, 0, 0) := rfl
theorem t66_1 : sm_at 66 1 = some (1, .iconst 0, 0, 0, 0) := rfl
theorem t66_2 : sm_at 66 2 = some (3, .putfield 50, 8, 7, 0) := rfl
theorem t66_5 : sm_at 66 5 = some (1, .aload_n 0, 0, 0, 0) := rfl
theorem t66_6 : sm_at 66 6 = some (1, .aload_n 1, 0, 0, 0) := rfl
theorem t66_7 : sm_at 66 7 = some (3, .invokevirtual 54, 67, 2, 0) := rfl
theorem t66_10 : sm_at 66 10 = some (1, .aload_n 2, 0, 0, 0) := rfl
theorem t66_11 : sm_at 66 11 = some (3, .getfield 24, 7, 0, 0) := rfl
theorem t66_14 : sm_at 66 14 = some (1, .aload_n 1, 0, 0, 0) := rfl
theorem t66_15 : sm_at 66 15 = some (3, .invokevirtual 30, 57, 2, 0) := rfl
theorem t66_18 : sm_at 66 18 = some (1, .aload_n 0, 0, 0, 0) := rfl
theorem t66_19 : sm_at 66 19 = some (1, .aload_n 1, 0, 0, 0) := rfl
theorem t66_20 : sm_at 66 20 = some (1, .aload_n 2, 0, 0, 0) := rfl
theorem t66_21 : sm_at 66 21 = some (1, .iconst (-1), 0, 0, 0) := rfl
theorem t66_22 : sm_at 66 22 = some (1, .iconst (-1), 0, 0, 0) := rfl
theorem t66_23 : sm_at 66 23 = some (1, .iload_n 3, 0, 0, 0) := rfl
theorem t66_24 : sm_at 66 24 = some (2, .iload 4, 0, 0, 0) := rfl
theorem t66_26 : sm_at 66 26 = some (3, .invokevirtual 57, 68, 7, 0) := rfl
theorem t66_29 : sm_at 66 29 = some (1, .iconst 0, 0, 0, 0) := rfl
theorem t66_30 : sm_at 66 30 = some (2, .istore 5, 0, 0, 0) := rfl
theorem t66_32 : sm_at 66 32 = some (2, .iload 5, 0, 0, 0) := rfl
theorem t66_34 : sm_at 66 34 = some (1, .aload_n 0, 0, 0, 0) := rfl
theorem t66_35 : sm_at 66 35 = some (3, .getfield 61, 8, 2, 0) := rfl
theorem t66_38 : sm_at 66 38 = some (3, .if_icmp .ge 26, 0, 0, 0) := rfl
theorem t66_41 : sm_at 66 41 = some (1, .aload_n 0, 0, 0, 0) := rfl
theorem t66_42 : sm_at 66 42 = some (1, .aload_n 1, 0, 0, 0) := rfl
theorem t66_43 : sm_at 66 43 = some (1, .aload_n 2, 0, 0, 0) := rfl
theorem t66_44 : sm_at 66 44 = some (1, .aload_n 0, 0, 0, 0) := rfl
theorem t66_45 : sm_at 66 45 = some (3, .getfield 20, 8, 1, 0) := rfl
theorem t66_48 : sm_at 66 48 = some (2, .iload 5, 0, 0, 0) := rfl
theorem t66_50 : sm_at 66 50 = some (1, .iaload, 0, 0, 0) := rfl
theorem t66_51 : sm_at 66 51 = some (1, .iconst (-1), 0, 0, 0) := rfl
theorem t66_52 : sm_at 66 52 = some (1, .iload_n 3, 0, 0, 0) := rfl
theorem t66_53 : sm_at 66 53 = some (2, .iload 4, 0, 0, 0) := rfl
theorem t66_55 : sm_at 66 55 = some (3, .invokevirtual 57, 68, 7, 0) := rfl
theorem t66_58 : sm_at 66 58 = some (3, .iinc 5 1, 0, 0, 0) := rfl
theorem t66_61 : sm_at 66 61 = some (3, .goto (-29), 0, 0, 0) := rfl
theorem t66_64 : sm_at 66 64 = some (1, .iconst 0, 0, 0, 0) := rfl
theorem t66_65 : sm_at 66 65 = some (2, .istore 5, 0, 0, 0) := rfl
theorem t66_67 : sm_at 66 67 = some (2, .iload 5, 0, 0, 0) := rfl
theorem t66_69 : sm_at 66 69 = some (1, .aload_n 0, 0, 0, 0) := rfl
theorem t66_70 : sm_at 66 70 = some (3, .getfield 61, 8, 2, 0) := rfl
theorem t66_73 : sm_at 66 73 = some (3, .if_icmp .ge 53, 0, 0, 0) := rfl
theorem t66_76 : sm_at 66 76 = some (2, .iload 5, 0, 0, 0) := rfl
theorem t66_78 : sm_at 66 78 = some (1, .iconst 1, 0, 0, 0) := rfl
theorem t66_79 : sm_at 66 79 = some (1, .iadd, 0, 0, 0) := rfl
theorem t66_80 : sm_at 66 80 = some (2, .istore 6, 0, 0, 0) := rfl
theorem t66_82 : sm_at 66 82 = some (2, .iload 6, 0, 0, 0) := rfl
theorem t66_84 : sm_at 66 84 = some (1, .aload_n 0, 0, 0, 0) := rfl
theorem t66_85 : sm_at 66 85 = some (3, .getfield 61, 8, 2, 0) := rfl
theorem t66_88 : sm_at 66 88 = some (3, .if_icmp .ge 32, 0, 0, 0) := rfl
theorem t66_91 : sm_at 66 91 = some (1, .aload_n 0, 0, 0, 0) := rfl
theorem t66_92 : sm_at 66 92 = some (1, .aload_n 1, 0, 0, 0) := rfl
theorem t66_93 : sm_at 66 93 = some (1, .aload_n 2, 0, 0, 0) := rfl
theorem t66_94 : sm_at 66 94 = some (1, .aload_n 0, 0, 0, 0) := rfl
theorem t66_95 : sm_at 66 95 = some (3, .getfield 20, 8, 1, 0) := rfl
theorem t66_98 : sm_at 66 98 = some (2, .iload 5, 0, 0, 0) := rfl
theorem t66_100 : sm_at 66 100 = some (1, .iaload, 0, 0, 0) := rfl
theorem t66_101 : sm_at 66 101 = some (1, .aload_n 0, 0, 0, 0) := rfl
theorem t66_102 : sm_at 66 102 = some (3, .getfield 20, 8, 1, 0) := rfl
set_option maxRecDepth 100000 in
theorem t66_105 : sm_at 66 105 = some (2, .iload 6, 0, 0, 0) := rfl
set_option maxRecDepth 100000 in
theorem t66_107 : sm_at 66 107 = some (1, .iaload, 0, 0, 0) := rfl
set_option maxRecDepth 100000 in
theorem t66_108 : sm_at 66 108 = some (1, .iload_n 3, 0, 0, 0) := rfl
set_option maxRecDepth 100000 in
theorem t66_109 : sm_at 66 109 = some (2, .iload 4, 0, 0, 0) := rfl
set_option maxRecDepth 100000 in
theorem t66_111 : sm_at 66 111 = some (3, .invokevirtual 57, 68, 7, 0) := rfl
set_option maxRecDepth 100000 in
theorem t66_114 : sm_at 66 114 = some (3, .iinc 6 1, 0, 0, 0) := rfl
set_option maxRecDepth 100000 in
theorem t66_117 : sm_at 66 117 = some (3, .goto (-35), 0, 0, 0) := rfl
set_option maxRecDepth 100000 in
theorem t66_120 : sm_at 66 120 = some (3, .iinc 5 1, 0, 0, 0) := rfl
set_option maxRecDepth 100000 in
theorem t66_123 : sm_at 66 123 = some (3, .goto (-56), 0, 0, 0) := rfl
set_option maxRecDepth 100000 in
theorem t66_126 : sm_at 66 126 = some (1, .aload_n 0, 0, 0, 0) := rfl
set_option maxRecDepth 100000 in
theorem t66_127 : sm_at 66 127 = some (3, .getfield 50, 8, 7, 0) := rfl
set_option maxRecDepth 100000 in
theorem t66_130 : sm_at 66 130 = some (1, .ireturn, 1, 0, 0) := rfl
set_option maxRecDepth 10000 in
theorem b66_0 {d : Nat} {r0 : Nat} {q1 : Option Nat} {l2 : Option sm_V} {l3 : Option sm_V} {l4 : Option sm_V} {l5 : Option sm_V} {l6 : Option sm_V} {Z : Nat → Nat → Int} {Rf : Nat → Nat → Option Nat} {K : Nat → Nat × Nat} {n z : Nat} {Q : Option sm_V → sm_S → Prop} : sm_wp (d + 1) 66 0 [some (.inr (some r0)), some (.inr q1), l2, l3, l4, l5, l6] [] (Z, Rf, K, n, z) Q = ((K r0).1 = 8 ∧ ((0 : Int) = 0 ∨ (0 : Int) = 1) ∧ (K r0).1 = 8 ∧ sm_call d 67 [.inr (some r0), .inr q1] (sm_u Z r0 7 0, Rf, K, n, z) (sm_cont (d + 1) 66 10 [some (.inr (some r0)), some (.inr q1), l2, l3, l4, l5, l6] [] Q)) := (w_aload_n t66_0 rfl rfl).trans ((w_iconst t66_1 rfl).trans ((w_putB t66_2 rfl (by decide) wl_0).trans (congrArg (And _) (congrArg (And _) ((w_aload_n t66_5 rfl rfl).trans ((w_aload_n t66_6 rfl rfl).trans (w_callV t66_7 rfl rfl rfl rfl (Nat.le_of_ble_eq_true rfl) (Nat.le_of_ble_eq_true rfl) rfl (by decide))))))))
set_option maxRecDepth 10000 in
theorem b66_10 {d : Nat} {l0 : Option sm_V} {q1 : Option Nat} {r2 : Nat} {l3 : Option sm_V} {l4 : Option sm_V} {l5 : Option sm_V} {l6 : Option sm_V} {Z : Nat → Nat → Int} {Rf : Nat → Nat → Option Nat} {K : Nat → Nat × Nat} {n z : Nat} {Q : Option sm_V → sm_S → Prop} : sm_wp (d + 1) 66 10 [l0, some (.inr q1), some (.inr (some r2)), l3, l4, l5, l6] [] (Z, Rf, K, n, z) Q = ((K r2).1 = 7 ∧ (Rf r2 0).isSome = true ∧ (K (((Rf r2 0).getD 0))).1 = 6 ∧ sm_call d 57 [.inr (some ((Rf r2 0).getD 0)), .inr q1] (Z, Rf, K, n, z) (sm_cont (d + 1) 66 18 [l0, some (.inr q1), some (.inr (some r2)), l3, l4, l5, l6] [] Q)) := (w_aload_n t66_10 rfl rfl).trans ((w_getR t66_11 rfl (by decide)).trans (congrArg (And _) (congrArg (And _) ((w_aload_n t66_14 rfl rfl).trans (w_callV t66_15 rfl rfl rfl rfl (Nat.le_of_ble_eq_true rfl) (Nat.le_of_ble_eq_true rfl) rfl (by decide))))))
set_option maxRecDepth 10000 in
theorem b66_18 {d : Nat} {r0 : Nat} {q1 : Option Nat} {q2 : Option Nat} {x3 : Int} {x4 : Int} {l5 : Option sm_V} {l6 : Option sm_V} {Z : Nat → Nat → Int} {Rf : Nat → Nat → Option Nat} {K : Nat → Nat × Nat} {n z : Nat} {Q : Option sm_V → sm_S → Prop} : sm_wp (d + 1) 66 18 [some (.inr (some r0)), some (.inr q1), some (.inr q2), some (.inl x3), some (.inl x4), l5, l6] [] (Z, Rf, K, n, z) Q = ((K r0).1 = 8 ∧ sm_call d 68 [.inr (some r0), .inr q1, .inr q2, .inl ((-1)), .inl ((-1)), .inl x3, .inl x4] (Z, Rf, K, n, z) (sm_cont (d + 1) 66 29 [some (.inr (some r0)), some (.inr q1), some (.inr q2), some (.inl x3), some (.inl x4), l5, l6] [] Q)) := (w_aload_n t66_18 rfl rfl).trans ((w_aload_n t66_19 rfl rfl).trans ((w_aload_n t66_20 rfl rfl).trans ((w_iconst t66_21 rfl).trans ((w_iconst t66_22 rfl).trans ((w_iload_n t66_23 rfl rfl).trans ((w_iload t66_24 rfl rfl).trans (w_callV t66_26 rfl rfl rfl rfl (Nat.le_of_ble_eq_true rfl) (Nat.le_of_ble_eq_true rfl) rfl (by decide))))))))
set_option maxRecDepth 10000 in
theorem b66_29 {d : Nat} {l0 : Option sm_V} {l1 : Option sm_V} {l2 : Option sm_V} {l3 : Option sm_V} {l4 : Option sm_V} {l5 : Option sm_V} {l6 : Option sm_V} {Z : Nat → Nat → Int} {Rf : Nat → Nat → Option Nat} {K : Nat → Nat × Nat} {n z : Nat} {Q : Option sm_V → sm_S → Prop} : sm_wp d 66 29 [l0, l1, l2, l3, l4, l5, l6] [] (Z, Rf, K, n, z) Q = (sm_wp d 66 32 [l0, l1, l2, l3, l4, some (.inl 0), l6] [] (Z, Rf, K, n, z) Q) := (w_iconst t66_29 rfl).trans (w_istore t66_30 rfl (Nat.le_of_ble_eq_true rfl) rfl)
set_option maxRecDepth 10000 in
theorem b66_32 {d : Nat} {r0 : Nat} {l1 : Option sm_V} {l2 : Option sm_V} {l3 : Option sm_V} {l4 : Option sm_V} {x5 : Int} {l6 : Option sm_V} {Z : Nat → Nat → Int} {Rf : Nat → Nat → Option Nat} {K : Nat → Nat × Nat} {n z : Nat} {Q : Option sm_V → sm_S → Prop} : sm_wp d 66 32 [some (.inr (some r0)), l1, l2, l3, l4, some (.inl x5), l6] [] (Z, Rf, K, n, z) Q = ((K r0).1 = 8 ∧ (if wr (Z r0 2) ≤ wr x5 then sm_wp d 66 64 [some (.inr (some r0)), l1, l2, l3, l4, some (.inl x5), l6] [] (Z, Rf, K, n, z) Q else sm_wp d 66 41 [some (.inr (some r0)), l1, l2, l3, l4, some (.inl x5), l6] [] (Z, Rf, K, n, z) Q)) := (w_iload t66_32 rfl rfl).trans ((w_aload_n t66_34 rfl rfl).trans ((w_getI t66_35 rfl (by decide)).trans (congrArg (And _) (w_icge t66_38 rfl rfl rfl rfl))))
set_option maxRecDepth 10000 in
theorem b66_41 {d : Nat} {r0 : Nat} {q1 : Option Nat} {q2 : Option Nat} {x3 : Int} {x4 : Int} {x5 : Int} {l6 : Option sm_V} {Z : Nat → Nat → Int} {Rf : Nat → Nat → Option Nat} {K : Nat → Nat × Nat} {n z : Nat} {Q : Option sm_V → sm_S → Prop} : sm_wp (d + 1) 66 41 [some (.inr (some r0)), some (.inr q1), some (.inr q2), some (.inl x3), some (.inl x4), some (.inl x5), l6] [] (Z, Rf, K, n, z) Q = ((K r0).1 = 8 ∧ (Rf r0 1).isSome = true ∧ sm_rd (K (((Rf r0 1).getD 0))) (wr x5) ∧ (K r0).1 = 8 ∧ sm_call d 68 [.inr (some r0), .inr q1, .inr q2, .inl (Z (((Rf r0 1).getD 0)) ((wr x5).toNat)), .inl ((-1)), .inl x3, .inl x4] (Z, Rf, K, n, z) (sm_cont (d + 1) 66 58 [some (.inr (some r0)), some (.inr q1), some (.inr q2), some (.inl x3), some (.inl x4), some (.inl x5), l6] [] Q)) := (w_aload_n t66_41 rfl rfl).trans ((w_aload_n t66_42 rfl rfl).trans ((w_aload_n t66_43 rfl rfl).trans ((w_aload_n t66_44 rfl rfl).trans ((w_getR t66_45 rfl (by decide)).trans (congrArg (And _) (congrArg (And _) ((w_iload t66_48 rfl rfl).trans ((w_iald t66_50 rfl rfl).trans (congrArg (And _) ((w_iconst t66_51 rfl).trans ((w_iload_n t66_52 rfl rfl).trans ((w_iload t66_53 rfl rfl).trans (w_callV t66_55 rfl rfl rfl rfl (Nat.le_of_ble_eq_true rfl) (Nat.le_of_ble_eq_true rfl) rfl (by decide))))))))))))))
set_option maxRecDepth 10000 in
theorem b66_58 {d : Nat} {l0 : Option sm_V} {l1 : Option sm_V} {l2 : Option sm_V} {l3 : Option sm_V} {l4 : Option sm_V} {x5 : Int} {l6 : Option sm_V} {Z : Nat → Nat → Int} {Rf : Nat → Nat → Option Nat} {K : Nat → Nat × Nat} {n z : Nat} {Q : Option sm_V → sm_S → Prop} : sm_wp d 66 58 [l0, l1, l2, l3, l4, some (.inl x5), l6] [] (Z, Rf, K, n, z) Q = (sm_wp d 66 32 [l0, l1, l2, l3, l4, some (.inl (x5 + 1)), l6] [] (Z, Rf, K, n, z) Q) := (w_iinc t66_58 rfl rfl (Nat.le_of_ble_eq_true rfl) rfl).trans (w_goto t66_61 rfl)
set_option maxRecDepth 10000 in
theorem b66_64 {d : Nat} {l0 : Option sm_V} {l1 : Option sm_V} {l2 : Option sm_V} {l3 : Option sm_V} {l4 : Option sm_V} {l5 : Option sm_V} {l6 : Option sm_V} {Z : Nat → Nat → Int} {Rf : Nat → Nat → Option Nat} {K : Nat → Nat × Nat} {n z : Nat} {Q : Option sm_V → sm_S → Prop} : sm_wp d 66 64 [l0, l1, l2, l3, l4, l5, l6] [] (Z, Rf, K, n, z) Q = (sm_wp d 66 67 [l0, l1, l2, l3, l4, some (.inl 0), l6] [] (Z, Rf, K, n, z) Q) := (w_iconst t66_64 rfl).trans (w_istore t66_65 rfl (Nat.le_of_ble_eq_true rfl) rfl)
set_option maxRecDepth 10000 in
theorem b66_67 {d : Nat} {r0 : Nat} {l1 : Option sm_V} {l2 : Option sm_V} {l3 : Option sm_V} {l4 : Option sm_V} {x5 : Int} {l6 : Option sm_V} {Z : Nat → Nat → Int} {Rf : Nat → Nat → Option Nat} {K : Nat → Nat × Nat} {n z : Nat} {Q : Option sm_V → sm_S → Prop} : sm_wp d 66 67 [some (.inr (some r0)), l1, l2, l3, l4, some (.inl x5), l6] [] (Z, Rf, K, n, z) Q = ((K r0).1 = 8 ∧ (if wr (Z r0 2) ≤ wr x5 then sm_wp d 66 126 [some (.inr (some r0)), l1, l2, l3, l4, some (.inl x5), l6] [] (Z, Rf, K, n, z) Q else sm_wp d 66 76 [some (.inr (some r0)), l1, l2, l3, l4, some (.inl x5), l6] [] (Z, Rf, K, n, z) Q)) := (w_iload t66_67 rfl rfl).trans ((w_aload_n t66_69 rfl rfl).trans ((w_getI t66_70 rfl (by decide)).trans (congrArg (And _) (w_icge t66_73 rfl rfl rfl rfl))))
set_option maxRecDepth 10000 in
theorem b66_76 {d : Nat} {l0 : Option sm_V} {l1 : Option sm_V} {l2 : Option sm_V} {l3 : Option sm_V} {l4 : Option sm_V} {x5 : Int} {l6 : Option sm_V} {Z : Nat → Nat → Int} {Rf : Nat → Nat → Option Nat} {K : Nat → Nat × Nat} {n z : Nat} {Q : Option sm_V → sm_S → Prop} : sm_wp d 66 76 [l0, l1, l2, l3, l4, some (.inl x5), l6] [] (Z, Rf, K, n, z) Q = (sm_wp d 66 82 [l0, l1, l2, l3, l4, some (.inl x5), some (.inl (x5 + 1))] [] (Z, Rf, K, n, z) Q) := (w_iload t66_76 rfl rfl).trans ((w_iconst t66_78 rfl).trans ((w_iadd t66_79 rfl).trans (w_istore t66_80 rfl (Nat.le_of_ble_eq_true rfl) rfl)))
set_option maxRecDepth 10000 in
theorem b66_82 {d : Nat} {r0 : Nat} {l1 : Option sm_V} {l2 : Option sm_V} {l3 : Option sm_V} {l4 : Option sm_V} {l5 : Option sm_V} {x6 : Int} {Z : Nat → Nat → Int} {Rf : Nat → Nat → Option Nat} {K : Nat → Nat × Nat} {n z : Nat} {Q : Option sm_V → sm_S → Prop} : sm_wp d 66 82 [some (.inr (some r0)), l1, l2, l3, l4, l5, some (.inl x6)] [] (Z, Rf, K, n, z) Q = ((K r0).1 = 8 ∧ (if wr (Z r0 2) ≤ wr x6 then sm_wp d 66 120 [some (.inr (some r0)), l1, l2, l3, l4, l5, some (.inl x6)] [] (Z, Rf, K, n, z) Q else sm_wp d 66 91 [some (.inr (some r0)), l1, l2, l3, l4, l5, some (.inl x6)] [] (Z, Rf, K, n, z) Q)) := (w_iload t66_82 rfl rfl).trans ((w_aload_n t66_84 rfl rfl).trans ((w_getI t66_85 rfl (by decide)).trans (congrArg (And _) (w_icge t66_88 rfl rfl rfl rfl))))
set_option maxRecDepth 10000 in
theorem b66_91 {d : Nat} {r0 : Nat} {q1 : Option Nat} {q2 : Option Nat} {x3 : Int} {x4 : Int} {x5 : Int} {x6 : Int} {Z : Nat → Nat → Int} {Rf : Nat → Nat → Option Nat} {K : Nat → Nat × Nat} {n z : Nat} {Q : Option sm_V → sm_S → Prop} : sm_wp (d + 1) 66 91 [some (.inr (some r0)), some (.inr q1), some (.inr q2), some (.inl x3), some (.inl x4), some (.inl x5), some (.inl x6)] [] (Z, Rf, K, n, z) Q = ((K r0).1 = 8 ∧ (Rf r0 1).isSome = true ∧ sm_rd (K (((Rf r0 1).getD 0))) (wr x5) ∧ (K r0).1 = 8 ∧ (Rf r0 1).isSome = true ∧ sm_rd (K (((Rf r0 1).getD 0))) (wr x6) ∧ (K r0).1 = 8 ∧ sm_call d 68 [.inr (some r0), .inr q1, .inr q2, .inl (Z (((Rf r0 1).getD 0)) ((wr x5).toNat)), .inl (Z (((Rf r0 1).getD 0)) ((wr x6).toNat)), .inl x3, .inl x4] (Z, Rf, K, n, z) (sm_cont (d + 1) 66 114 [some (.inr (some r0)), some (.inr q1), some (.inr q2), some (.inl x3), some (.inl x4), some (.inl x5), some (.inl x6)] [] Q)) := (w_aload_n t66_91 rfl rfl).trans ((w_aload_n t66_92 rfl rfl).trans ((w_aload_n t66_93 rfl rfl).trans ((w_aload_n t66_94 rfl rfl).trans ((w_getR t66_95 rfl (by decide)).trans (congrArg (And _) (congrArg (And _) ((w_iload t66_98 rfl rfl).trans ((w_iald t66_100 rfl rfl).trans (congrArg (And _) ((w_aload_n t66_101 rfl rfl).trans ((w_getR t66_102 rfl (by decide)).trans (congrArg (And _) (congrArg (And _) ((w_iload t66_105 rfl rfl).trans ((w_iald t66_107 rfl rfl).trans (congrArg (And _) ((w_iload_n t66_108 rfl rfl).trans ((w_iload t66_109 rfl rfl).trans (w_callV t66_111 rfl rfl rfl rfl (Nat.le_of_ble_eq_true rfl) (Nat.le_of_ble_eq_true rfl) rfl (by decide))))))))))))))))))))
set_option maxRecDepth 10000 in
theorem b66_114 {d : Nat} {l0 : Option sm_V} {l1 : Option sm_V} {l2 : Option sm_V} {l3 : Option sm_V} {l4 : Option sm_V} {l5 : Option sm_V} {x6 : Int} {Z : Nat → Nat → Int} {Rf : Nat → Nat → Option Nat} {K : Nat → Nat × Nat} {n z : Nat} {Q : Option sm_V → sm_S → Prop} : sm_wp d 66 114 [l0, l1, l2, l3, l4, l5, some (.inl x6)] [] (Z, Rf, K, n, z) Q = (sm_wp d 66 82 [l0, l1, l2, l3, l4, l5, some (.inl (x6 + 1))] [] (Z, Rf, K, n, z) Q) := (w_iinc t66_114 rfl rfl (Nat.le_of_ble_eq_true rfl) rfl).trans (w_goto t66_117 rfl)
set_option maxRecDepth 10000 in
theorem b66_120 {d : Nat} {l0 : Option sm_V} {l1 : Option sm_V} {l2 : Option sm_V} {l3 : Option sm_V} {l4 : Option sm_V} {x5 : Int} {l6 : Option sm_V} {Z : Nat → Nat → Int} {Rf : Nat → Nat → Option Nat} {K : Nat → Nat × Nat} {n z : Nat} {Q : Option sm_V → sm_S → Prop} : sm_wp d 66 120 [l0, l1, l2, l3, l4, some (.inl x5), l6] [] (Z, Rf, K, n, z) Q = (sm_wp d 66 67 [l0, l1, l2, l3, l4, some (.inl (x5 + 1)), l6] [] (Z, Rf, K, n, z) Q) := (w_iinc t66_120 rfl rfl (Nat.le_of_ble_eq_true rfl) rfl).trans (w_goto t66_123 rfl)
set_option maxRecDepth 10000 in
theorem b66_126 {d : Nat} {r0 : Nat} {l1 : Option sm_V} {l2 : Option sm_V} {l3 : Option sm_V} {l4 : Option sm_V} {l5 : Option sm_V} {l6 : Option sm_V} {Z : Nat → Nat → Int} {Rf : Nat → Nat → Option Nat} {K : Nat → Nat × Nat} {n z : Nat} {Q : Option sm_V → sm_S → Prop} : sm_wp d 66 126 [some (.inr (some r0)), l1, l2, l3, l4, l5, l6] [] (Z, Rf, K, n, z) Q = ((K r0).1 = 8 ∧ (wr (Z r0 7) = 0 ∨ wr (Z r0 7) = 1) ∧ Q (some (.inl (Z r0 7))) (Z, Rf, K, n, z)) := (w_aload_n t66_126 rfl rfl).trans ((w_getI t66_127 rfl (by decide)).trans (congrArg (And _) (w_zret t66_130 rfl)))
theorem t67_0 : sm_at 67 0 = some (1, .aload_n 0, 0, 0, 0) := rfl
theorem t67_1 : sm_at 67 1 = some (1, .iconst 0, 0, 0, 0) := rfl
theorem t67_2 : sm_at 67 2 = some (3, .putfield 61, 8, 2, 0) := rfl
theorem t67_5 : sm_at 67 5 = some (1, .iconst 0, 0, 0, 0) := rfl
theorem t67_6 : sm_at 67 6 = some (1, .istore_n 2, 0, 0, 0) := rfl
theorem t67_7 : sm_at 67 7 = some (1, .iload_n 2, 0, 0, 0) := rfl
theorem t67_8 : sm_at 67 8 = some (2, .bipush 100, 0, 0, 0) := rfl
theorem t67_10 : sm_at 67 10 = some (3, .if_icmp .ge 55, 0, 0, 0) := rfl
theorem t67_13 : sm_at 67 13 = some (1, .aload_n 1, 0, 0, 0) := rfl
theorem t67_14 : sm_at 67 14 = some (1, .iload_n 2, 0, 0, 0) := rfl
theorem t67_15 : sm_at 67 15 = some (3, .invokevirtual 65, 8, 2, 0) := rfl
theorem t67_18 : sm_at 67 18 = some (3, .ifCond .eq 41, 0, 0, 0) := rfl
theorem t67_21 : sm_at 67 21 = some (1, .aload_n 1, 0, 0, 0) := rfl
theorem t67_22 : sm_at 67 22 = some (3, .getfield 71, 1, 7, 0) := rfl
theorem t67_25 : sm_at 67 25 = some (1, .iload_n 2, 0, 0, 0) := rfl
theorem t67_26 : sm_at 67 26 = some (1, .iaload, 0, 0, 0) := rfl
theorem t67_27 : sm_at 67 27 = some (3, .ifCond .ne 32, 0, 0, 0) := rfl
theorem t67_30 : sm_at 67 30 = some (1, .aload_n 0, 0, 0, 0) := rfl
theorem t67_31 : sm_at 67 31 = some (3, .getfield 61, 8, 2, 0) := rfl
theorem t67_34 : sm_at 67 34 = some (2, .bipush 36, 0, 0, 0) := rfl
theorem t67_36 : sm_at 67 36 = some (3, .if_icmp .ge 23, 0, 0, 0) := rfl
theorem t67_39 : sm_at 67 39 = some (1, .aload_n 0, 0, 0, 0) := rfl
theorem t67_40 : sm_at 67 40 = some (3, .getfield 20, 8, 1, 0) := rfl
theorem t67_43 : sm_at 67 43 = some (1, .aload_n 0, 0, 0, 0) := rfl
theorem t67_44 : sm_at 67 44 = some (3, .getfield 61, 8, 2, 0) := rfl
theorem t67_47 : sm_at 67 47 = some (1, .iload_n 2, 0, 0, 0) := rfl
theorem t67_48 : sm_at 67 48 = some (1, .iastore, 0, 0, 0) := rfl
theorem t67_49 : sm_at 67 49 = some (1, .aload_n 0, 0, 0, 0) := rfl
theorem t67_50 : sm_at 67 50 = some (1, .dup, 0, 0, 0) := rfl
theorem t67_51 : sm_at 67 51 = some (3, .getfield 61, 8, 2, 0) := rfl
theorem t67_54 : sm_at 67 54 = some (1, .iconst 1, 0, 0, 0) := rfl
theorem t67_55 : sm_at 67 55 = some (1, .iadd, 0, 0, 0) := rfl
theorem t67_56 : sm_at 67 56 = some (3, .putfield 61, 8, 2, 0) := rfl
theorem t67_59 : sm_at 67 59 = some (3, .iinc 2 1, 0, 0, 0) := rfl
theorem t67_62 : sm_at 67 62 = some (3, .goto (-55), 0, 0, 0) := rfl
theorem t67_65 : sm_at 67 65 = some (1, .return_, 0, 0, 0) := rfl
set_option maxRecDepth 10000 in
theorem b67_0 {d : Nat} {r0 : Nat} {l1 : Option sm_V} {l2 : Option sm_V} {Z : Nat → Nat → Int} {Rf : Nat → Nat → Option Nat} {K : Nat → Nat × Nat} {n z : Nat} {Q : Option sm_V → sm_S → Prop} : sm_wp d 67 0 [some (.inr (some r0)), l1, l2] [] (Z, Rf, K, n, z) Q = ((K r0).1 = 8 ∧ sm_wp d 67 7 [some (.inr (some r0)), l1, some (.inl 0)] [] (sm_u Z r0 2 0, Rf, K, n, z) Q) := (w_aload_n t67_0 rfl rfl).trans ((w_iconst t67_1 rfl).trans ((w_putI t67_2 rfl (by decide)).trans (congrArg (And _) ((w_iconst t67_5 rfl).trans (w_istore_n t67_6 rfl (Nat.le_of_ble_eq_true rfl) rfl)))))
set_option maxRecDepth 10000 in
theorem b67_7 {d : Nat} {l0 : Option sm_V} {l1 : Option sm_V} {x2 : Int} {Z : Nat → Nat → Int} {Rf : Nat → Nat → Option Nat} {K : Nat → Nat × Nat} {n z : Nat} {Q : Option sm_V → sm_S → Prop} : sm_wp d 67 7 [l0, l1, some (.inl x2)] [] (Z, Rf, K, n, z) Q = (if (100 : Int) ≤ wr x2 then sm_wp d 67 65 [l0, l1, some (.inl x2)] [] (Z, Rf, K, n, z) Q else sm_wp d 67 13 [l0, l1, some (.inl x2)] [] (Z, Rf, K, n, z) Q) := (w_iload_n t67_7 rfl rfl).trans ((w_bipush t67_8 rfl).trans (w_icge t67_10 rfl wl_100 rfl rfl))
set_option maxRecDepth 10000 in
theorem b67_13 {d : Nat} {l0 : Option sm_V} {r1 : Nat} {x2 : Int} {Z : Nat → Nat → Int} {Rf : Nat → Nat → Option Nat} {K : Nat → Nat × Nat} {n z : Nat} {Q : Option sm_V → sm_S → Prop} : sm_wp (d + 1) 67 13 [l0, some (.inr (some r1)), some (.inl x2)] [] (Z, Rf, K, n, z) Q = ((K r1).1 = 1 ∧ sm_call d 8 [.inr (some r1), .inl x2] (Z, Rf, K, n, z) (sm_cont (d + 1) 67 18 [l0, some (.inr (some r1)), some (.inl x2)] [] Q)) := (w_aload_n t67_13 rfl rfl).trans ((w_iload_n t67_14 rfl rfl).trans (w_callV t67_15 rfl rfl rfl rfl (Nat.le_of_ble_eq_true rfl) (Nat.le_of_ble_eq_true rfl) rfl (by decide)))
set_option maxRecDepth 10000 in
theorem b67_18 {d : Nat} {l0 : Option sm_V} {l1 : Option sm_V} {l2 : Option sm_V} {s0 : Int} {Z : Nat → Nat → Int} {Rf : Nat → Nat → Option Nat} {K : Nat → Nat × Nat} {n z : Nat} {Q : Option sm_V → sm_S → Prop} : sm_wp d 67 18 [l0, l1, l2] [.inl s0] (Z, Rf, K, n, z) Q = (if wr s0 = 0 then sm_wp d 67 59 [l0, l1, l2] [] (Z, Rf, K, n, z) Q else sm_wp d 67 21 [l0, l1, l2] [] (Z, Rf, K, n, z) Q) := w_ifeq t67_18 rfl rfl rfl
set_option maxRecDepth 10000 in
theorem b67_21 {d : Nat} {l0 : Option sm_V} {r1 : Nat} {x2 : Int} {Z : Nat → Nat → Int} {Rf : Nat → Nat → Option Nat} {K : Nat → Nat × Nat} {n z : Nat} {Q : Option sm_V → sm_S → Prop} : sm_wp d 67 21 [l0, some (.inr (some r1)), some (.inl x2)] [] (Z, Rf, K, n, z) Q = ((K r1).1 = 1 ∧ (Rf r1 7).isSome = true ∧ sm_rd (K (((Rf r1 7).getD 0))) (wr x2) ∧ (if wr (Z (((Rf r1 7).getD 0)) ((wr x2).toNat)) = 0 then sm_wp d 67 30 [l0, some (.inr (some r1)), some (.inl x2)] [] (Z, Rf, K, n, z) Q else sm_wp d 67 59 [l0, some (.inr (some r1)), some (.inl x2)] [] (Z, Rf, K, n, z) Q)) := (w_aload_n t67_21 rfl rfl).trans ((w_getR t67_22 rfl (by decide)).trans (congrArg (And _) (congrArg (And _) ((w_iload_n t67_25 rfl rfl).trans ((w_iald t67_26 rfl rfl).trans (congrArg (And _) (w_ifne t67_27 rfl rfl rfl)))))))
set_option maxRecDepth 10000 in
theorem b67_30 {d : Nat} {r0 : Nat} {l1 : Option sm_V} {l2 : Option sm_V} {Z : Nat → Nat → Int} {Rf : Nat → Nat → Option Nat} {K : Nat → Nat × Nat} {n z : Nat} {Q : Option sm_V → sm_S → Prop} : sm_wp d 67 30 [some (.inr (some r0)), l1, l2] [] (Z, Rf, K, n, z) Q = ((K r0).1 = 8 ∧ (if (36 : Int) ≤ wr (Z r0 2) then sm_wp d 67 59 [some (.inr (some r0)), l1, l2] [] (Z, Rf, K, n, z) Q else sm_wp d 67 39 [some (.inr (some r0)), l1, l2] [] (Z, Rf, K, n, z) Q)) := (w_aload_n t67_30 rfl rfl).trans ((w_getI t67_31 rfl (by decide)).trans (congrArg (And _) ((w_bipush t67_34 rfl).trans (w_icge t67_36 rfl wl_36 rfl rfl))))
set_option maxRecDepth 10000 in
theorem b67_39 {d : Nat} {r0 : Nat} {l1 : Option sm_V} {x2 : Int} {Z : Nat → Nat → Int} {Rf : Nat → Nat → Option Nat} {K : Nat → Nat × Nat} {n z : Nat} {Q : Option sm_V → sm_S → Prop} : sm_wp d 67 39 [some (.inr (some r0)), l1, some (.inl x2)] [] (Z, Rf, K, n, z) Q = ((K r0).1 = 8 ∧ (Rf r0 1).isSome = true ∧ (K r0).1 = 8 ∧ sm_wt (K (((Rf r0 1).getD 0))) (wr (Z r0 2)) ∧ (K r0).1 = 8 ∧ (K r0).1 = 8 ∧ sm_wp d 67 59 [some (.inr (some r0)), l1, some (.inl x2)] [] (sm_u (sm_u Z (((Rf r0 1).getD 0)) ((wr (Z r0 2)).toNat) x2) r0 2 (((sm_u Z (((Rf r0 1).getD 0)) ((wr (Z r0 2)).toNat) x2) r0 2) + 1), Rf, K, n, z) Q) := (w_aload_n t67_39 rfl rfl).trans ((w_getR t67_40 rfl (by decide)).trans (congrArg (And _) (congrArg (And _) ((w_aload_n t67_43 rfl rfl).trans ((w_getI t67_44 rfl (by decide)).trans (congrArg (And _) ((w_iload_n t67_47 rfl rfl).trans ((w_iast t67_48 rfl rfl).trans (congrArg (And _) ((w_aload_n t67_49 rfl rfl).trans ((w_dup t67_50 rfl).trans ((w_getI t67_51 rfl (by decide)).trans (congrArg (And _) ((w_iconst t67_54 rfl).trans ((w_iadd t67_55 rfl).trans ((w_putI t67_56 rfl (by decide)).trans (congrArg (And _) rfl)))))))))))))))))
set_option maxRecDepth 10000 in
theorem b67_59 {d : Nat} {l0 : Option sm_V} {l1 : Option sm_V} {x2 : Int} {Z : Nat → Nat → Int} {Rf : Nat → Nat → Option Nat} {K : Nat → Nat × Nat} {n z : Nat} {Q : Option sm_V → sm_S → Prop} : sm_wp d 67 59 [l0, l1, some (.inl x2)] [] (Z, Rf, K, n, z) Q = (sm_wp d 67 7 [l0, l1, some (.inl (x2 + 1))] [] (Z, Rf, K, n, z) Q) := (w_iinc t67_59 rfl rfl (Nat.le_of_ble_eq_true rfl) rfl).trans (w_goto t67_62 rfl)
set_option maxRecDepth 10000 in
theorem b67_65 {d : Nat} {l0 : Option sm_V} {l1 : Option sm_V} {l2 : Option sm_V} {Z : Nat → Nat → Int} {Rf : Nat → Nat → Option Nat} {K : Nat → Nat × Nat} {n z : Nat} {Q : Option sm_V → sm_S → Prop} : sm_wp d 67 65 [l0, l1, l2] [] (Z, Rf, K, n, z) Q = (Q none (Z, Rf, K, n, z)) := w_vret t67_65
theorem t68_0 : sm_at 68 0 = some (1, .aload_n 1, 0, 0, 0) := rfl
theorem t68_1 : sm_at 68 1 = some (1, .iload_n 3, 0, 0, 0) := rfl
theorem t68_2 : sm_at 68 2 = some (3, .invokestatic 74, 69, 2, 0) := rfl
theorem t68_5 : sm_at 68 5 = some (1, .aload_n 1, 0, 0, 0) := rfl
theorem t68_6 : sm_at 68 6 = some (2, .iload 4, 0, 0, 0) := rfl
theorem t68_8 : sm_at 68 8 = some (3, .invokestatic 74, 69, 2, 0) := rfl
theorem t68_11 : sm_at 68 11 = some (1, .iadd, 0, 0, 0) := rfl
theorem t68_12 : sm_at 68 12 = some (2, .istore 7, 0, 0, 0) := rfl
theorem t68_14 : sm_at 68 14 = some (1, .aload_n 0, 0, 0, 0) := rfl
theorem t68_15 : sm_at 68 15 = some (3, .getfield 50, 8, 7, 0) := rfl
theorem t68_18 : sm_at 68 18 = some (3, .ifCond .eq 13, 0, 0, 0) := rfl
theorem t68_21 : sm_at 68 21 = some (2, .iload 7, 0, 0, 0) := rfl
theorem t68_23 : sm_at 68 23 = some (1, .aload_n 0, 0, 0, 0) := rfl
theorem t68_24 : sm_at 68 24 = some (3, .getfield 78, 8, 3, 0) := rfl
theorem t68_27 : sm_at 68 27 = some (3, .if_icmp .lt 4, 0, 0, 0) := rfl
theorem t68_30 : sm_at 68 30 = some (1, .return_, 0, 0, 0) := rfl
theorem t68_31 : sm_at 68 31 = some (1, .aload_n 2, 0, 0, 0) := rfl
theorem t68_32 : sm_at 68 32 = some (3, .getfield 24, 7, 0, 0) := rfl
theorem t68_35 : sm_at 68 35 = some (1, .aload_n 1, 0, 0, 0) := rfl
theorem t68_36 : sm_at 68 36 = some (1, .iload_n 3, 0, 0, 0) := rfl
theorem t68_37 : sm_at 68 37 = some (1, .iconst 1, 0, 0, 0) := rfl
theorem t68_38 : sm_at 68 38 = some (3, .invokevirtual 81, 58, 4, 0) := rfl
theorem t68_41 : sm_at 68 41 = some (1, .aload_n 2, 0, 0, 0) := rfl
theorem t68_42 : sm_at 68 42 = some (3, .getfield 24, 7, 0, 0) := rfl
theorem t68_45 : sm_at 68 45 = some (1, .aload_n 1, 0, 0, 0) := rfl
theorem t68_46 : sm_at 68 46 = some (2, .iload 4, 0, 0, 0) := rfl
theorem t68_48 : sm_at 68 48 = some (1, .iconst 1, 0, 0, 0) := rfl
theorem t68_49 : sm_at 68 49 = some (3, .invokevirtual 81, 58, 4, 0) := rfl
theorem t68_52 : sm_at 68 52 = some (1, .aload_n 2, 0, 0, 0) := rfl
theorem t68_53 : sm_at 68 53 = some (1, .aload_n 1, 0, 0, 0) := rfl
theorem t68_54 : sm_at 68 54 = some (1, .aload_n 0, 0, 0, 0) := rfl
theorem t68_55 : sm_at 68 55 = some (3, .getfield 14, 8, 0, 0) := rfl
theorem t68_58 : sm_at 68 58 = some (3, .invokevirtual 36, 60, 3, 0) := rfl
theorem t68_61 : sm_at 68 61 = some (1, .aload_n 2, 0, 0, 0) := rfl
theorem t68_62 : sm_at 68 62 = some (3, .getfield 85, 7, 1, 0) := rfl
theorem t68_65 : sm_at 68 65 = some (1, .aload_n 1, 0, 0, 0) := rfl
theorem t68_66 : sm_at 68 66 = some (1, .aload_n 0, 0, 0, 0) := rfl
theorem t68_67 : sm_at 68 67 = some (3, .getfield 14, 8, 0, 0) := rfl
theorem t68_70 : sm_at 68 70 = some (3, .invokevirtual 89, 1, 3, 0) := rfl
theorem t68_73 : sm_at 68 73 = some (1, .aload_n 2, 0, 0, 0) := rfl
theorem t68_74 : sm_at 68 74 = some (3, .getfield 24, 7, 0, 0) := rfl
theorem t68_77 : sm_at 68 77 = some (1, .aload_n 1, 0, 0, 0) := rfl
theorem t68_78 : sm_at 68 78 = some (1, .iload_n 3, 0, 0, 0) := rfl
theorem t68_79 : sm_at 68 79 = some (1, .iconst (-1), 0, 0, 0) := rfl
theorem t68_80 : sm_at 68 80 = some (3, .invokevirtual 81, 58, 4, 0) := rfl
theorem t68_83 : sm_at 68 83 = some (1, .aload_n 2, 0, 0, 0) := rfl
theorem t68_84 : sm_at 68 84 = some (3, .getfield 24, 7, 0, 0) := rfl
theorem t68_87 : sm_at 68 87 = some (1, .aload_n 1, 0, 0, 0) := rfl
theorem t68_88 : sm_at 68 88 = some (2, .iload 4, 0, 0, 0) := rfl
theorem t68_90 : sm_at 68 90 = some (1, .iconst (-1), 0, 0, 0) := rfl
theorem t68_91 : sm_at 68 91 = some (3, .invokevirtual 81, 58, 4, 0) := rfl
theorem t68_94 : sm_at 68 94 = some (1, .aload_n 2, 0, 0, 0) := rfl
theorem t68_95 : sm_at 68 95 = some (3, .getfield 85, 7, 1, 0) := rfl
theorem t68_98 : sm_at 68 98 = some (2, .iload 5, 0, 0, 0) := rfl
theorem t68_100 : sm_at 68 100 = some (2, .iload 6, 0, 0, 0) := rfl
theorem t68_102 : sm_at 68 102 = some (3, .invokevirtual 94, 3, 3, 0) := rfl
theorem t68_105 : sm_at 68 105 = some (3, .ifCond .eq 51, 0, 0, 0) := rfl
theorem t68_108 : sm_at 68 108 = some (1, .aload_n 0, 0, 0, 0) := rfl
theorem t68_109 : sm_at 68 109 = some (1, .iconst 1, 0, 0, 0) := rfl
theorem t68_110 : sm_at 68 110 = some (3, .putfield 50, 8, 7, 0) := rfl
set_option maxRecDepth 100000 in
theorem t68_113 : sm_at 68 113 = some (1, .aload_n 0, 0, 0, 0) := rfl
set_option maxRecDepth 100000 in
theorem t68_114 : sm_at 68 114 = some (2, .iload 7, 0, 0, 0) := rfl
set_option maxRecDepth 100000 in
theorem t68_116 : sm_at 68 116 = some (3, .putfield 78, 8, 3, 0) := rfl
set_option maxRecDepth 100000 in
theorem t68_119 : sm_at 68 119 = some (1, .aload_n 0, 0, 0, 0) := rfl
set_option maxRecDepth 100000 in
theorem t68_120 : sm_at 68 120 = some (1, .iload_n 3, 0, 0, 0) := rfl
set_option maxRecDepth 100000 in
theorem t68_121 : sm_at 68 121 = some (1, .iconst (-1), 0, 0, 0) := rfl
set_option maxRecDepth 100000 in
theorem t68_122 : sm_at 68 122 = some (3, .if_icmp .ne 7, 0, 0, 0) := rfl
set_option maxRecDepth 100000 in
theorem t68_125 : sm_at 68 125 = some (1, .iconst 0, 0, 0, 0) := rfl
set_option maxRecDepth 100000 in
theorem t68_126 : sm_at 68 126 = some (3, .goto 4, 0, 0, 0) := rfl
set_option maxRecDepth 100000 in
theorem t68_129 : sm_at 68 129 = some (1, .iconst 1, 0, 0, 0) := rfl
set_option maxRecDepth 100000 in
theorem t68_130 : sm_at 68 130 = some (2, .iload 4, 0, 0, 0) := rfl
set_option maxRecDepth 100000 in
theorem t68_132 : sm_at 68 132 = some (1, .iconst (-1), 0, 0, 0) := rfl
set_option maxRecDepth 100000 in
theorem t68_133 : sm_at 68 133 = some (3, .if_icmp .ne 7, 0, 0, 0) := rfl
set_option maxRecDepth 100000 in
theorem t68_136 : sm_at 68 136 = some (1, .iconst 0, 0, 0, 0) := rfl
set_option maxRecDepth 100000 in
theorem t68_137 : sm_at 68 137 = some (3, .goto 4, 0, 0, 0) := rfl
set_option maxRecDepth 100000 in
theorem t68_140 : sm_at 68 140 = some (1, .iconst 1, 0, 0, 0) := rfl
set_option maxRecDepth 100000 in
theorem t68_141 : sm_at 68 141 = some (1, .iadd, 0, 0, 0) := rfl
set_option maxRecDepth 100000 in
theorem t68_142 : sm_at 68 142 = some (3, .putfield 98, 8, 4, 0) := rfl
set_option maxRecDepth 100000 in
theorem t68_145 : sm_at 68 145 = some (1, .aload_n 0, 0, 0, 0) := rfl
set_option maxRecDepth 100000 in
theorem t68_146 : sm_at 68 146 = some (1, .iload_n 3, 0, 0, 0) := rfl
set_option maxRecDepth 100000 in
theorem t68_147 : sm_at 68 147 = some (3, .putfield 101, 8, 5, 0) := rfl
set_option maxRecDepth 100000 in
theorem t68_150 : sm_at 68 150 = some (1, .aload_n 0, 0, 0, 0) := rfl
set_option maxRecDepth 100000 in
theorem t68_151 : sm_at 68 151 = some (2, .iload 4, 0, 0, 0) := rfl
set_option maxRecDepth 100000 in
theorem t68_153 : sm_at 68 153 = some (3, .putfield 104, 8, 6, 0) := rfl
set_option maxRecDepth 100000 in
theorem t68_156 : sm_at 68 156 = some (1, .return_, 0, 0, 0) := rfl
set_option maxRecDepth 10000 in
theorem b68_0 {d : Nat} {l0 : Option sm_V} {q1 : Option Nat} {l2 : Option sm_V} {x3 : Int} {l4 : Option sm_V} {l5 : Option sm_V} {l6 : Option sm_V} {l7 : Option sm_V} {Z : Nat → Nat → Int} {Rf : Nat → Nat → Option Nat} {K : Nat → Nat × Nat} {n z : Nat} {Q : Option sm_V → sm_S → Prop} : sm_wp (d + 1) 68 0 [l0, some (.inr q1), l2, some (.inl x3), l4, l5, l6, l7] [] (Z, Rf, K, n, z) Q = (sm_call d 69 [.inr q1, .inl x3] (Z, Rf, K, n, z) (sm_cont (d + 1) 68 5 [l0, some (.inr q1), l2, some (.inl x3), l4, l5, l6, l7] [] Q)) := (w_aload_n t68_0 rfl rfl).trans ((w_iload_n t68_1 rfl rfl).trans (w_callS t68_2 rfl rfl rfl rfl (Nat.le_of_ble_eq_true rfl) (Nat.le_of_ble_eq_true rfl) rfl))
set_option maxRecDepth 10000 in
theorem b68_5 {d : Nat} {l0 : Option sm_V} {q1 : Option Nat} {l2 : Option sm_V} {l3 : Option sm_V} {x4 : Int} {l5 : Option sm_V} {l6 : Option sm_V} {l7 : Option sm_V} {s0 : Int} {Z : Nat → Nat → Int} {Rf : Nat → Nat → Option Nat} {K : Nat → Nat × Nat} {n z : Nat} {Q : Option sm_V → sm_S → Prop} : sm_wp (d + 1) 68 5 [l0, some (.inr q1), l2, l3, some (.inl x4), l5, l6, l7] [.inl s0] (Z, Rf, K, n, z) Q = (sm_call d 69 [.inr q1, .inl x4] (Z, Rf, K, n, z) (sm_cont (d + 1) 68 11 [l0, some (.inr q1), l2, l3, some (.inl x4), l5, l6, l7] [.inl s0] Q)) := (w_aload_n t68_5 rfl rfl).trans ((w_iload t68_6 rfl rfl).trans (w_callS t68_8 rfl rfl rfl rfl (Nat.le_of_ble_eq_true rfl) (Nat.le_of_ble_eq_true rfl) rfl))
set_option maxRecDepth 10000 in
theorem b68_11 {d : Nat} {r0 : Nat} {l1 : Option sm_V} {l2 : Option sm_V} {l3 : Option sm_V} {l4 : Option sm_V} {l5 : Option sm_V} {l6 : Option sm_V} {l7 : Option sm_V} {s0 : Int} {s1 : Int} {Z : Nat → Nat → Int} {Rf : Nat → Nat → Option Nat} {K : Nat → Nat × Nat} {n z : Nat} {Q : Option sm_V → sm_S → Prop} : sm_wp d 68 11 [some (.inr (some r0)), l1, l2, l3, l4, l5, l6, l7] [.inl s1, .inl s0] (Z, Rf, K, n, z) Q = ((K r0).1 = 8 ∧ (if wr (Z r0 7) = 0 then sm_wp d 68 31 [some (.inr (some r0)), l1, l2, l3, l4, l5, l6, some (.inl (s0 + s1))] [] (Z, Rf, K, n, z) Q else sm_wp d 68 21 [some (.inr (some r0)), l1, l2, l3, l4, l5, l6, some (.inl (s0 + s1))] [] (Z, Rf, K, n, z) Q)) := (w_iadd t68_11 rfl).trans ((w_istore t68_12 rfl (Nat.le_of_ble_eq_true rfl) rfl).trans ((w_aload_n t68_14 rfl rfl).trans ((w_getI t68_15 rfl (by decide)).trans (congrArg (And _) (w_ifeq t68_18 rfl rfl rfl)))))
set_option maxRecDepth 10000 in
theorem b68_21 {d : Nat} {r0 : Nat} {l1 : Option sm_V} {l2 : Option sm_V} {l3 : Option sm_V} {l4 : Option sm_V} {l5 : Option sm_V} {l6 : Option sm_V} {x7 : Int} {Z : Nat → Nat → Int} {Rf : Nat → Nat → Option Nat} {K : Nat → Nat × Nat} {n z : Nat} {Q : Option sm_V → sm_S → Prop} : sm_wp d 68 21 [some (.inr (some r0)), l1, l2, l3, l4, l5, l6, some (.inl x7)] [] (Z, Rf, K, n, z) Q = ((K r0).1 = 8 ∧ (if wr x7 < wr (Z r0 3) then sm_wp d 68 31 [some (.inr (some r0)), l1, l2, l3, l4, l5, l6, some (.inl x7)] [] (Z, Rf, K, n, z) Q else sm_wp d 68 30 [some (.inr (some r0)), l1, l2, l3, l4, l5, l6, some (.inl x7)] [] (Z, Rf, K, n, z) Q)) := (w_iload t68_21 rfl rfl).trans ((w_aload_n t68_23 rfl rfl).trans ((w_getI t68_24 rfl (by decide)).trans (congrArg (And _) (w_iclt t68_27 rfl rfl rfl rfl))))
set_option maxRecDepth 10000 in
theorem b68_30 {d : Nat} {l0 : Option sm_V} {l1 : Option sm_V} {l2 : Option sm_V} {l3 : Option sm_V} {l4 : Option sm_V} {l5 : Option sm_V} {l6 : Option sm_V} {l7 : Option sm_V} {Z : Nat → Nat → Int} {Rf : Nat → Nat → Option Nat} {K : Nat → Nat × Nat} {n z : Nat} {Q : Option sm_V → sm_S → Prop} : sm_wp d 68 30 [l0, l1, l2, l3, l4, l5, l6, l7] [] (Z, Rf, K, n, z) Q = (Q none (Z, Rf, K, n, z)) := w_vret t68_30
set_option maxRecDepth 10000 in
theorem b68_31 {d : Nat} {l0 : Option sm_V} {q1 : Option Nat} {r2 : Nat} {x3 : Int} {l4 : Option sm_V} {l5 : Option sm_V} {l6 : Option sm_V} {l7 : Option sm_V} {Z : Nat → Nat → Int} {Rf : Nat → Nat → Option Nat} {K : Nat → Nat × Nat} {n z : Nat} {Q : Option sm_V → sm_S → Prop} : sm_wp (d + 1) 68 31 [l0, some (.inr q1), some (.inr (some r2)), some (.inl x3), l4, l5, l6, l7] [] (Z, Rf, K, n, z) Q = ((K r2).1 = 7 ∧ (Rf r2 0).isSome = true ∧ (K (((Rf r2 0).getD 0))).1 = 6 ∧ sm_call d 58 [.inr (some ((Rf r2 0).getD 0)), .inr q1, .inl x3, .inl 1] (Z, Rf, K, n, z) (sm_cont (d + 1) 68 41 [l0, some (.inr q1), some (.inr (some r2)), some (.inl x3), l4, l5, l6, l7] [] Q)) := (w_aload_n t68_31 rfl rfl).trans ((w_getR t68_32 rfl (by decide)).trans (congrArg (And _) (congrArg (And _) ((w_aload_n t68_35 rfl rfl).trans ((w_iload_n t68_36 rfl rfl).trans ((w_iconst t68_37 rfl).trans (w_callV t68_38 rfl rfl rfl rfl (Nat.le_of_ble_eq_true rfl) (Nat.le_of_ble_eq_true rfl) rfl (by decide))))))))
set_option maxRecDepth 10000 in
theorem b68_41 {d : Nat} {l0 : Option sm_V} {q1 : Option Nat} {r2 : Nat} {l3 : Option sm_V} {x4 : Int} {l5 : Option sm_V} {l6 : Option sm_V} {l7 : Option sm_V} {Z : Nat → Nat → Int} {Rf : Nat → Nat → Option Nat} {K : Nat → Nat × Nat} {n z : Nat} {Q : Option sm_V → sm_S → Prop} : sm_wp (d + 1) 68 41 [l0, some (.inr q1), some (.inr (some r2)), l3, some (.inl x4), l5, l6, l7] [] (Z, Rf, K, n, z) Q = ((K r2).1 = 7 ∧ (Rf r2 0).isSome = true ∧ (K (((Rf r2 0).getD 0))).1 = 6 ∧ sm_call d 58 [.inr (some ((Rf r2 0).getD 0)), .inr q1, .inl x4, .inl 1] (Z, Rf, K, n, z) (sm_cont (d + 1) 68 52 [l0, some (.inr q1), some (.inr (some r2)), l3, some (.inl x4), l5, l6, l7] [] Q)) := (w_aload_n t68_41 rfl rfl).trans ((w_getR t68_42 rfl (by decide)).trans (congrArg (And _) (congrArg (And _) ((w_aload_n t68_45 rfl rfl).trans ((w_iload t68_46 rfl rfl).trans ((w_iconst t68_48 rfl).trans (w_callV t68_49 rfl rfl rfl rfl (Nat.le_of_ble_eq_true rfl) (Nat.le_of_ble_eq_true rfl) rfl (by decide))))))))
set_option maxRecDepth 10000 in
theorem b68_52 {d : Nat} {r0 : Nat} {q1 : Option Nat} {r2 : Nat} {l3 : Option sm_V} {l4 : Option sm_V} {l5 : Option sm_V} {l6 : Option sm_V} {l7 : Option sm_V} {Z : Nat → Nat → Int} {Rf : Nat → Nat → Option Nat} {K : Nat → Nat × Nat} {n z : Nat} {Q : Option sm_V → sm_S → Prop} : sm_wp (d + 1) 68 52 [some (.inr (some r0)), some (.inr q1), some (.inr (some r2)), l3, l4, l5, l6, l7] [] (Z, Rf, K, n, z) Q = ((K r0).1 = 8 ∧ (Rf r0 0).isSome = true ∧ (K r2).1 = 7 ∧ sm_call d 60 [.inr (some r2), .inr q1, .inr (some ((Rf r0 0).getD 0))] (Z, Rf, K, n, z) (sm_cont (d + 1) 68 61 [some (.inr (some r0)), some (.inr q1), some (.inr (some r2)), l3, l4, l5, l6, l7] [] Q)) := (w_aload_n t68_52 rfl rfl).trans ((w_aload_n t68_53 rfl rfl).trans ((w_aload_n t68_54 rfl rfl).trans ((w_getR t68_55 rfl (by decide)).trans (congrArg (And _) (congrArg (And _) (w_callV t68_58 rfl rfl rfl rfl (Nat.le_of_ble_eq_true rfl) (Nat.le_of_ble_eq_true rfl) rfl (by decide)))))))
set_option maxRecDepth 10000 in
theorem b68_61 {d : Nat} {r0 : Nat} {q1 : Option Nat} {r2 : Nat} {l3 : Option sm_V} {l4 : Option sm_V} {l5 : Option sm_V} {l6 : Option sm_V} {l7 : Option sm_V} {Z : Nat → Nat → Int} {Rf : Nat → Nat → Option Nat} {K : Nat → Nat × Nat} {n z : Nat} {Q : Option sm_V → sm_S → Prop} : sm_wp (d + 1) 68 61 [some (.inr (some r0)), some (.inr q1), some (.inr (some r2)), l3, l4, l5, l6, l7] [] (Z, Rf, K, n, z) Q = ((K r2).1 = 7 ∧ (Rf r2 1).isSome = true ∧ (K r0).1 = 8 ∧ (Rf r0 0).isSome = true ∧ (K (((Rf r2 1).getD 0))).1 = 0 ∧ sm_call d 1 [.inr (some ((Rf r2 1).getD 0)), .inr q1, .inr (some ((Rf r0 0).getD 0))] (Z, Rf, K, n, z) (sm_cont (d + 1) 68 73 [some (.inr (some r0)), some (.inr q1), some (.inr (some r2)), l3, l4, l5, l6, l7] [] Q)) := (w_aload_n t68_61 rfl rfl).trans ((w_getR t68_62 rfl (by decide)).trans (congrArg (And _) (congrArg (And _) ((w_aload_n t68_65 rfl rfl).trans ((w_aload_n t68_66 rfl rfl).trans ((w_getR t68_67 rfl (by decide)).trans (congrArg (And _) (congrArg (And _) (w_callV t68_70 rfl rfl rfl rfl (Nat.le_of_ble_eq_true rfl) (Nat.le_of_ble_eq_true rfl) rfl (by decide))))))))))
set_option maxRecDepth 10000 in
theorem b68_73 {d : Nat} {l0 : Option sm_V} {q1 : Option Nat} {r2 : Nat} {x3 : Int} {l4 : Option sm_V} {l5 : Option sm_V} {l6 : Option sm_V} {l7 : Option sm_V} {Z : Nat → Nat → Int} {Rf : Nat → Nat → Option Nat} {K : Nat → Nat × Nat} {n z : Nat} {Q : Option sm_V → sm_S → Prop} : sm_wp (d + 1) 68 73 [l0, some (.inr q1), some (.inr (some r2)), some (.inl x3), l4, l5, l6, l7] [] (Z, Rf, K, n, z) Q = ((K r2).1 = 7 ∧ (Rf r2 0).isSome = true ∧ (K (((Rf r2 0).getD 0))).1 = 6 ∧ sm_call d 58 [.inr (some ((Rf r2 0).getD 0)), .inr q1, .inl x3, .inl ((-1))] (Z, Rf, K, n, z) (sm_cont (d + 1) 68 83 [l0, some (.inr q1), some (.inr (some r2)), some (.inl x3), l4, l5, l6, l7] [] Q)) := (w_aload_n t68_73 rfl rfl).trans ((w_getR t68_74 rfl (by decide)).trans (congrArg (And _) (congrArg (And _) ((w_aload_n t68_77 rfl rfl).trans ((w_iload_n t68_78 rfl rfl).trans ((w_iconst t68_79 rfl).trans (w_callV t68_80 rfl rfl rfl rfl (Nat.le_of_ble_eq_true rfl) (Nat.le_of_ble_eq_true rfl) rfl (by decide))))))))
set_option maxRecDepth 10000 in
theorem b68_83 {d : Nat} {l0 : Option sm_V} {q1 : Option Nat} {r2 : Nat} {l3 : Option sm_V} {x4 : Int} {l5 : Option sm_V} {l6 : Option sm_V} {l7 : Option sm_V} {Z : Nat → Nat → Int} {Rf : Nat → Nat → Option Nat} {K : Nat → Nat × Nat} {n z : Nat} {Q : Option sm_V → sm_S → Prop} : sm_wp (d + 1) 68 83 [l0, some (.inr q1), some (.inr (some r2)), l3, some (.inl x4), l5, l6, l7] [] (Z, Rf, K, n, z) Q = ((K r2).1 = 7 ∧ (Rf r2 0).isSome = true ∧ (K (((Rf r2 0).getD 0))).1 = 6 ∧ sm_call d 58 [.inr (some ((Rf r2 0).getD 0)), .inr q1, .inl x4, .inl ((-1))] (Z, Rf, K, n, z) (sm_cont (d + 1) 68 94 [l0, some (.inr q1), some (.inr (some r2)), l3, some (.inl x4), l5, l6, l7] [] Q)) := (w_aload_n t68_83 rfl rfl).trans ((w_getR t68_84 rfl (by decide)).trans (congrArg (And _) (congrArg (And _) ((w_aload_n t68_87 rfl rfl).trans ((w_iload t68_88 rfl rfl).trans ((w_iconst t68_90 rfl).trans (w_callV t68_91 rfl rfl rfl rfl (Nat.le_of_ble_eq_true rfl) (Nat.le_of_ble_eq_true rfl) rfl (by decide))))))))
set_option maxRecDepth 10000 in
theorem b68_94 {d : Nat} {l0 : Option sm_V} {l1 : Option sm_V} {r2 : Nat} {l3 : Option sm_V} {l4 : Option sm_V} {x5 : Int} {x6 : Int} {l7 : Option sm_V} {Z : Nat → Nat → Int} {Rf : Nat → Nat → Option Nat} {K : Nat → Nat × Nat} {n z : Nat} {Q : Option sm_V → sm_S → Prop} : sm_wp (d + 1) 68 94 [l0, l1, some (.inr (some r2)), l3, l4, some (.inl x5), some (.inl x6), l7] [] (Z, Rf, K, n, z) Q = ((K r2).1 = 7 ∧ (Rf r2 1).isSome = true ∧ (K (((Rf r2 1).getD 0))).1 = 0 ∧ sm_call d 3 [.inr (some ((Rf r2 1).getD 0)), .inl x5, .inl x6] (Z, Rf, K, n, z) (sm_cont (d + 1) 68 105 [l0, l1, some (.inr (some r2)), l3, l4, some (.inl x5), some (.inl x6), l7] [] Q)) := (w_aload_n t68_94 rfl rfl).trans ((w_getR t68_95 rfl (by decide)).trans (congrArg (And _) (congrArg (And _) ((w_iload t68_98 rfl rfl).trans ((w_iload t68_100 rfl rfl).trans (w_callV t68_102 rfl rfl rfl rfl (Nat.le_of_ble_eq_true rfl) (Nat.le_of_ble_eq_true rfl) rfl (by decide)))))))
set_option maxRecDepth 10000 in
theorem b68_105 {d : Nat} {l0 : Option sm_V} {l1 : Option sm_V} {l2 : Option sm_V} {l3 : Option sm_V} {l4 : Option sm_V} {l5 : Option sm_V} {l6 : Option sm_V} {l7 : Option sm_V} {s0 : Int} {Z : Nat → Nat → Int} {Rf : Nat → Nat → Option Nat} {K : Nat → Nat × Nat} {n z : Nat} {Q : Option sm_V → sm_S → Prop} : sm_wp d 68 105 [l0, l1, l2, l3, l4, l5, l6, l7] [.inl s0] (Z, Rf, K, n, z) Q = (if wr s0 = 0 then sm_wp d 68 156 [l0, l1, l2, l3, l4, l5, l6, l7] [] (Z, Rf, K, n, z) Q else sm_wp d 68 108 [l0, l1, l2, l3, l4, l5, l6, l7] [] (Z, Rf, K, n, z) Q) := w_ifeq t68_105 rfl rfl rfl
set_option maxRecDepth 10000 in
theorem b68_108 {d : Nat} {r0 : Nat} {l1 : Option sm_V} {l2 : Option sm_V} {x3 : Int} {l4 : Option sm_V} {l5 : Option sm_V} {l6 : Option sm_V} {x7 : Int} {Z : Nat → Nat → Int} {Rf : Nat → Nat → Option Nat} {K : Nat → Nat × Nat} {n z : Nat} {Q : Option sm_V → sm_S → Prop} : sm_wp d 68 108 [some (.inr (some r0)), l1, l2, some (.inl x3), l4, l5, l6, some (.inl x7)] [] (Z, Rf, K, n, z) Q = ((K r0).1 = 8 ∧ ((1 : Int) = 0 ∨ (1 : Int) = 1) ∧ (K r0).1 = 8 ∧ (if wr x3 = (-1 : Int) then sm_wp d 68 125 [some (.inr (some r0)), l1, l2, some (.inl x3), l4, l5, l6, some (.inl x7)] [.inr (some r0)] (sm_u (sm_u Z r0 7 1) r0 3 x7, Rf, K, n, z) Q else sm_wp d 68 129 [some (.inr (some r0)), l1, l2, some (.inl x3), l4, l5, l6, some (.inl x7)] [.inr (some r0)] (sm_u (sm_u Z r0 7 1) r0 3 x7, Rf, K, n, z) Q)) := (w_aload_n t68_108 rfl rfl).trans ((w_iconst t68_109 rfl).trans ((w_putB t68_110 rfl (by decide) wl_1).trans (congrArg (And _) (congrArg (And _) ((w_aload_n t68_113 rfl rfl).trans ((w_iload t68_114 rfl rfl).trans ((w_putI t68_116 rfl (by decide)).trans (congrArg (And _) ((w_aload_n t68_119 rfl rfl).trans ((w_iload_n t68_120 rfl rfl).trans ((w_iconst t68_121 rfl).trans (w_icne t68_122 rfl wl_m1 rfl rfl))))))))))))
set_option maxRecDepth 10000 in
theorem b68_125 {d : Nat} {l0 : Option sm_V} {l1 : Option sm_V} {l2 : Option sm_V} {l3 : Option sm_V} {l4 : Option sm_V} {l5 : Option sm_V} {l6 : Option sm_V} {l7 : Option sm_V} {qs0 : Option Nat} {Z : Nat → Nat → Int} {Rf : Nat → Nat → Option Nat} {K : Nat → Nat × Nat} {n z : Nat} {Q : Option sm_V → sm_S → Prop} : sm_wp d 68 125 [l0, l1, l2, l3, l4, l5, l6, l7] [.inr qs0] (Z, Rf, K, n, z) Q = (sm_wp d 68 130 [l0, l1, l2, l3, l4, l5, l6, l7] [.inl 0, .inr qs0] (Z, Rf, K, n, z) Q) := (w_iconst t68_125 rfl).trans (w_goto t68_126 rfl)
set_option maxRecDepth 10000 in
theorem b68_129 {d : Nat} {l0 : Option sm_V} {l1 : Option sm_V} {l2 : Option sm_V} {l3 : Option sm_V} {l4 : Option sm_V} {l5 : Option sm_V} {l6 : Option sm_V} {l7 : Option sm_V} {qs0 : Option Nat} {Z : Nat → Nat → Int} {Rf : Nat → Nat → Option Nat} {K : Nat → Nat × Nat} {n z : Nat} {Q : Option sm_V → sm_S → Prop} : sm_wp d 68 129 [l0, l1, l2, l3, l4, l5, l6, l7] [.inr qs0] (Z, Rf, K, n, z) Q = (sm_wp d 68 130 [l0, l1, l2, l3, l4, l5, l6, l7] [.inl 1, .inr qs0] (Z, Rf, K, n, z) Q) := w_iconst t68_129 rfl
set_option maxRecDepth 10000 in
theorem b68_130 {d : Nat} {l0 : Option sm_V} {l1 : Option sm_V} {l2 : Option sm_V} {l3 : Option sm_V} {x4 : Int} {l5 : Option sm_V} {l6 : Option sm_V} {l7 : Option sm_V} {qs0 : Option Nat} {s1 : Int} {Z : Nat → Nat → Int} {Rf : Nat → Nat → Option Nat} {K : Nat → Nat × Nat} {n z : Nat} {Q : Option sm_V → sm_S → Prop} : sm_wp d 68 130 [l0, l1, l2, l3, some (.inl x4), l5, l6, l7] [.inl s1, .inr qs0] (Z, Rf, K, n, z) Q = (if wr x4 = (-1 : Int) then sm_wp d 68 136 [l0, l1, l2, l3, some (.inl x4), l5, l6, l7] [.inl s1, .inr qs0] (Z, Rf, K, n, z) Q else sm_wp d 68 140 [l0, l1, l2, l3, some (.inl x4), l5, l6, l7] [.inl s1, .inr qs0] (Z, Rf, K, n, z) Q) := (w_iload t68_130 rfl rfl).trans ((w_iconst t68_132 rfl).trans (w_icne t68_133 rfl wl_m1 rfl rfl))
set_option maxRecDepth 10000 in
theorem b68_136 {d : Nat} {l0 : Option sm_V} {l1 : Option sm_V} {l2 : Option sm_V} {l3 : Option sm_V} {l4 : Option sm_V} {l5 : Option sm_V} {l6 : Option sm_V} {l7 : Option sm_V} {qs0 : Option Nat} {s1 : Int} {Z : Nat → Nat → Int} {Rf : Nat → Nat → Option Nat} {K : Nat → Nat × Nat} {n z : Nat} {Q : Option sm_V → sm_S → Prop} : sm_wp d 68 136 [l0, l1, l2, l3, l4, l5, l6, l7] [.inl s1, .inr qs0] (Z, Rf, K, n, z) Q = (sm_wp d 68 141 [l0, l1, l2, l3, l4, l5, l6, l7] [.inl 0, .inl s1, .inr qs0] (Z, Rf, K, n, z) Q) := (w_iconst t68_136 rfl).trans (w_goto t68_137 rfl)
set_option maxRecDepth 10000 in
theorem b68_140 {d : Nat} {l0 : Option sm_V} {l1 : Option sm_V} {l2 : Option sm_V} {l3 : Option sm_V} {l4 : Option sm_V} {l5 : Option sm_V} {l6 : Option sm_V} {l7 : Option sm_V} {qs0 : Option Nat} {s1 : Int} {Z : Nat → Nat → Int} {Rf : Nat → Nat → Option Nat} {K : Nat → Nat × Nat} {n z : Nat} {Q : Option sm_V → sm_S → Prop} : sm_wp d 68 140 [l0, l1, l2, l3, l4, l5, l6, l7] [.inl s1, .inr qs0] (Z, Rf, K, n, z) Q = (sm_wp d 68 141 [l0, l1, l2, l3, l4, l5, l6, l7] [.inl 1, .inl s1, .inr qs0] (Z, Rf, K, n, z) Q) := w_iconst t68_140 rfl
set_option maxRecDepth 10000 in
theorem b68_141 {d : Nat} {r0 : Nat} {l1 : Option sm_V} {l2 : Option sm_V} {x3 : Int} {x4 : Int} {l5 : Option sm_V} {l6 : Option sm_V} {l7 : Option sm_V} {rs0 : Nat} {s1 : Int} {s2 : Int} {Z : Nat → Nat → Int} {Rf : Nat → Nat → Option Nat} {K : Nat → Nat × Nat} {n z : Nat} {Q : Option sm_V → sm_S → Prop} : sm_wp d 68 141 [some (.inr (some r0)), l1, l2, some (.inl x3), some (.inl x4), l5, l6, l7] [.inl s2, .inl s1, .inr (some rs0)] (Z, Rf, K, n, z) Q = ((K rs0).1 = 8 ∧ (K r0).1 = 8 ∧ (K r0).1 = 8 ∧ sm_wp d 68 156 [some (.inr (some r0)), l1, l2, some (.inl x3), some (.inl x4), l5, l6, l7] [] (sm_u (sm_u (sm_u Z rs0 4 (s1 + s2)) r0 5 x3) r0 6 x4, Rf, K, n, z) Q) := (w_iadd t68_141 rfl).trans ((w_putI t68_142 rfl (by decide)).trans (congrArg (And _) ((w_aload_n t68_145 rfl rfl).trans ((w_iload_n t68_146 rfl rfl).trans ((w_putI t68_147 rfl (by decide)).trans (congrArg (And _) ((w_aload_n t68_150 rfl rfl).trans ((w_iload t68_151 rfl rfl).trans ((w_putI t68_153 rfl (by decide)).trans (congrArg (And _) rfl))))))))))
set_option maxRecDepth 10000 in
theorem b68_156 {d : Nat} {l0 : Option sm_V} {l1 : Option sm_V} {l2 : Option sm_V} {l3 : Option sm_V} {l4 : Option sm_V} {l5 : Option sm_V} {l6 : Option sm_V} {l7 : Option sm_V} {Z : Nat → Nat → Int} {Rf : Nat → Nat → Option Nat} {K : Nat → Nat × Nat} {n z : Nat} {Q : Option sm_V → sm_S → Prop} : sm_wp d 68 156 [l0, l1, l2, l3, l4, l5, l6, l7] [] (Z, Rf, K, n, z) Q = (Q none (Z, Rf, K, n, z)) := w_vret t68_156
theorem t69_0 : sm_at 69 0 = some (1, .aload_n 0, 0, 0, 0) := rfl
theorem t69_1 : sm_at 69 1 = some (1, .iload_n 1, 0, 0, 0) := rfl
theorem t69_2 : sm_at 69 2 = some (3, .invokevirtual 65, 8, 2, 0) := rfl
theorem t69_5 : sm_at 69 5 = some (3, .ifCond .eq 12, 0, 0, 0) := rfl
theorem t69_8 : sm_at 69 8 = some (1, .aload_n 0, 0, 0, 0) := rfl
theorem t69_9 : sm_at 69 9 = some (3, .getfield 107, 1, 5, 0) := rfl
theorem t69_12 : sm_at 69 12 = some (1, .iload_n 1, 0, 0, 0) := rfl
theorem t69_13 : sm_at 69 13 = some (1, .iaload, 0, 0, 0) := rfl
theorem t69_14 : sm_at 69 14 = some (3, .goto 4, 0, 0, 0) := rfl
theorem t69_17 : sm_at 69 17 = some (1, .iconst 0, 0, 0, 0) := rfl
theorem t69_18 : sm_at 69 18 = some (1, .ireturn, 0, 0, 0) := rfl
set_option maxRecDepth 10000 in
theorem b69_0 {d : Nat} {r0 : Nat} {x1 : Int} {Z : Nat → Nat → Int} {Rf : Nat → Nat → Option Nat} {K : Nat → Nat × Nat} {n z : Nat} {Q : Option sm_V → sm_S → Prop} : sm_wp (d + 1) 69 0 [some (.inr (some r0)), some (.inl x1)] [] (Z, Rf, K, n, z) Q = ((K r0).1 = 1 ∧ sm_call d 8 [.inr (some r0), .inl x1] (Z, Rf, K, n, z) (sm_cont (d + 1) 69 5 [some (.inr (some r0)), some (.inl x1)] [] Q)) := (w_aload_n t69_0 rfl rfl).trans ((w_iload_n t69_1 rfl rfl).trans (w_callV t69_2 rfl rfl rfl rfl (Nat.le_of_ble_eq_true rfl) (Nat.le_of_ble_eq_true rfl) rfl (by decide)))
set_option maxRecDepth 10000 in
theorem b69_5 {d : Nat} {l0 : Option sm_V} {l1 : Option sm_V} {s0 : Int} {Z : Nat → Nat → Int} {Rf : Nat → Nat → Option Nat} {K : Nat → Nat × Nat} {n z : Nat} {Q : Option sm_V → sm_S → Prop} : sm_wp d 69 5 [l0, l1] [.inl s0] (Z, Rf, K, n, z) Q = (if wr s0 = 0 then sm_wp d 69 17 [l0, l1] [] (Z, Rf, K, n, z) Q else sm_wp d 69 8 [l0, l1] [] (Z, Rf, K, n, z) Q) := w_ifeq t69_5 rfl rfl rfl
set_option maxRecDepth 10000 in
theorem b69_8 {d : Nat} {r0 : Nat} {x1 : Int} {Z : Nat → Nat → Int} {Rf : Nat → Nat → Option Nat} {K : Nat → Nat × Nat} {n z : Nat} {Q : Option sm_V → sm_S → Prop} : sm_wp d 69 8 [some (.inr (some r0)), some (.inl x1)] [] (Z, Rf, K, n, z) Q = ((K r0).1 = 1 ∧ (Rf r0 5).isSome = true ∧ sm_rd (K (((Rf r0 5).getD 0))) (wr x1) ∧ sm_wp d 69 18 [some (.inr (some r0)), some (.inl x1)] [.inl (Z (((Rf r0 5).getD 0)) ((wr x1).toNat))] (Z, Rf, K, n, z) Q) := (w_aload_n t69_8 rfl rfl).trans ((w_getR t69_9 rfl (by decide)).trans (congrArg (And _) (congrArg (And _) ((w_iload_n t69_12 rfl rfl).trans ((w_iald t69_13 rfl rfl).trans (congrArg (And _) (w_goto t69_14 rfl)))))))
set_option maxRecDepth 10000 in
theorem b69_17 {d : Nat} {l0 : Option sm_V} {l1 : Option sm_V} {Z : Nat → Nat → Int} {Rf : Nat → Nat → Option Nat} {K : Nat → Nat × Nat} {n z : Nat} {Q : Option sm_V → sm_S → Prop} : sm_wp d 69 17 [l0, l1] [] (Z, Rf, K, n, z) Q = (sm_wp d 69 18 [l0, l1] [.inl 0] (Z, Rf, K, n, z) Q) := w_iconst t69_17 rfl
set_option maxRecDepth 10000 in
theorem b69_18 {d : Nat} {l0 : Option sm_V} {l1 : Option sm_V} {s0 : Int} {Z : Nat → Nat → Int} {Rf : Nat → Nat → Option Nat} {K : Nat → Nat × Nat} {n z : Nat} {Q : Option sm_V → sm_S → Prop} : sm_wp d 69 18 [l0, l1] [.inl s0] (Z, Rf, K, n, z) Q = (Q (some (.inl s0)) (Z, Rf, K, n, z)) := w_iret t69_18
theorem t70_0 : sm_at 70 0 = some (1, .iconst 0, 0, 0, 0) := rfl
theorem t70_1 : sm_at 70 1 = some (2, .istore 5, 0, 0, 0) := rfl
theorem t70_3 : sm_at 70 3 = some (1, .iconst 0, 0, 0, 0) := rfl
theorem t70_4 : sm_at 70 4 = some (2, .istore 6, 0, 0, 0) := rfl
theorem t70_6 : sm_at 70 6 = some (2, .iload 6, 0, 0, 0) := rfl
theorem t70_8 : sm_at 70 8 = some (1, .iconst 1, 0, 0, 0) := rfl
theorem t70_9 : sm_at 70 9 = some (1, .aload_n 1, 0, 0, 0) := rfl
theorem t70_10 : sm_at 70 10 = some (3, .getfield 110, 1, 14, 0) := rfl
theorem t70_13 : sm_at 70 13 = some (3, .getfield 113, 5, 2, 0) := rfl
theorem t70_16 : sm_at 70 16 = some (1, .ishl, 0, 0, 0) := rfl
theorem t70_17 : sm_at 70 17 = some (3, .if_icmp .ge 41, 0, 0, 0) := rfl
theorem t70_20 : sm_at 70 20 = some (1, .aload_n 0, 0, 0, 0) := rfl
theorem t70_21 : sm_at 70 21 = some (1, .aload_n 1, 0, 0, 0) := rfl
theorem t70_22 : sm_at 70 22 = some (1, .aload_n 2, 0, 0, 0) := rfl
theorem t70_23 : sm_at 70 23 = some (2, .iload 6, 0, 0, 0) := rfl
theorem t70_25 : sm_at 70 25 = some (3, .invokevirtual 116, 72, 4, 0) := rfl
theorem t70_28 : sm_at 70 28 = some (1, .aload_n 2, 0, 0, 0) := rfl
theorem t70_29 : sm_at 70 29 = some (3, .getfield 85, 7, 1, 0) := rfl
theorem t70_32 : sm_at 70 32 = some (1, .iload_n 3, 0, 0, 0) := rfl
theorem t70_33 : sm_at 70 33 = some (2, .iload 4, 0, 0, 0) := rfl
theorem t70_35 : sm_at 70 35 = some (3, .invokevirtual 94, 3, 3, 0) := rfl
theorem t70_38 : sm_at 70 38 = some (3, .ifCond .eq 14, 0, 0, 0) := rfl
theorem t70_41 : sm_at 70 41 = some (2, .iload 5, 0, 0, 0) := rfl
theorem t70_43 : sm_at 70 43 = some (1, .aload_n 1, 0, 0, 0) := rfl
theorem t70_44 : sm_at 70 44 = some (2, .iload 6, 0, 0, 0) := rfl
theorem t70_46 : sm_at 70 46 = some (3, .invokestatic 120, 71, 2, 0) := rfl
theorem t70_49 : sm_at 70 49 = some (1, .iadd, 0, 0, 0) := rfl
theorem t70_50 : sm_at 70 50 = some (2, .istore 5, 0, 0, 0) := rfl
theorem t70_52 : sm_at 70 52 = some (3, .iinc 6 1, 0, 0, 0) := rfl
theorem t70_55 : sm_at 70 55 = some (3, .goto (-49), 0, 0, 0) := rfl
theorem t70_58 : sm_at 70 58 = some (2, .iload 5, 0, 0, 0) := rfl
theorem t70_60 : sm_at 70 60 = some (1, .ireturn, 0, 0, 0) := rfl
set_option maxRecDepth 10000 in
theorem b70_0 {d : Nat} {l0 : Option sm_V} {l1 : Option sm_V} {l2 : Option sm_V} {l3 : Option sm_V} {l4 : Option sm_V} {l5 : Option sm_V} {l6 : Option sm_V} {Z : Nat → Nat → Int} {Rf : Nat → Nat → Option Nat} {K : Nat → Nat × Nat} {n z : Nat} {Q : Option sm_V → sm_S → Prop} : sm_wp d 70 0 [l0, l1, l2, l3, l4, l5, l6] [] (Z, Rf, K, n, z) Q = (sm_wp d 70 6 [l0, l1, l2, l3, l4, some (.inl 0), some (.inl 0)] [] (Z, Rf, K, n, z) Q) := (w_iconst t70_0 rfl).trans ((w_istore t70_1 rfl (Nat.le_of_ble_eq_true rfl) rfl).trans ((w_iconst t70_3 rfl).trans (w_istore t70_4 rfl (Nat.le_of_ble_eq_true rfl) rfl)))
set_option maxRecDepth 10000 in
theorem b70_6 {d : Nat} {l0 : Option sm_V} {r1 : Nat} {l2 : Option sm_V} {l3 : Option sm_V} {l4 : Option sm_V} {l5 : Option sm_V} {x6 : Int} {Z : Nat → Nat → Int} {Rf : Nat → Nat → Option Nat} {K : Nat → Nat × Nat} {n z : Nat} {Q : Option sm_V → sm_S → Prop} : sm_wp d 70 6 [l0, some (.inr (some r1)), l2, l3, l4, l5, some (.inl x6)] [] (Z, Rf, K, n, z) Q = ((K r1).1 = 1 ∧ (Rf r1 14).isSome = true ∧ (K (((Rf r1 14).getD 0))).1 = 5 ∧ (if wr (sm_shl 1 (Z (((Rf r1 14).getD 0)) 2)) ≤ wr x6 then sm_wp d 70 58 [l0, some (.inr (some r1)), l2, l3, l4, l5, some (.inl x6)] [] (Z, Rf, K, n, z) Q else sm_wp d 70 20 [l0, some (.inr (some r1)), l2, l3, l4, l5, some (.inl x6)] [] (Z, Rf, K, n, z) Q)) := (w_iload t70_6 rfl rfl).trans ((w_iconst t70_8 rfl).trans ((w_aload_n t70_9 rfl rfl).trans ((w_getR t70_10 rfl (by decide)).trans (congrArg (And _) (congrArg (And _) ((w_getI t70_13 rfl (by decide)).trans (congrArg (And _) ((w_ishl t70_16 rfl).trans (w_icge t70_17 rfl rfl rfl rfl)))))))))
set_option maxRecDepth 10000 in
theorem b70_20 {d : Nat} {r0 : Nat} {q1 : Option Nat} {q2 : Option Nat} {l3 : Option sm_V} {l4 : Option sm_V} {l5 : Option sm_V} {x6 : Int} {Z : Nat → Nat → Int} {Rf : Nat → Nat → Option Nat} {K : Nat → Nat × Nat} {n z : Nat} {Q : Option sm_V → sm_S → Prop} : sm_wp (d + 1) 70 20 [some (.inr (some r0)), some (.inr q1), some (.inr q2), l3, l4, l5, some (.inl x6)] [] (Z, Rf, K, n, z) Q = ((K r0).1 = 8 ∧ sm_call d 72 [.inr (some r0), .inr q1, .inr q2, .inl x6] (Z, Rf, K, n, z) (sm_cont (d + 1) 70 28 [some (.inr (some r0)), some (.inr q1), some (.inr q2), l3, l4, l5, some (.inl x6)] [] Q)) := (w_aload_n t70_20 rfl rfl).trans ((w_aload_n t70_21 rfl rfl).trans ((w_aload_n t70_22 rfl rfl).trans ((w_iload t70_23 rfl rfl).trans (w_callV t70_25 rfl rfl rfl rfl (Nat.le_of_ble_eq_true rfl) (Nat.le_of_ble_eq_true rfl) rfl (by decide)))))
set_option maxRecDepth 10000 in
theorem b70_28 {d : Nat} {l0 : Option sm_V} {l1 : Option sm_V} {r2 : Nat} {x3 : Int} {x4 : Int} {l5 : Option sm_V} {l6 : Option sm_V} {Z : Nat → Nat → Int} {Rf : Nat → Nat → Option Nat} {K : Nat → Nat × Nat} {n z : Nat} {Q : Option sm_V → sm_S → Prop} : sm_wp (d + 1) 70 28 [l0, l1, some (.inr (some r2)), some (.inl x3), some (.inl x4), l5, l6] [] (Z, Rf, K, n, z) Q = ((K r2).1 = 7 ∧ (Rf r2 1).isSome = true ∧ (K (((Rf r2 1).getD 0))).1 = 0 ∧ sm_call d 3 [.inr (some ((Rf r2 1).getD 0)), .inl x3, .inl x4] (Z, Rf, K, n, z) (sm_cont (d + 1) 70 38 [l0, l1, some (.inr (some r2)), some (.inl x3), some (.inl x4), l5, l6] [] Q)) := (w_aload_n t70_28 rfl rfl).trans ((w_getR t70_29 rfl (by decide)).trans (congrArg (And _) (congrArg (And _) ((w_iload_n t70_32 rfl rfl).trans ((w_iload t70_33 rfl rfl).trans (w_callV t70_35 rfl rfl rfl rfl (Nat.le_of_ble_eq_true rfl) (Nat.le_of_ble_eq_true rfl) rfl (by decide)))))))
set_option maxRecDepth 10000 in
theorem b70_38 {d : Nat} {l0 : Option sm_V} {l1 : Option sm_V} {l2 : Option sm_V} {l3 : Option sm_V} {l4 : Option sm_V} {l5 : Option sm_V} {l6 : Option sm_V} {s0 : Int} {Z : Nat → Nat → Int} {Rf : Nat → Nat → Option Nat} {K : Nat → Nat × Nat} {n z : Nat} {Q : Option sm_V → sm_S → Prop} : sm_wp d 70 38 [l0, l1, l2, l3, l4, l5, l6] [.inl s0] (Z, Rf, K, n, z) Q = (if wr s0 = 0 then sm_wp d 70 52 [l0, l1, l2, l3, l4, l5, l6] [] (Z, Rf, K, n, z) Q else sm_wp d 70 41 [l0, l1, l2, l3, l4, l5, l6] [] (Z, Rf, K, n, z) Q) := w_ifeq t70_38 rfl rfl rfl
set_option maxRecDepth 10000 in
theorem b70_41 {d : Nat} {l0 : Option sm_V} {q1 : Option Nat} {l2 : Option sm_V} {l3 : Option sm_V} {l4 : Option sm_V} {x5 : Int} {x6 : Int} {Z : Nat → Nat → Int} {Rf : Nat → Nat → Option Nat} {K : Nat → Nat × Nat} {n z : Nat} {Q : Option sm_V → sm_S → Prop} : sm_wp (d + 1) 70 41 [l0, some (.inr q1), l2, l3, l4, some (.inl x5), some (.inl x6)] [] (Z, Rf, K, n, z) Q = (sm_call d 71 [.inr q1, .inl x6] (Z, Rf, K, n, z) (sm_cont (d + 1) 70 49 [l0, some (.inr q1), l2, l3, l4, some (.inl x5), some (.inl x6)] [.inl x5] Q)) := (w_iload t70_41 rfl rfl).trans ((w_aload_n t70_43 rfl rfl).trans ((w_iload t70_44 rfl rfl).trans (w_callS t70_46 rfl rfl rfl rfl (Nat.le_of_ble_eq_true rfl) (Nat.le_of_ble_eq_true rfl) rfl)))
set_option maxRecDepth 10000 in
theorem b70_49 {d : Nat} {l0 : Option sm_V} {l1 : Option sm_V} {l2 : Option sm_V} {l3 : Option sm_V} {l4 : Option sm_V} {l5 : Option sm_V} {l6 : Option sm_V} {s0 : Int} {s1 : Int} {Z : Nat → Nat → Int} {Rf : Nat → Nat → Option Nat} {K : Nat → Nat × Nat} {n z : Nat} {Q : Option sm_V → sm_S → Prop} : sm_wp d 70 49 [l0, l1, l2, l3, l4, l5, l6] [.inl s1, .inl s0] (Z, Rf, K, n, z) Q = (sm_wp d 70 52 [l0, l1, l2, l3, l4, some (.inl (s0 + s1)), l6] [] (Z, Rf, K, n, z) Q) := (w_iadd t70_49 rfl).trans (w_istore t70_50 rfl (Nat.le_of_ble_eq_true rfl) rfl)
set_option maxRecDepth 10000 in
theorem b70_52 {d : Nat} {l0 : Option sm_V} {l1 : Option sm_V} {l2 : Option sm_V} {l3 : Option sm_V} {l4 : Option sm_V} {l5 : Option sm_V} {x6 : Int} {Z : Nat → Nat → Int} {Rf : Nat → Nat → Option Nat} {K : Nat → Nat × Nat} {n z : Nat} {Q : Option sm_V → sm_S → Prop} : sm_wp d 70 52 [l0, l1, l2, l3, l4, l5, some (.inl x6)] [] (Z, Rf, K, n, z) Q = (sm_wp d 70 6 [l0, l1, l2, l3, l4, l5, some (.inl (x6 + 1))] [] (Z, Rf, K, n, z) Q) := (w_iinc t70_52 rfl rfl (Nat.le_of_ble_eq_true rfl) rfl).trans (w_goto t70_55 rfl)
set_option maxRecDepth 10000 in
theorem b70_58 {d : Nat} {l0 : Option sm_V} {l1 : Option sm_V} {l2 : Option sm_V} {l3 : Option sm_V} {l4 : Option sm_V} {x5 : Int} {l6 : Option sm_V} {Z : Nat → Nat → Int} {Rf : Nat → Nat → Option Nat} {K : Nat → Nat × Nat} {n z : Nat} {Q : Option sm_V → sm_S → Prop} : sm_wp d 70 58 [l0, l1, l2, l3, l4, some (.inl x5), l6] [] (Z, Rf, K, n, z) Q = (Q (some (.inl x5)) (Z, Rf, K, n, z)) := (w_iload t70_58 rfl rfl).trans (w_iret t70_60)
theorem t71_0 : sm_at 71 0 = some (1, .iconst 1, 0, 0, 0) := rfl
theorem t71_1 : sm_at 71 1 = some (1, .istore_n 2, 0, 0, 0) := rfl
theorem t71_2 : sm_at 71 2 = some (1, .iconst 0, 0, 0, 0) := rfl
theorem t71_3 : sm_at 71 3 = some (1, .istore_n 3, 0, 0, 0) := rfl
theorem t71_4 : sm_at 71 4 = some (1, .iload_n 3, 0, 0, 0) := rfl
theorem t71_5 : sm_at 71 5 = some (1, .aload_n 0, 0, 0, 0) := rfl
theorem t71_6 : sm_at 71 6 = some (3, .getfield 110, 1, 14, 0) := rfl
theorem t71_9 : sm_at 71 9 = some (3, .getfield 113, 5, 2, 0) := rfl
theorem t71_12 : sm_at 71 12 = some (3, .if_icmp .ge 41, 0, 0, 0) := rfl
theorem t71_15 : sm_at 71 15 = some (1, .aload_n 0, 0, 0, 0) := rfl
theorem t71_16 : sm_at 71 16 = some (3, .getfield 110, 1, 14, 0) := rfl
theorem t71_19 : sm_at 71 19 = some (1, .iload_n 3, 0, 0, 0) := rfl
theorem t71_20 : sm_at 71 20 = some (1, .iconst 2, 0, 0, 0) := rfl
theorem t71_21 : sm_at 71 21 = some (3, .invokevirtual 44, 54, 3, 0) := rfl
theorem t71_24 : sm_at 71 24 = some (2, .istore 4, 0, 0, 0) := rfl
theorem t71_26 : sm_at 71 26 = some (1, .iload_n 2, 0, 0, 0) := rfl
theorem t71_27 : sm_at 71 27 = some (1, .iload_n 1, 0, 0, 0) := rfl
theorem t71_28 : sm_at 71 28 = some (1, .iload_n 3, 0, 0, 0) := rfl
theorem t71_29 : sm_at 71 29 = some (1, .ishr, 0, 0, 0) := rfl
theorem t71_30 : sm_at 71 30 = some (1, .iconst 1, 0, 0, 0) := rfl
theorem t71_31 : sm_at 71 31 = some (1, .iand, 0, 0, 0) := rfl
theorem t71_32 : sm_at 71 32 = some (3, .ifCond .eq 8, 0, 0, 0) := rfl
theorem t71_35 : sm_at 71 35 = some (2, .iload 4, 0, 0, 0) := rfl
theorem t71_37 : sm_at 71 37 = some (3, .goto 8, 0, 0, 0) := rfl
theorem t71_40 : sm_at 71 40 = some (2, .bipush 10, 0, 0, 0) := rfl
theorem t71_42 : sm_at 71 42 = some (2, .iload 4, 0, 0, 0) := rfl
theorem t71_44 : sm_at 71 44 = some (1, .isub, 0, 0, 0) := rfl
theorem t71_45 : sm_at 71 45 = some (1, .imul, 0, 0, 0) := rfl
theorem t71_46 : sm_at 71 46 = some (1, .istore_n 2, 0, 0, 0) := rfl
theorem t71_47 : sm_at 71 47 = some (3, .iinc 3 1, 0, 0, 0) := rfl
theorem t71_50 : sm_at 71 50 = some (3, .goto (-46), 0, 0, 0) := rfl
theorem t71_53 : sm_at 71 53 = some (1, .iload_n 2, 0, 0, 0) := rfl
theorem t71_54 : sm_at 71 54 = some (1, .ireturn, 0, 0, 0) := rfl
set_option maxRecDepth 10000 in
theorem b71_0 {d : Nat} {l0 : Option sm_V} {l1 : Option sm_V} {l2 : Option sm_V} {l3 : Option sm_V} {l4 : Option sm_V} {Z : Nat → Nat → Int} {Rf : Nat → Nat → Option Nat} {K : Nat → Nat × Nat} {n z : Nat} {Q : Option sm_V → sm_S → Prop} : sm_wp d 71 0 [l0, l1, l2, l3, l4] [] (Z, Rf, K, n, z) Q = (sm_wp d 71 4 [l0, l1, some (.inl 1), some (.inl 0), l4] [] (Z, Rf, K, n, z) Q) := (w_iconst t71_0 rfl).trans ((w_istore_n t71_1 rfl (Nat.le_of_ble_eq_true rfl) rfl).trans ((w_iconst t71_2 rfl).trans (w_istore_n t71_3 rfl (Nat.le_of_ble_eq_true rfl) rfl)))
set_option maxRecDepth 10000 in
theorem b71_4 {d : Nat} {r0 : Nat} {l1 : Option sm_V} {l2 : Option sm_V} {x3 : Int} {l4 : Option sm_V} {Z : Nat → Nat → Int} {Rf : Nat → Nat → Option Nat} {K : Nat → Nat × Nat} {n z : Nat} {Q : Option sm_V → sm_S → Prop} : sm_wp d 71 4 [some (.inr (some r0)), l1, l2, some (.inl x3), l4] [] (Z, Rf, K, n, z) Q = ((K r0).1 = 1 ∧ (Rf r0 14).isSome = true ∧ (K (((Rf r0 14).getD 0))).1 = 5 ∧ (if wr (Z (((Rf r0 14).getD 0)) 2) ≤ wr x3 then sm_wp d 71 53 [some (.inr (some r0)), l1, l2, some (.inl x3), l4] [] (Z, Rf, K, n, z) Q else sm_wp d 71 15 [some (.inr (some r0)), l1, l2, some (.inl x3), l4] [] (Z, Rf, K, n, z) Q)) := (w_iload_n t71_4 rfl rfl).trans ((w_aload_n t71_5 rfl rfl).trans ((w_getR t71_6 rfl (by decide)).trans (congrArg (And _) (congrArg (And _) ((w_getI t71_9 rfl (by decide)).trans (congrArg (And _) (w_icge t71_12 rfl rfl rfl rfl)))))))
set_option maxRecDepth 10000 in
theorem b71_15 {d : Nat} {r0 : Nat} {l1 : Option sm_V} {l2 : Option sm_V} {x3 : Int} {l4 : Option sm_V} {Z : Nat → Nat → Int} {Rf : Nat → Nat → Option Nat} {K : Nat → Nat × Nat} {n z : Nat} {Q : Option sm_V → sm_S → Prop} : sm_wp (d + 1) 71 15 [some (.inr (some r0)), l1, l2, some (.inl x3), l4] [] (Z, Rf, K, n, z) Q = ((K r0).1 = 1 ∧ (Rf r0 14).isSome = true ∧ (K (((Rf r0 14).getD 0))).1 = 5 ∧ sm_call d 54 [.inr (some ((Rf r0 14).getD 0)), .inl x3, .inl 2] (Z, Rf, K, n, z) (sm_cont (d + 1) 71 24 [some (.inr (some r0)), l1, l2, some (.inl x3), l4] [] Q)) := (w_aload_n t71_15 rfl rfl).trans ((w_getR t71_16 rfl (by decide)).trans (congrArg (And _) (congrArg (And _) ((w_iload_n t71_19 rfl rfl).trans ((w_iconst t71_20 rfl).trans (w_callV t71_21 rfl rfl rfl rfl (Nat.le_of_ble_eq_true rfl) (Nat.le_of_ble_eq_true rfl) rfl (by decide)))))))
set_option maxRecDepth 10000 in
theorem b71_24 {d : Nat} {l0 : Option sm_V} {x1 : Int} {x2 : Int} {x3 : Int} {l4 : Option sm_V} {s0 : Int} {Z : Nat → Nat → Int} {Rf : Nat → Nat → Option Nat} {K : Nat → Nat × Nat} {n z : Nat} {Q : Option sm_V → sm_S → Prop} : sm_wp d 71 24 [l0, some (.inl x1), some (.inl x2), some (.inl x3), l4] [.inl s0] (Z, Rf, K, n, z) Q = (if wr (sm_and (sm_shr x1 x3) 1) = 0 then sm_wp d 71 40 [l0, some (.inl x1), some (.inl x2), some (.inl x3), some (.inl s0)] [.inl x2] (Z, Rf, K, n, z) Q else sm_wp d 71 35 [l0, some (.inl x1), some (.inl x2), some (.inl x3), some (.inl s0)] [.inl x2] (Z, Rf, K, n, z) Q) := (w_istore t71_24 rfl (Nat.le_of_ble_eq_true rfl) rfl).trans ((w_iload_n t71_26 rfl rfl).trans ((w_iload_n t71_27 rfl rfl).trans ((w_iload_n t71_28 rfl rfl).trans ((w_ishr t71_29 rfl).trans ((w_iconst t71_30 rfl).trans ((w_iand t71_31 rfl).trans (w_ifeq t71_32 rfl rfl rfl)))))))
set_option maxRecDepth 10000 in
theorem b71_35 {d : Nat} {l0 : Option sm_V} {l1 : Option sm_V} {l2 : Option sm_V} {l3 : Option sm_V} {x4 : Int} {s0 : Int} {Z : Nat → Nat → Int} {Rf : Nat → Nat → Option Nat} {K : Nat → Nat × Nat} {n z : Nat} {Q : Option sm_V → sm_S → Prop} : sm_wp d 71 35 [l0, l1, l2, l3, some (.inl x4)] [.inl s0] (Z, Rf, K, n, z) Q = (sm_wp d 71 45 [l0, l1, l2, l3, some (.inl x4)] [.inl x4, .inl s0] (Z, Rf, K, n, z) Q) := (w_iload t71_35 rfl rfl).trans (w_goto t71_37 rfl)
set_option maxRecDepth 10000 in
theorem b71_40 {d : Nat} {l0 : Option sm_V} {l1 : Option sm_V} {l2 : Option sm_V} {l3 : Option sm_V} {x4 : Int} {s0 : Int} {Z : Nat → Nat → Int} {Rf : Nat → Nat → Option Nat} {K : Nat → Nat × Nat} {n z : Nat} {Q : Option sm_V → sm_S → Prop} : sm_wp d 71 40 [l0, l1, l2, l3, some (.inl x4)] [.inl s0] (Z, Rf, K, n, z) Q = (sm_wp d 71 45 [l0, l1, l2, l3, some (.inl x4)] [.inl (10 - x4), .inl s0] (Z, Rf, K, n, z) Q) := (w_bipush t71_40 rfl).trans ((w_iload t71_42 rfl rfl).trans (w_isub t71_44 rfl))
set_option maxRecDepth 10000 in
theorem b71_45 {d : Nat} {l0 : Option sm_V} {l1 : Option sm_V} {l2 : Option sm_V} {x3 : Int} {l4 : Option sm_V} {s0 : Int} {s1 : Int} {Z : Nat → Nat → Int} {Rf : Nat → Nat → Option Nat} {K : Nat → Nat × Nat} {n z : Nat} {Q : Option sm_V → sm_S → Prop} : sm_wp d 71 45 [l0, l1, l2, some (.inl x3), l4] [.inl s1, .inl s0] (Z, Rf, K, n, z) Q = (sm_wp d 71 4 [l0, l1, some (.inl (s0 * s1)), some (.inl (x3 + 1)), l4] [] (Z, Rf, K, n, z) Q) := (w_imul t71_45 rfl).trans ((w_istore_n t71_46 rfl (Nat.le_of_ble_eq_true rfl) rfl).trans ((w_iinc t71_47 rfl rfl (Nat.le_of_ble_eq_true rfl) rfl).trans (w_goto t71_50 rfl)))
set_option maxRecDepth 10000 in
theorem b71_53 {d : Nat} {l0 : Option sm_V} {l1 : Option sm_V} {x2 : Int} {l3 : Option sm_V} {l4 : Option sm_V} {Z : Nat → Nat → Int} {Rf : Nat → Nat → Option Nat} {K : Nat → Nat × Nat} {n z : Nat} {Q : Option sm_V → sm_S → Prop} : sm_wp d 71 53 [l0, l1, some (.inl x2), l3, l4] [] (Z, Rf, K, n, z) Q = (Q (some (.inl x2)) (Z, Rf, K, n, z)) := (w_iload_n t71_53 rfl rfl).trans (w_iret t71_54)
theorem t72_0 : sm_at 72 0 = some (1, .aload_n 2, 0, 0, 0) := rfl
theorem t72_1 : sm_at 72 1 = some (3, .getfield 24, 7, 0, 0) := rfl
theorem t72_4 : sm_at 72 4 = some (1, .aload_n 1, 0, 0, 0) := rfl
theorem t72_5 : sm_at 72 5 = some (3, .invokevirtual 30, 57, 2, 0) := rfl
theorem t72_8 : sm_at 72 8 = some (1, .iconst 0, 0, 0, 0) := rfl
theorem t72_9 : sm_at 72 9 = some (2, .istore 4, 0, 0, 0) := rfl
theorem t72_11 : sm_at 72 11 = some (2, .iload 4, 0, 0, 0) := rfl
theorem t72_13 : sm_at 72 13 = some (1, .aload_n 1, 0, 0, 0) := rfl
theorem t72_14 : sm_at 72 14 = some (3, .getfield 110, 1, 14, 0) := rfl
theorem t72_17 : sm_at 72 17 = some (3, .getfield 113, 5, 2, 0) := rfl
theorem t72_20 : sm_at 72 20 = some (3, .if_icmp .ge 62, 0, 0, 0) := rfl
theorem t72_23 : sm_at 72 23 = some (1, .aload_n 1, 0, 0, 0) := rfl
theorem t72_24 : sm_at 72 24 = some (3, .getfield 110, 1, 14, 0) := rfl
theorem t72_27 : sm_at 72 27 = some (2, .iload 4, 0, 0, 0) := rfl
theorem t72_29 : sm_at 72 29 = some (1, .iconst 0, 0, 0, 0) := rfl
theorem t72_30 : sm_at 72 30 = some (3, .invokevirtual 44, 54, 3, 0) := rfl
theorem t72_33 : sm_at 72 33 = some (2, .istore 5, 0, 0, 0) := rfl
theorem t72_35 : sm_at 72 35 = some (1, .iload_n 3, 0, 0, 0) := rfl
theorem t72_36 : sm_at 72 36 = some (2, .iload 4, 0, 0, 0) := rfl
theorem t72_38 : sm_at 72 38 = some (1, .ishr, 0, 0, 0) := rfl
theorem t72_39 : sm_at 72 39 = some (1, .iconst 1, 0, 0, 0) := rfl
theorem t72_40 : sm_at 72 40 = some (1, .iand, 0, 0, 0) := rfl
theorem t72_41 : sm_at 72 41 = some (3, .ifCond .eq 35, 0, 0, 0) := rfl
theorem t72_44 : sm_at 72 44 = some (1, .aload_n 1, 0, 0, 0) := rfl
theorem t72_45 : sm_at 72 45 = some (2, .iload 5, 0, 0, 0) := rfl
theorem t72_47 : sm_at 72 47 = some (3, .invokevirtual 65, 8, 2, 0) := rfl
theorem t72_50 : sm_at 72 50 = some (3, .ifCond .eq 26, 0, 0, 0) := rfl
theorem t72_53 : sm_at 72 53 = some (1, .aload_n 2, 0, 0, 0) := rfl
theorem t72_54 : sm_at 72 54 = some (3, .getfield 24, 7, 0, 0) := rfl
theorem t72_57 : sm_at 72 57 = some (3, .getfield 123, 6, 0, 0) := rfl
theorem t72_60 : sm_at 72 60 = some (2, .iload 5, 0, 0, 0) := rfl
theorem t72_62 : sm_at 72 62 = some (1, .dup2, 0, 0, 0) := rfl
theorem t72_63 : sm_at 72 63 = some (1, .iaload, 0, 0, 0) := rfl
theorem t72_64 : sm_at 72 64 = some (1, .aload_n 1, 0, 0, 0) := rfl
theorem t72_65 : sm_at 72 65 = some (3, .getfield 110, 1, 14, 0) := rfl
theorem t72_68 : sm_at 72 68 = some (2, .iload 4, 0, 0, 0) := rfl
theorem t72_70 : sm_at 72 70 = some (1, .iconst 1, 0, 0, 0) := rfl
theorem t72_71 : sm_at 72 71 = some (3, .invokevirtual 44, 54, 3, 0) := rfl
theorem t72_74 : sm_at 72 74 = some (1, .iadd, 0, 0, 0) := rfl
theorem t72_75 : sm_at 72 75 = some (1, .iastore, 0, 0, 0) := rfl
theorem t72_76 : sm_at 72 76 = some (3, .iinc 4 1, 0, 0, 0) := rfl
theorem t72_79 : sm_at 72 79 = some (3, .goto (-68), 0, 0, 0) := rfl
theorem t72_82 : sm_at 72 82 = some (1, .aload_n 2, 0, 0, 0) := rfl
theorem t72_83 : sm_at 72 83 = some (1, .aload_n 1, 0, 0, 0) := rfl
theorem t72_84 : sm_at 72 84 = some (1, .aload_n 0, 0, 0, 0) := rfl
theorem t72_85 : sm_at 72 85 = some (3, .getfield 14, 8, 0, 0) := rfl
theorem t72_88 : sm_at 72 88 = some (3, .invokevirtual 36, 60, 3, 0) := rfl
theorem t72_91 : sm_at 72 91 = some (1, .aload_n 2, 0, 0, 0) := rfl
theorem t72_92 : sm_at 72 92 = some (3, .getfield 85, 7, 1, 0) := rfl
theorem t72_95 : sm_at 72 95 = some (1, .aload_n 1, 0, 0, 0) := rfl
theorem t72_96 : sm_at 72 96 = some (1, .aload_n 0, 0, 0, 0) := rfl
theorem t72_97 : sm_at 72 97 = some (3, .getfield 14, 8, 0, 0) := rfl
theorem t72_100 : sm_at 72 100 = some (3, .invokevirtual 89, 1, 3, 0) := rfl
theorem t72_103 : sm_at 72 103 = some (1, .return_, 0, 0, 0) := rfl
set_option maxRecDepth 10000 in
theorem b72_0 {d : Nat} {l0 : Option sm_V} {q1 : Option Nat} {r2 : Nat} {l3 : Option sm_V} {l4 : Option sm_V} {l5 : Option sm_V} {Z : Nat → Nat → Int} {Rf : Nat → Nat → Option Nat} {K : Nat → Nat × Nat} {n z : Nat} {Q : Option sm_V → sm_S → Prop} : sm_wp (d + 1) 72 0 [l0, some (.inr q1), some (.inr (some r2)), l3, l4, l5] [] (Z, Rf, K, n, z) Q = ((K r2).1 = 7 ∧ (Rf r2 0).isSome = true ∧ (K (((Rf r2 0).getD 0))).1 = 6 ∧ sm_call d 57 [.inr (some ((Rf r2 0).getD 0)), .inr q1] (Z, Rf, K, n, z) (sm_cont (d + 1) 72 8 [l0, some (.inr q1), some (.inr (some r2)), l3, l4, l5] [] Q)) := (w_aload_n t72_0 rfl rfl).trans ((w_getR t72_1 rfl (by decide)).trans (congrArg (And _) (congrArg (And _) ((w_aload_n t72_4 rfl rfl).trans (w_callV t72_5 rfl rfl rfl rfl (Nat.le_of_ble_eq_true rfl) (Nat.le_of_ble_eq_true rfl) rfl (by decide))))))
set_option maxRecDepth 10000 in
theorem b72_8 {d : Nat} {l0 : Option sm_V} {l1 : Option sm_V} {l2 : Option sm_V} {l3 : Option sm_V} {l4 : Option sm_V} {l5 : Option sm_V} {Z : Nat → Nat → Int} {Rf : Nat → Nat → Option Nat} {K : Nat → Nat × Nat} {n z : Nat} {Q : Option sm_V → sm_S → Prop} : sm_wp d 72 8 [l0, l1, l2, l3, l4, l5] [] (Z, Rf, K, n, z) Q = (sm_wp d 72 11 [l0, l1, l2, l3, some (.inl 0), l5] [] (Z, Rf, K, n, z) Q) := (w_iconst t72_8 rfl).trans (w_istore t72_9 rfl (Nat.le_of_ble_eq_true rfl) rfl)
set_option maxRecDepth 10000 in
theorem b72_11 {d : Nat} {l0 : Option sm_V} {r1 : Nat} {l2 : Option sm_V} {l3 : Option sm_V} {x4 : Int} {l5 : Option sm_V} {Z : Nat → Nat → Int} {Rf : Nat → Nat → Option Nat} {K : Nat → Nat × Nat} {n z : Nat} {Q : Option sm_V → sm_S → Prop} : sm_wp d 72 11 [l0, some (.inr (some r1)), l2, l3, some (.inl x4), l5] [] (Z, Rf, K, n, z) Q = ((K r1).1 = 1 ∧ (Rf r1 14).isSome = true ∧ (K (((Rf r1 14).getD 0))).1 = 5 ∧ (if wr (Z (((Rf r1 14).getD 0)) 2) ≤ wr x4 then sm_wp d 72 82 [l0, some (.inr (some r1)), l2, l3, some (.inl x4), l5] [] (Z, Rf, K, n, z) Q else sm_wp d 72 23 [l0, some (.inr (some r1)), l2, l3, some (.inl x4), l5] [] (Z, Rf, K, n, z) Q)) := (w_iload t72_11 rfl rfl).trans ((w_aload_n t72_13 rfl rfl).trans ((w_getR t72_14 rfl (by decide)).trans (congrArg (And _) (congrArg (And _) ((w_getI t72_17 rfl (by decide)).trans (congrArg (And _) (w_icge t72_20 rfl rfl rfl rfl)))))))
set_option maxRecDepth 10000 in
theorem b72_23 {d : Nat} {l0 : Option sm_V} {r1 : Nat} {l2 : Option sm_V} {l3 : Option sm_V} {x4 : Int} {l5 : Option sm_V} {Z : Nat → Nat → Int} {Rf : Nat → Nat → Option Nat} {K : Nat → Nat × Nat} {n z : Nat} {Q : Option sm_V → sm_S → Prop} : sm_wp (d + 1) 72 23 [l0, some (.inr (some r1)), l2, l3, some (.inl x4), l5] [] (Z, Rf, K, n, z) Q = ((K r1).1 = 1 ∧ (Rf r1 14).isSome = true ∧ (K (((Rf r1 14).getD 0))).1 = 5 ∧ sm_call d 54 [.inr (some ((Rf r1 14).getD 0)), .inl x4, .inl 0] (Z, Rf, K, n, z) (sm_cont (d + 1) 72 33 [l0, some (.inr (some r1)), l2, l3, some (.inl x4), l5] [] Q)) := (w_aload_n t72_23 rfl rfl).trans ((w_getR t72_24 rfl (by decide)).trans (congrArg (And _) (congrArg (And _) ((w_iload t72_27 rfl rfl).trans ((w_iconst t72_29 rfl).trans (w_callV t72_30 rfl rfl rfl rfl (Nat.le_of_ble_eq_true rfl) (Nat.le_of_ble_eq_true rfl) rfl (by decide)))))))
set_option maxRecDepth 10000 in
theorem b72_33 {d : Nat} {l0 : Option sm_V} {l1 : Option sm_V} {l2 : Option sm_V} {x3 : Int} {x4 : Int} {l5 : Option sm_V} {s0 : Int} {Z : Nat → Nat → Int} {Rf : Nat → Nat → Option Nat} {K : Nat → Nat × Nat} {n z : Nat} {Q : Option sm_V → sm_S → Prop} : sm_wp d 72 33 [l0, l1, l2, some (.inl x3), some (.inl x4), l5] [.inl s0] (Z, Rf, K, n, z) Q = (if wr (sm_and (sm_shr x3 x4) 1) = 0 then sm_wp d 72 76 [l0, l1, l2, some (.inl x3), some (.inl x4), some (.inl s0)] [] (Z, Rf, K, n, z) Q else sm_wp d 72 44 [l0, l1, l2, some (.inl x3), some (.inl x4), some (.inl s0)] [] (Z, Rf, K, n, z) Q) := (w_istore t72_33 rfl (Nat.le_of_ble_eq_true rfl) rfl).trans ((w_iload_n t72_35 rfl rfl).trans ((w_iload t72_36 rfl rfl).trans ((w_ishr t72_38 rfl).trans ((w_iconst t72_39 rfl).trans ((w_iand t72_40 rfl).trans (w_ifeq t72_41 rfl rfl rfl))))))
set_option maxRecDepth 10000 in
theorem b72_44 {d : Nat} {l0 : Option sm_V} {r1 : Nat} {l2 : Option sm_V} {l3 : Option sm_V} {l4 : Option sm_V} {x5 : Int} {Z : Nat → Nat → Int} {Rf : Nat → Nat → Option Nat} {K : Nat → Nat × Nat} {n z : Nat} {Q : Option sm_V → sm_S → Prop} : sm_wp (d + 1) 72 44 [l0, some (.inr (some r1)), l2, l3, l4, some (.inl x5)] [] (Z, Rf, K, n, z) Q = ((K r1).1 = 1 ∧ sm_call d 8 [.inr (some r1), .inl x5] (Z, Rf, K, n, z) (sm_cont (d + 1) 72 50 [l0, some (.inr (some r1)), l2, l3, l4, some (.inl x5)] [] Q)) := (w_aload_n t72_44 rfl rfl).trans ((w_iload t72_45 rfl rfl).trans (w_callV t72_47 rfl rfl rfl rfl (Nat.le_of_ble_eq_true rfl) (Nat.le_of_ble_eq_true rfl) rfl (by decide)))
set_option maxRecDepth 10000 in
theorem b72_50 {d : Nat} {l0 : Option sm_V} {l1 : Option sm_V} {l2 : Option sm_V} {l3 : Option sm_V} {l4 : Option sm_V} {l5 : Option sm_V} {s0 : Int} {Z : Nat → Nat → Int} {Rf : Nat → Nat → Option Nat} {K : Nat → Nat × Nat} {n z : Nat} {Q : Option sm_V → sm_S → Prop} : sm_wp d 72 50 [l0, l1, l2, l3, l4, l5] [.inl s0] (Z, Rf, K, n, z) Q = (if wr s0 = 0 then sm_wp d 72 76 [l0, l1, l2, l3, l4, l5] [] (Z, Rf, K, n, z) Q else sm_wp d 72 53 [l0, l1, l2, l3, l4, l5] [] (Z, Rf, K, n, z) Q) := w_ifeq t72_50 rfl rfl rfl
set_option maxRecDepth 10000 in
theorem b72_53 {d : Nat} {l0 : Option sm_V} {r1 : Nat} {r2 : Nat} {l3 : Option sm_V} {x4 : Int} {x5 : Int} {Z : Nat → Nat → Int} {Rf : Nat → Nat → Option Nat} {K : Nat → Nat × Nat} {n z : Nat} {Q : Option sm_V → sm_S → Prop} : sm_wp (d + 1) 72 53 [l0, some (.inr (some r1)), some (.inr (some r2)), l3, some (.inl x4), some (.inl x5)] [] (Z, Rf, K, n, z) Q = ((K r2).1 = 7 ∧ (Rf r2 0).isSome = true ∧ (K (((Rf r2 0).getD 0))).1 = 6 ∧ (Rf (((Rf r2 0).getD 0)) 0).isSome = true ∧ sm_rd (K (((Rf (((Rf r2 0).getD 0)) 0).getD 0))) (wr x5) ∧ (K r1).1 = 1 ∧ (Rf r1 14).isSome = true ∧ (K (((Rf r1 14).getD 0))).1 = 5 ∧ sm_call d 54 [.inr (some ((Rf r1 14).getD 0)), .inl x4, .inl 1] (Z, Rf, K, n, z) (sm_cont (d + 1) 72 74 [l0, some (.inr (some r1)), some (.inr (some r2)), l3, some (.inl x4), some (.inl x5)] [.inl (Z (((Rf (((Rf r2 0).getD 0)) 0).getD 0)) ((wr x5).toNat)), .inl x5, .inr (some ((Rf (((Rf r2 0).getD 0)) 0).getD 0))] Q)) := (w_aload_n t72_53 rfl rfl).trans ((w_getR t72_54 rfl (by decide)).trans (congrArg (And _) (congrArg (And _) ((w_getR t72_57 rfl (by decide)).trans (congrArg (And _) (congrArg (And _) ((w_iload t72_60 rfl rfl).trans ((w_dup2 t72_62 rfl).trans ((w_iald t72_63 rfl rfl).trans (congrArg (And _) ((w_aload_n t72_64 rfl rfl).trans ((w_getR t72_65 rfl (by decide)).trans (congrArg (And _) (congrArg (And _) ((w_iload t72_68 rfl rfl).trans ((w_iconst t72_70 rfl).trans (w_callV t72_71 rfl rfl rfl rfl (Nat.le_of_ble_eq_true rfl) (Nat.le_of_ble_eq_true rfl) rfl (by decide))))))))))))))))))
set_option maxRecDepth 10000 in
theorem b72_74 {d : Nat} {l0 : Option sm_V} {l1 : Option sm_V} {l2 : Option sm_V} {l3 : Option sm_V} {l4 : Option sm_V} {l5 : Option sm_V} {rs0 : Nat} {s1 : Int} {s2 : Int} {s3 : Int} {Z : Nat → Nat → Int} {Rf : Nat → Nat → Option Nat} {K : Nat → Nat × Nat} {n z : Nat} {Q : Option sm_V → sm_S → Prop} : sm_wp d 72 74 [l0, l1, l2, l3, l4, l5] [.inl s3, .inl s2, .inl s1, .inr (some rs0)] (Z, Rf, K, n, z) Q = (sm_wt (K rs0) (wr s1) ∧ sm_wp d 72 76 [l0, l1, l2, l3, l4, l5] [] (sm_u Z rs0 ((wr s1).toNat) (s2 + s3), Rf, K, n, z) Q) := (w_iadd t72_74 rfl).trans ((w_iast t72_75 rfl rfl).trans (congrArg (And _) rfl))
set_option maxRecDepth 10000 in
theorem b72_76 {d : Nat} {l0 : Option sm_V} {l1 : Option sm_V} {l2 : Option sm_V} {l3 : Option sm_V} {x4 : Int} {l5 : Option sm_V} {Z : Nat → Nat → Int} {Rf : Nat → Nat → Option Nat} {K : Nat → Nat × Nat} {n z : Nat} {Q : Option sm_V → sm_S → Prop} : sm_wp d 72 76 [l0, l1, l2, l3, some (.inl x4), l5] [] (Z, Rf, K, n, z) Q = (sm_wp d 72 11 [l0, l1, l2, l3, some (.inl (x4 + 1)), l5] [] (Z, Rf, K, n, z) Q) := (w_iinc t72_76 rfl rfl (Nat.le_of_ble_eq_true rfl) rfl).trans (w_goto t72_79 rfl)
set_option maxRecDepth 10000 in
theorem b72_82 {d : Nat} {r0 : Nat} {q1 : Option Nat} {r2 : Nat} {l3 : Option sm_V} {l4 : Option sm_V} {l5 : Option sm_V} {Z : Nat → Nat → Int} {Rf : Nat → Nat → Option Nat} {K : Nat → Nat × Nat} {n z : Nat} {Q : Option sm_V → sm_S → Prop} : sm_wp (d + 1) 72 82 [some (.inr (some r0)), some (.inr q1), some (.inr (some r2)), l3, l4, l5] [] (Z, Rf, K, n, z) Q = ((K r0).1 = 8 ∧ (Rf r0 0).isSome = true ∧ (K r2).1 = 7 ∧ sm_call d 60 [.inr (some r2), .inr q1, .inr (some ((Rf r0 0).getD 0))] (Z, Rf, K, n, z) (sm_cont (d + 1) 72 91 [some (.inr (some r0)), some (.inr q1), some (.inr (some r2)), l3, l4, l5] [] Q)) := (w_aload_n t72_82 rfl rfl).trans ((w_aload_n t72_83 rfl rfl).trans ((w_aload_n t72_84 rfl rfl).trans ((w_getR t72_85 rfl (by decide)).trans (congrArg (And _) (congrArg (And _) (w_callV t72_88 rfl rfl rfl rfl (Nat.le_of_ble_eq_true rfl) (Nat.le_of_ble_eq_true rfl) rfl (by decide)))))))
set_option maxRecDepth 10000 in
theorem b72_91 {d : Nat} {r0 : Nat} {q1 : Option Nat} {r2 : Nat} {l3 : Option sm_V} {l4 : Option sm_V} {l5 : Option sm_V} {Z : Nat → Nat → Int} {Rf : Nat → Nat → Option Nat} {K : Nat → Nat × Nat} {n z : Nat} {Q : Option sm_V → sm_S → Prop} : sm_wp (d + 1) 72 91 [some (.inr (some r0)), some (.inr q1), some (.inr (some r2)), l3, l4, l5] [] (Z, Rf, K, n, z) Q = ((K r2).1 = 7 ∧ (Rf r2 1).isSome = true ∧ (K r0).1 = 8 ∧ (Rf r0 0).isSome = true ∧ (K (((Rf r2 1).getD 0))).1 = 0 ∧ sm_call d 1 [.inr (some ((Rf r2 1).getD 0)), .inr q1, .inr (some ((Rf r0 0).getD 0))] (Z, Rf, K, n, z) (sm_cont (d + 1) 72 103 [some (.inr (some r0)), some (.inr q1), some (.inr (some r2)), l3, l4, l5] [] Q)) := (w_aload_n t72_91 rfl rfl).trans ((w_getR t72_92 rfl (by decide)).trans (congrArg (And _) (congrArg (And _) ((w_aload_n t72_95 rfl rfl).trans ((w_aload_n t72_96 rfl rfl).trans ((w_getR t72_97 rfl (by decide)).trans (congrArg (And _) (congrArg (And _) (w_callV t72_100 rfl rfl rfl rfl (Nat.le_of_ble_eq_true rfl) (Nat.le_of_ble_eq_true rfl) rfl (by decide))))))))))
set_option maxRecDepth 10000 in
theorem b72_103 {d : Nat} {l0 : Option sm_V} {l1 : Option sm_V} {l2 : Option sm_V} {l3 : Option sm_V} {l4 : Option sm_V} {l5 : Option sm_V} {Z : Nat → Nat → Int} {Rf : Nat → Nat → Option Nat} {K : Nat → Nat × Nat} {n z : Nat} {Q : Option sm_V → sm_S → Prop} : sm_wp d 72 103 [l0, l1, l2, l3, l4, l5] [] (Z, Rf, K, n, z) Q = (Q none (Z, Rf, K, n, z)) := w_vret t72_103
theorem t73_0 : sm_at 73 0 = some (1, .aload_n 0, 0, 0, 0) := rfl
theorem t73_1 : sm_at 73 1 = some (1, .iconst 0, 0, 0, 0) := rfl
theorem t73_2 : sm_at 73 2 = some (3, .putfield 126, 8, 8, 0) := rfl
theorem t73_5 : sm_at 73 5 = some (1, .aload_n 0, 0, 0, 0) := rfl
theorem t73_6 : sm_at 73 6 = some (1, .iconst (-1), 0, 0, 0) := rfl
theorem t73_7 : sm_at 73 7 = some (3, .putfield 129, 8, 9, 0) := rfl
theorem t73_10 : sm_at 73 10 = some (1, .aload_n 0, 0, 0, 0) := rfl
theorem t73_11 : sm_at 73 11 = some (1, .iconst (-1), 0, 0, 0) := rfl
theorem t73_12 : sm_at 73 12 = some (3, .putfield 132, 8, 10, 0) := rfl
theorem t73_15 : sm_at 73 15 = some (1, .iconst 0, 0, 0, 0) := rfl
theorem t73_16 : sm_at 73 16 = some (1, .istore_n 3, 0, 0, 0) := rfl
theorem t73_17 : sm_at 73 17 = some (1, .iload_n 3, 0, 0, 0) := rfl
theorem t73_18 : sm_at 73 18 = some (1, .iconst 1, 0, 0, 0) := rfl
theorem t73_19 : sm_at 73 19 = some (1, .aload_n 1, 0, 0, 0) := rfl
theorem t73_20 : sm_at 73 20 = some (3, .getfield 110, 1, 14, 0) := rfl
theorem t73_23 : sm_at 73 23 = some (3, .getfield 113, 5, 2, 0) := rfl
theorem t73_26 : sm_at 73 26 = some (1, .ishl, 0, 0, 0) := rfl
theorem t73_27 : sm_at 73 27 = some (3, .if_icmp .ge 66, 0, 0, 0) := rfl
theorem t73_30 : sm_at 73 30 = some (1, .aload_n 0, 0, 0, 0) := rfl
theorem t73_31 : sm_at 73 31 = some (1, .aload_n 1, 0, 0, 0) := rfl
theorem t73_32 : sm_at 73 32 = some (1, .aload_n 2, 0, 0, 0) := rfl
theorem t73_33 : sm_at 73 33 = some (1, .iload_n 3, 0, 0, 0) := rfl
theorem t73_34 : sm_at 73 34 = some (3, .invokevirtual 116, 72, 4, 0) := rfl
theorem t73_37 : sm_at 73 37 = some (1, .aload_n 1, 0, 0, 0) := rfl
theorem t73_38 : sm_at 73 38 = some (1, .aload_n 2, 0, 0, 0) := rfl
theorem t73_39 : sm_at 73 39 = some (3, .getfield 85, 7, 1, 0) := rfl
theorem t73_42 : sm_at 73 42 = some (3, .invokestatic 135, 74, 2, 0) := rfl
theorem t73_45 : sm_at 73 45 = some (3, .ifCond .eq 42, 0, 0, 0) := rfl
theorem t73_48 : sm_at 73 48 = some (1, .aload_n 0, 0, 0, 0) := rfl
theorem t73_49 : sm_at 73 49 = some (1, .aload_n 0, 0, 0, 0) := rfl
theorem t73_50 : sm_at 73 50 = some (3, .getfield 126, 8, 8, 0) := rfl
theorem t73_53 : sm_at 73 53 = some (3, .ifCond .ne 7, 0, 0, 0) := rfl
theorem t73_56 : sm_at 73 56 = some (1, .iload_n 3, 0, 0, 0) := rfl
theorem t73_57 : sm_at 73 57 = some (3, .goto 7, 0, 0, 0) := rfl
theorem t73_60 : sm_at 73 60 = some (1, .aload_n 0, 0, 0, 0) := rfl
theorem t73_61 : sm_at 73 61 = some (3, .getfield 132, 8, 10, 0) := rfl
theorem t73_64 : sm_at 73 64 = some (3, .putfield 132, 8, 10, 0) := rfl
theorem t73_67 : sm_at 73 67 = some (1, .aload_n 0, 0, 0, 0) := rfl
theorem t73_68 : sm_at 73 68 = some (1, .dup, 0, 0, 0) := rfl
theorem t73_69 : sm_at 73 69 = some (3, .getfield 129, 8, 9, 0) := rfl
theorem t73_72 : sm_at 73 72 = some (1, .iload_n 3, 0, 0, 0) := rfl
theorem t73_73 : sm_at 73 73 = some (1, .iand, 0, 0, 0) := rfl
theorem t73_74 : sm_at 73 74 = some (3, .putfield 129, 8, 9, 0) := rfl
theorem t73_77 : sm_at 73 77 = some (1, .aload_n 0, 0, 0, 0) := rfl
theorem t73_78 : sm_at 73 78 = some (1, .dup, 0, 0, 0) := rfl
theorem t73_79 : sm_at 73 79 = some (3, .getfield 126, 8, 8, 0) := rfl
theorem t73_82 : sm_at 73 82 = some (1, .iconst 1, 0, 0, 0) := rfl
theorem t73_83 : sm_at 73 83 = some (1, .iadd, 0, 0, 0) := rfl
theorem t73_84 : sm_at 73 84 = some (3, .putfield 126, 8, 8, 0) := rfl
theorem t73_87 : sm_at 73 87 = some (3, .iinc 3 1, 0, 0, 0) := rfl
theorem t73_90 : sm_at 73 90 = some (3, .goto (-73), 0, 0, 0) := rfl
theorem t73_93 : sm_at 73 93 = some (1, .return_, 0, 0, 0) := rfl
set_option maxRecDepth 10000 in
theorem b73_0 {d : Nat} {r0 : Nat} {l1 : Option sm_V} {l2 : Option sm_V} {l3 : Option sm_V} {Z : Nat → Nat → Int} {Rf : Nat → Nat → Option Nat} {K : Nat → Nat × Nat} {n z : Nat} {Q : Option sm_V → sm_S → Prop} : sm_wp d 73 0 [some (.inr (some r0)), l1, l2, l3] [] (Z, Rf, K, n, z) Q = ((K r0).1 = 8 ∧ (K r0).1 = 8 ∧ (K r0).1 = 8 ∧ sm_wp d 73 17 [some (.inr (some r0)), l1, l2, some (.inl 0)] [] (sm_u (sm_u (sm_u Z r0 8 0) r0 9 ((-1))) r0 10 ((-1)), Rf, K, n, z) Q) := (w_aload_n t73_0 rfl rfl).trans ((w_iconst t73_1 rfl).trans ((w_putI t73_2 rfl (by decide)).trans (congrArg (And _) ((w_aload_n t73_5 rfl rfl).trans ((w_iconst t73_6 rfl).trans ((w_putI t73_7 rfl (by decide)).trans (congrArg (And _) ((w_aload_n t73_10 rfl rfl).trans ((w_iconst t73_11 rfl).trans ((w_putI t73_12 rfl (by decide)).trans (congrArg (And _) ((w_iconst t73_15 rfl).trans (w_istore_n t73_16 rfl (Nat.le_of_ble_eq_true rfl) rfl)))))))))))))
set_option maxRecDepth 10000 in
theorem b73_17 {d : Nat} {l0 : Option sm_V} {r1 : Nat} {l2 : Option sm_V} {x3 : Int} {Z : Nat → Nat → Int} {Rf : Nat → Nat → Option Nat} {K : Nat → Nat × Nat} {n z : Nat} {Q : Option sm_V → sm_S → Prop} : sm_wp d 73 17 [l0, some (.inr (some r1)), l2, some (.inl x3)] [] (Z, Rf, K, n, z) Q = ((K r1).1 = 1 ∧ (Rf r1 14).isSome = true ∧ (K (((Rf r1 14).getD 0))).1 = 5 ∧ (if wr (sm_shl 1 (Z (((Rf r1 14).getD 0)) 2)) ≤ wr x3 then sm_wp d 73 93 [l0, some (.inr (some r1)), l2, some (.inl x3)] [] (Z, Rf, K, n, z) Q else sm_wp d 73 30 [l0, some (.inr (some r1)), l2, some (.inl x3)] [] (Z, Rf, K, n, z) Q)) := (w_iload_n t73_17 rfl rfl).trans ((w_iconst t73_18 rfl).trans ((w_aload_n t73_19 rfl rfl).trans ((w_getR t73_20 rfl (by decide)).trans (congrArg (And _) (congrArg (And _) ((w_getI t73_23 rfl (by decide)).trans (congrArg (And _) ((w_ishl t73_26 rfl).trans (w_icge t73_27 rfl rfl rfl rfl)))))))))
set_option maxRecDepth 10000 in
theorem b73_30 {d : Nat} {r0 : Nat} {q1 : Option Nat} {q2 : Option Nat} {x3 : Int} {Z : Nat → Nat → Int} {Rf : Nat → Nat → Option Nat} {K : Nat → Nat × Nat} {n z : Nat} {Q : Option sm_V → sm_S → Prop} : sm_wp (d + 1) 73 30 [some (.inr (some r0)), some (.inr q1), some (.inr q2), some (.inl x3)] [] (Z, Rf, K, n, z) Q = ((K r0).1 = 8 ∧ sm_call d 72 [.inr (some r0), .inr q1, .inr q2, .inl x3] (Z, Rf, K, n, z) (sm_cont (d + 1) 73 37 [some (.inr (some r0)), some (.inr q1), some (.inr q2), some (.inl x3)] [] Q)) := (w_aload_n t73_30 rfl rfl).trans ((w_aload_n t73_31 rfl rfl).trans ((w_aload_n t73_32 rfl rfl).trans ((w_iload_n t73_33 rfl rfl).trans (w_callV t73_34 rfl rfl rfl rfl (Nat.le_of_ble_eq_true rfl) (Nat.le_of_ble_eq_true rfl) rfl (by decide)))))
set_option maxRecDepth 10000 in
theorem b73_37 {d : Nat} {l0 : Option sm_V} {q1 : Option Nat} {r2 : Nat} {l3 : Option sm_V} {Z : Nat → Nat → Int} {Rf : Nat → Nat → Option Nat} {K : Nat → Nat × Nat} {n z : Nat} {Q : Option sm_V → sm_S → Prop} : sm_wp (d + 1) 73 37 [l0, some (.inr q1), some (.inr (some r2)), l3] [] (Z, Rf, K, n, z) Q = ((K r2).1 = 7 ∧ (Rf r2 1).isSome = true ∧ sm_call d 74 [.inr q1, .inr (some ((Rf r2 1).getD 0))] (Z, Rf, K, n, z) (sm_cont (d + 1) 73 45 [l0, some (.inr q1), some (.inr (some r2)), l3] [] Q)) := (w_aload_n t73_37 rfl rfl).trans ((w_aload_n t73_38 rfl rfl).trans ((w_getR t73_39 rfl (by decide)).trans (congrArg (And _) (congrArg (And _) (w_callS t73_42 rfl rfl rfl rfl (Nat.le_of_ble_eq_true rfl) (Nat.le_of_ble_eq_true rfl) rfl)))))
set_option maxRecDepth 10000 in
theorem b73_45 {d : Nat} {l0 : Option sm_V} {l1 : Option sm_V} {l2 : Option sm_V} {l3 : Option sm_V} {s0 : Int} {Z : Nat → Nat → Int} {Rf : Nat → Nat → Option Nat} {K : Nat → Nat × Nat} {n z : Nat} {Q : Option sm_V → sm_S → Prop} : sm_wp d 73 45 [l0, l1, l2, l3] [.inl s0] (Z, Rf, K, n, z) Q = (if wr s0 = 0 then sm_wp d 73 87 [l0, l1, l2, l3] [] (Z, Rf, K, n, z) Q else sm_wp d 73 48 [l0, l1, l2, l3] [] (Z, Rf, K, n, z) Q) := w_ifeq t73_45 rfl rfl rfl
set_option maxRecDepth 10000 in
theorem b73_48 {d : Nat} {r0 : Nat} {l1 : Option sm_V} {l2 : Option sm_V} {l3 : Option sm_V} {Z : Nat → Nat → Int} {Rf : Nat → Nat → Option Nat} {K : Nat → Nat × Nat} {n z : Nat} {Q : Option sm_V → sm_S → Prop} : sm_wp d 73 48 [some (.inr (some r0)), l1, l2, l3] [] (Z, Rf, K, n, z) Q = ((K r0).1 = 8 ∧ (if wr (Z r0 8) = 0 then sm_wp d 73 56 [some (.inr (some r0)), l1, l2, l3] [.inr (some r0)] (Z, Rf, K, n, z) Q else sm_wp d 73 60 [some (.inr (some r0)), l1, l2, l3] [.inr (some r0)] (Z, Rf, K, n, z) Q)) := (w_aload_n t73_48 rfl rfl).trans ((w_aload_n t73_49 rfl rfl).trans ((w_getI t73_50 rfl (by decide)).trans (congrArg (And _) (w_ifne t73_53 rfl rfl rfl))))
set_option maxRecDepth 10000 in
theorem b73_56 {d : Nat} {l0 : Option sm_V} {l1 : Option sm_V} {l2 : Option sm_V} {x3 : Int} {qs0 : Option Nat} {Z : Nat → Nat → Int} {Rf : Nat → Nat → Option Nat} {K : Nat → Nat × Nat} {n z : Nat} {Q : Option sm_V → sm_S → Prop} : sm_wp d 73 56 [l0, l1, l2, some (.inl x3)] [.inr qs0] (Z, Rf, K, n, z) Q = (sm_wp d 73 64 [l0, l1, l2, some (.inl x3)] [.inl x3, .inr qs0] (Z, Rf, K, n, z) Q) := (w_iload_n t73_56 rfl rfl).trans (w_goto t73_57 rfl)
set_option maxRecDepth 10000 in
theorem b73_60 {d : Nat} {r0 : Nat} {l1 : Option sm_V} {l2 : Option sm_V} {l3 : Option sm_V} {qs0 : Option Nat} {Z : Nat → Nat → Int} {Rf : Nat → Nat → Option Nat} {K : Nat → Nat × Nat} {n z : Nat} {Q : Option sm_V → sm_S → Prop} : sm_wp d 73 60 [some (.inr (some r0)), l1, l2, l3] [.inr qs0] (Z, Rf, K, n, z) Q = ((K r0).1 = 8 ∧ sm_wp d 73 64 [some (.inr (some r0)), l1, l2, l3] [.inl (Z r0 10), .inr qs0] (Z, Rf, K, n, z) Q) := (w_aload_n t73_60 rfl rfl).trans ((w_getI t73_61 rfl (by decide)).trans (congrArg (And _) rfl))
set_option maxRecDepth 10000 in
theorem b73_64 {d : Nat} {r0 : Nat} {l1 : Option sm_V} {l2 : Option sm_V} {x3 : Int} {rs0 : Nat} {s1 : Int} {Z : Nat → Nat → Int} {Rf : Nat → Nat → Option Nat} {K : Nat → Nat × Nat} {n z : Nat} {Q : Option sm_V → sm_S → Prop} : sm_wp d 73 64 [some (.inr (some r0)), l1, l2, some (.inl x3)] [.inl s1, .inr (some rs0)] (Z, Rf, K, n, z) Q = ((K rs0).1 = 8 ∧ (K r0).1 = 8 ∧ (K r0).1 = 8 ∧ (K r0).1 = 8 ∧ (K r0).1 = 8 ∧ sm_wp d 73 87 [some (.inr (some r0)), l1, l2, some (.inl x3)] [] (sm_u (sm_u (sm_u Z rs0 10 s1) r0 9 (sm_and ((sm_u Z rs0 10 s1) r0 9) x3)) r0 8 (((sm_u (sm_u Z rs0 10 s1) r0 9 (sm_and ((sm_u Z rs0 10 s1) r0 9) x3)) r0 8) + 1), Rf, K, n, z) Q) := (w_putI t73_64 rfl (by decide)).trans (congrArg (And _) ((w_aload_n t73_67 rfl rfl).trans ((w_dup t73_68 rfl).trans ((w_getI t73_69 rfl (by decide)).trans (congrArg (And _) ((w_iload_n t73_72 rfl rfl).trans ((w_iand t73_73 rfl).trans ((w_putI t73_74 rfl (by decide)).trans (congrArg (And _) ((w_aload_n t73_77 rfl rfl).trans ((w_dup t73_78 rfl).trans ((w_getI t73_79 rfl (by decide)).trans (congrArg (And _) ((w_iconst t73_82 rfl).trans ((w_iadd t73_83 rfl).trans ((w_putI t73_84 rfl (by decide)).trans (congrArg (And _) rfl)))))))))))))))))
set_option maxRecDepth 10000 in
theorem b73_87 {d : Nat} {l0 : Option sm_V} {l1 : Option sm_V} {l2 : Option sm_V} {x3 : Int} {Z : Nat → Nat → Int} {Rf : Nat → Nat → Option Nat} {K : Nat → Nat × Nat} {n z : Nat} {Q : Option sm_V → sm_S → Prop} : sm_wp d 73 87 [l0, l1, l2, some (.inl x3)] [] (Z, Rf, K, n, z) Q = (sm_wp d 73 17 [l0, l1, l2, some (.inl (x3 + 1))] [] (Z, Rf, K, n, z) Q) := (w_iinc t73_87 rfl rfl (Nat.le_of_ble_eq_true rfl) rfl).trans (w_goto t73_90 rfl)
set_option maxRecDepth 10000 in
theorem b73_93 {d : Nat} {l0 : Option sm_V} {l1 : Option sm_V} {l2 : Option sm_V} {l3 : Option sm_V} {Z : Nat → Nat → Int} {Rf : Nat → Nat → Option Nat} {K : Nat → Nat × Nat} {n z : Nat} {Q : Option sm_V → sm_S → Prop} : sm_wp d 73 93 [l0, l1, l2, l3] [] (Z, Rf, K, n, z) Q = (Q none (Z, Rf, K, n, z)) := w_vret t73_93
theorem t74_0 : sm_at 74 0 = some (1, .iconst 0, 0, 0, 0) := rfl
theorem t74_1 : sm_at 74 1 = some (1, .istore_n 2, 0, 0, 0) := rfl
theorem t74_2 : sm_at 74 2 = some (1, .iload_n 2, 0, 0, 0) := rfl
theorem t74_3 : sm_at 74 3 = some (1, .aload_n 0, 0, 0, 0) := rfl
theorem t74_4 : sm_at 74 4 = some (3, .getfield 139, 1, 15, 0) := rfl
theorem t74_7 : sm_at 74 7 = some (3, .getfield 113, 5, 2, 0) := rfl
theorem t74_10 : sm_at 74 10 = some (3, .if_icmp .ge 55, 0, 0, 0) := rfl
theorem t74_13 : sm_at 74 13 = some (1, .aload_n 0, 0, 0, 0) := rfl
theorem t74_14 : sm_at 74 14 = some (3, .getfield 139, 1, 15, 0) := rfl
theorem t74_17 : sm_at 74 17 = some (1, .iload_n 2, 0, 0, 0) := rfl
theorem t74_18 : sm_at 74 18 = some (1, .iconst 2, 0, 0, 0) := rfl
theorem t74_19 : sm_at 74 19 = some (3, .invokevirtual 44, 54, 3, 0) := rfl
theorem t74_22 : sm_at 74 22 = some (3, .ifCond .eq 7, 0, 0, 0) := rfl
theorem t74_25 : sm_at 74 25 = some (1, .iconst 1, 0, 0, 0) := rfl
theorem t74_26 : sm_at 74 26 = some (3, .goto 4, 0, 0, 0) := rfl
theorem t74_29 : sm_at 74 29 = some (1, .iconst 0, 0, 0, 0) := rfl
theorem t74_30 : sm_at 74 30 = some (1, .istore_n 3, 0, 0, 0) := rfl
theorem t74_31 : sm_at 74 31 = some (1, .aload_n 1, 0, 0, 0) := rfl
theorem t74_32 : sm_at 74 32 = some (1, .aload_n 0, 0, 0, 0) := rfl
theorem t74_33 : sm_at 74 33 = some (3, .getfield 139, 1, 15, 0) := rfl
theorem t74_36 : sm_at 74 36 = some (1, .iload_n 2, 0, 0, 0) := rfl
theorem t74_37 : sm_at 74 37 = some (1, .iconst 0, 0, 0, 0) := rfl
theorem t74_38 : sm_at 74 38 = some (3, .invokevirtual 44, 54, 3, 0) := rfl
theorem t74_41 : sm_at 74 41 = some (1, .aload_n 0, 0, 0, 0) := rfl
theorem t74_42 : sm_at 74 42 = some (3, .getfield 139, 1, 15, 0) := rfl
theorem t74_45 : sm_at 74 45 = some (1, .iload_n 2, 0, 0, 0) := rfl
theorem t74_46 : sm_at 74 46 = some (1, .iconst 1, 0, 0, 0) := rfl
theorem t74_47 : sm_at 74 47 = some (3, .invokevirtual 44, 54, 3, 0) := rfl
theorem t74_50 : sm_at 74 50 = some (3, .invokevirtual 94, 3, 3, 0) := rfl
theorem t74_53 : sm_at 74 53 = some (1, .iload_n 3, 0, 0, 0) := rfl
theorem t74_54 : sm_at 74 54 = some (3, .if_icmp .eq 5, 0, 0, 0) := rfl
theorem t74_57 : sm_at 74 57 = some (1, .iconst 0, 0, 0, 0) := rfl
theorem t74_58 : sm_at 74 58 = some (1, .ireturn, 1, 0, 0) := rfl
theorem t74_59 : sm_at 74 59 = some (3, .iinc 2 1, 0, 0, 0) := rfl
theorem t74_62 : sm_at 74 62 = some (3, .goto (-60), 0, 0, 0) := rfl
theorem t74_65 : sm_at 74 65 = some (1, .iconst 1, 0, 0, 0) := rfl
theorem t74_66 : sm_at 74 66 = some (1, .ireturn, 1, 0, 0) := rfl
set_option maxRecDepth 10000 in
theorem b74_0 {d : Nat} {l0 : Option sm_V} {l1 : Option sm_V} {l2 : Option sm_V} {l3 : Option sm_V} {Z : Nat → Nat → Int} {Rf : Nat → Nat → Option Nat} {K : Nat → Nat × Nat} {n z : Nat} {Q : Option sm_V → sm_S → Prop} : sm_wp d 74 0 [l0, l1, l2, l3] [] (Z, Rf, K, n, z) Q = (sm_wp d 74 2 [l0, l1, some (.inl 0), l3] [] (Z, Rf, K, n, z) Q) := (w_iconst t74_0 rfl).trans (w_istore_n t74_1 rfl (Nat.le_of_ble_eq_true rfl) rfl)
set_option maxRecDepth 10000 in
theorem b74_2 {d : Nat} {r0 : Nat} {l1 : Option sm_V} {x2 : Int} {l3 : Option sm_V} {Z : Nat → Nat → Int} {Rf : Nat → Nat → Option Nat} {K : Nat → Nat × Nat} {n z : Nat} {Q : Option sm_V → sm_S → Prop} : sm_wp d 74 2 [some (.inr (some r0)), l1, some (.inl x2), l3] [] (Z, Rf, K, n, z) Q = ((K r0).1 = 1 ∧ (Rf r0 15).isSome = true ∧ (K (((Rf r0 15).getD 0))).1 = 5 ∧ (if wr (Z (((Rf r0 15).getD 0)) 2) ≤ wr x2 then sm_wp d 74 65 [some (.inr (some r0)), l1, some (.inl x2), l3] [] (Z, Rf, K, n, z) Q else sm_wp d 74 13 [some (.inr (some r0)), l1, some (.inl x2), l3] [] (Z, Rf, K, n, z) Q)) := (w_iload_n t74_2 rfl rfl).trans ((w_aload_n t74_3 rfl rfl).trans ((w_getR t74_4 rfl (by decide)).trans (congrArg (And _) (congrArg (And _) ((w_getI t74_7 rfl (by decide)).trans (congrArg (And _) (w_icge t74_10 rfl rfl rfl rfl)))))))
set_option maxRecDepth 10000 in
theorem b74_13 {d : Nat} {r0 : Nat} {l1 : Option sm_V} {x2 : Int} {l3 : Option sm_V} {Z : Nat → Nat → Int} {Rf : Nat → Nat → Option Nat} {K : Nat → Nat × Nat} {n z : Nat} {Q : Option sm_V → sm_S → Prop} : sm_wp (d + 1) 74 13 [some (.inr (some r0)), l1, some (.inl x2), l3] [] (Z, Rf, K, n, z) Q = ((K r0).1 = 1 ∧ (Rf r0 15).isSome = true ∧ (K (((Rf r0 15).getD 0))).1 = 5 ∧ sm_call d 54 [.inr (some ((Rf r0 15).getD 0)), .inl x2, .inl 2] (Z, Rf, K, n, z) (sm_cont (d + 1) 74 22 [some (.inr (some r0)), l1, some (.inl x2), l3] [] Q)) := (w_aload_n t74_13 rfl rfl).trans ((w_getR t74_14 rfl (by decide)).trans (congrArg (And _) (congrArg (And _) ((w_iload_n t74_17 rfl rfl).trans ((w_iconst t74_18 rfl).trans (w_callV t74_19 rfl rfl rfl rfl (Nat.le_of_ble_eq_true rfl) (Nat.le_of_ble_eq_true rfl) rfl (by decide)))))))
set_option maxRecDepth 10000 in
theorem b74_22 {d : Nat} {l0 : Option sm_V} {l1 : Option sm_V} {l2 : Option sm_V} {l3 : Option sm_V} {s0 : Int} {Z : Nat → Nat → Int} {Rf : Nat → Nat → Option Nat} {K : Nat → Nat × Nat} {n z : Nat} {Q : Option sm_V → sm_S → Prop} : sm_wp d 74 22 [l0, l1, l2, l3] [.inl s0] (Z, Rf, K, n, z) Q = (if wr s0 = 0 then sm_wp d 74 29 [l0, l1, l2, l3] [] (Z, Rf, K, n, z) Q else sm_wp d 74 25 [l0, l1, l2, l3] [] (Z, Rf, K, n, z) Q) := w_ifeq t74_22 rfl rfl rfl
set_option maxRecDepth 10000 in
theorem b74_25 {d : Nat} {l0 : Option sm_V} {l1 : Option sm_V} {l2 : Option sm_V} {l3 : Option sm_V} {Z : Nat → Nat → Int} {Rf : Nat → Nat → Option Nat} {K : Nat → Nat × Nat} {n z : Nat} {Q : Option sm_V → sm_S → Prop} : sm_wp d 74 25 [l0, l1, l2, l3] [] (Z, Rf, K, n, z) Q = (sm_wp d 74 30 [l0, l1, l2, l3] [.inl 1] (Z, Rf, K, n, z) Q) := (w_iconst t74_25 rfl).trans (w_goto t74_26 rfl)
set_option maxRecDepth 10000 in
theorem b74_29 {d : Nat} {l0 : Option sm_V} {l1 : Option sm_V} {l2 : Option sm_V} {l3 : Option sm_V} {Z : Nat → Nat → Int} {Rf : Nat → Nat → Option Nat} {K : Nat → Nat × Nat} {n z : Nat} {Q : Option sm_V → sm_S → Prop} : sm_wp d 74 29 [l0, l1, l2, l3] [] (Z, Rf, K, n, z) Q = (sm_wp d 74 30 [l0, l1, l2, l3] [.inl 0] (Z, Rf, K, n, z) Q) := w_iconst t74_29 rfl
set_option maxRecDepth 10000 in
theorem b74_30 {d : Nat} {r0 : Nat} {q1 : Option Nat} {x2 : Int} {l3 : Option sm_V} {s0 : Int} {Z : Nat → Nat → Int} {Rf : Nat → Nat → Option Nat} {K : Nat → Nat × Nat} {n z : Nat} {Q : Option sm_V → sm_S → Prop} : sm_wp (d + 1) 74 30 [some (.inr (some r0)), some (.inr q1), some (.inl x2), l3] [.inl s0] (Z, Rf, K, n, z) Q = ((K r0).1 = 1 ∧ (Rf r0 15).isSome = true ∧ (K (((Rf r0 15).getD 0))).1 = 5 ∧ sm_call d 54 [.inr (some ((Rf r0 15).getD 0)), .inl x2, .inl 0] (Z, Rf, K, n, z) (sm_cont (d + 1) 74 41 [some (.inr (some r0)), some (.inr q1), some (.inl x2), some (.inl s0)] [.inr q1] Q)) := (w_istore_n t74_30 rfl (Nat.le_of_ble_eq_true rfl) rfl).trans ((w_aload_n t74_31 rfl rfl).trans ((w_aload_n t74_32 rfl rfl).trans ((w_getR t74_33 rfl (by decide)).trans (congrArg (And _) (congrArg (And _) ((w_iload_n t74_36 rfl rfl).trans ((w_iconst t74_37 rfl).trans (w_callV t74_38 rfl rfl rfl rfl (Nat.le_of_ble_eq_true rfl) (Nat.le_of_ble_eq_true rfl) rfl (by decide)))))))))
set_option maxRecDepth 10000 in
theorem b74_41 {d : Nat} {r0 : Nat} {l1 : Option sm_V} {x2 : Int} {l3 : Option sm_V} {qs0 : Option Nat} {s1 : Int} {Z : Nat → Nat → Int} {Rf : Nat → Nat → Option Nat} {K : Nat → Nat × Nat} {n z : Nat} {Q : Option sm_V → sm_S → Prop} : sm_wp (d + 1) 74 41 [some (.inr (some r0)), l1, some (.inl x2), l3] [.inl s1, .inr qs0] (Z, Rf, K, n, z) Q = ((K r0).1 = 1 ∧ (Rf r0 15).isSome = true ∧ (K (((Rf r0 15).getD 0))).1 = 5 ∧ sm_call d 54 [.inr (some ((Rf r0 15).getD 0)), .inl x2, .inl 1] (Z, Rf, K, n, z) (sm_cont (d + 1) 74 50 [some (.inr (some r0)), l1, some (.inl x2), l3] [.inl s1, .inr qs0] Q)) := (w_aload_n t74_41 rfl rfl).trans ((w_getR t74_42 rfl (by decide)).trans (congrArg (And _) (congrArg (And _) ((w_iload_n t74_45 rfl rfl).trans ((w_iconst t74_46 rfl).trans (w_callV t74_47 rfl rfl rfl rfl (Nat.le_of_ble_eq_true rfl) (Nat.le_of_ble_eq_true rfl) rfl (by decide)))))))
set_option maxRecDepth 10000 in
theorem b74_50 {d : Nat} {l0 : Option sm_V} {l1 : Option sm_V} {l2 : Option sm_V} {l3 : Option sm_V} {rs0 : Nat} {s1 : Int} {s2 : Int} {Z : Nat → Nat → Int} {Rf : Nat → Nat → Option Nat} {K : Nat → Nat × Nat} {n z : Nat} {Q : Option sm_V → sm_S → Prop} : sm_wp (d + 1) 74 50 [l0, l1, l2, l3] [.inl s2, .inl s1, .inr (some rs0)] (Z, Rf, K, n, z) Q = ((K rs0).1 = 0 ∧ sm_call d 3 [.inr (some rs0), .inl s1, .inl s2] (Z, Rf, K, n, z) (sm_cont (d + 1) 74 53 [l0, l1, l2, l3] [] Q)) := w_callV t74_50 rfl rfl rfl rfl (Nat.le_of_ble_eq_true rfl) (Nat.le_of_ble_eq_true rfl) rfl (by decide)
set_option maxRecDepth 10000 in
theorem b74_53 {d : Nat} {l0 : Option sm_V} {l1 : Option sm_V} {l2 : Option sm_V} {x3 : Int} {s0 : Int} {Z : Nat → Nat → Int} {Rf : Nat → Nat → Option Nat} {K : Nat → Nat × Nat} {n z : Nat} {Q : Option sm_V → sm_S → Prop} : sm_wp d 74 53 [l0, l1, l2, some (.inl x3)] [.inl s0] (Z, Rf, K, n, z) Q = (if wr s0 = wr x3 then sm_wp d 74 59 [l0, l1, l2, some (.inl x3)] [] (Z, Rf, K, n, z) Q else sm_wp d 74 57 [l0, l1, l2, some (.inl x3)] [] (Z, Rf, K, n, z) Q) := (w_iload_n t74_53 rfl rfl).trans (w_iceq t74_54 rfl rfl rfl rfl)
set_option maxRecDepth 10000 in
theorem b74_57 {d : Nat} {l0 : Option sm_V} {l1 : Option sm_V} {l2 : Option sm_V} {l3 : Option sm_V} {Z : Nat → Nat → Int} {Rf : Nat → Nat → Option Nat} {K : Nat → Nat × Nat} {n z : Nat} {Q : Option sm_V → sm_S → Prop} : sm_wp d 74 57 [l0, l1, l2, l3] [] (Z, Rf, K, n, z) Q = (((0 : Int) = 0 ∨ (0 : Int) = 1) ∧ Q (some (.inl 0)) (Z, Rf, K, n, z)) := (w_iconst t74_57 rfl).trans (w_zret t74_58 wl_0)
set_option maxRecDepth 10000 in
theorem b74_59 {d : Nat} {l0 : Option sm_V} {l1 : Option sm_V} {x2 : Int} {l3 : Option sm_V} {Z : Nat → Nat → Int} {Rf : Nat → Nat → Option Nat} {K : Nat → Nat × Nat} {n z : Nat} {Q : Option sm_V → sm_S → Prop} : sm_wp d 74 59 [l0, l1, some (.inl x2), l3] [] (Z, Rf, K, n, z) Q = (sm_wp d 74 2 [l0, l1, some (.inl (x2 + 1)), l3] [] (Z, Rf, K, n, z) Q) := (w_iinc t74_59 rfl rfl (Nat.le_of_ble_eq_true rfl) rfl).trans (w_goto t74_62 rfl)
set_option maxRecDepth 10000 in
theorem b74_65 {d : Nat} {l0 : Option sm_V} {l1 : Option sm_V} {l2 : Option sm_V} {l3 : Option sm_V} {Z : Nat → Nat → Int} {Rf : Nat → Nat → Option Nat} {K : Nat → Nat × Nat} {n z : Nat} {Q : Option sm_V → sm_S → Prop} : sm_wp d 74 65 [l0, l1, l2, l3] [] (Z, Rf, K, n, z) Q = (((1 : Int) = 0 ∨ (1 : Int) = 1) ∧ Q (some (.inl 1)) (Z, Rf, K, n, z)) := (w_iconst t74_65 rfl).trans (w_zret t74_66 wl_1)
theorem t75_0 : sm_at 75 0 = some (1, .aload_n 0, 0, 0, 0) := rfl
theorem t75_1 : sm_at 75 1 = some (3, .invokespecial 3, 1001, 1, 0) := rfl
theorem t75_4 : sm_at 75 4 = some (1, .aload_n 0, 0, 0, 0) := rfl
theorem t75_5 : sm_at 75 5 = some (3, .sipush 242, 0, 0, 0) := rfl
theorem t75_8 : sm_at 75 8 = some (2, .newarray .int, 0, 0, 0) := rfl
theorem t75_10 : sm_at 75 10 = some (3, .putfield 9, 9, 0, 0) := rfl
theorem t75_13 : sm_at 75 13 = some (1, .aload_n 0, 0, 0, 0) := rfl
theorem t75_14 : sm_at 75 14 = some (3, .sipush 242, 0, 0, 0) := rfl
theorem t75_17 : sm_at 75 17 = some (2, .newarray .int, 0, 0, 0) := rfl
theorem t75_19 : sm_at 75 19 = some (3, .putfield 15, 9, 1, 0) := rfl
theorem t75_22 : sm_at 75 22 = some (1, .aload_n 0, 0, 0, 0) := rfl
theorem t75_23 : sm_at 75 23 = some (3, .new 18, 5, 0, 0) := rfl
theorem t75_26 : sm_at 75 26 = some (1, .dup, 0, 0, 0) := rfl
theorem t75_27 : sm_at 75 27 = some (1, .iload_n 1, 0, 0, 0) := rfl
theorem t75_28 : sm_at 75 28 = some (3, .invokespecial 20, 51, 2, 0) := rfl
theorem t75_31 : sm_at 75 31 = some (3, .putfield 23, 9, 2, 0) := rfl
theorem t75_34 : sm_at 75 34 = some (1, .return_, 0, 0, 0) := rfl
set_option maxRecDepth 10000 in
theorem b75_0 {d : Nat} {r0 : Nat} {x1 : Int} {Z : Nat → Nat → Int} {Rf : Nat → Nat → Option Nat} {K : Nat → Nat × Nat} {n z : Nat} {Q : Option sm_V → sm_S → Prop} : sm_wp (d + 1) 75 0 [some (.inr (some r0)), some (.inl x1)] [] (Z, Rf, K, n, z) Q = ((n < 1000000 ∧ 0 ≤ (242 : Int) ∧ (242 : Int) ≤ 65536) ∧ ((sm_k K n (100, 242)) r0).1 = 9 ∧ (n + 1 < 1000000 ∧ 0 ≤ (242 : Int) ∧ (242 : Int) ≤ 65536) ∧ ((sm_k (sm_k K n (100, 242)) (n + 1) (100, 242)) r0).1 = 9 ∧ n + 1 + 1 < 1000000 ∧ ((sm_k (sm_k (sm_k K n (100, 242)) (n + 1) (100, 242)) (n + 1 + 1) (5, 3)) ((n + 1 + 1))).1 = 5 ∧ sm_call d 51 [.inr (some (n + 1 + 1)), .inl x1] (sm_r (sm_r (sm_r Z n (fun _ => 0)) (n + 1) (fun _ => 0)) (n + 1 + 1) (fun _ => 0), sm_r (sm_u (sm_r (sm_u (sm_r Rf n (fun _ => none)) r0 0 (some n)) (n + 1) (fun _ => none)) r0 1 (some (n + 1))) (n + 1 + 1) (fun _ => none), sm_k (sm_k (sm_k K n (100, 242)) (n + 1) (100, 242)) (n + 1 + 1) (5, 3), n + 1 + 1 + 1, z + 242 + 242 + 3) (sm_cont (d + 1) 75 31 [some (.inr (some r0)), some (.inl x1)] [.inr (some (n + 1 + 1)), .inr (some r0)] Q)) := (w_aload_n t75_0 rfl rfl).trans ((w_oinit t75_1 rfl (Nat.le_of_ble_eq_true rfl)).trans ((w_aload_n t75_4 rfl rfl).trans ((w_sipush t75_5 rfl).trans ((w_newa t75_8 rfl wl_242).trans (congrArg (And _) ((w_putR t75_10 rfl (by decide)).trans (congrArg (And _) ((w_aload_n t75_13 rfl rfl).trans ((w_sipush t75_14 rfl).trans ((w_newa t75_17 rfl wl_242).trans (congrArg (And _) ((w_putR t75_19 rfl (by decide)).trans (congrArg (And _) ((w_aload_n t75_22 rfl rfl).trans ((w_new t75_23 rfl (by decide) rfl).trans (congrArg (And _) ((w_dup t75_26 rfl).trans ((w_iload_n t75_27 rfl rfl).trans (w_callV t75_28 rfl rfl rfl rfl (Nat.le_of_ble_eq_true rfl) (Nat.le_of_ble_eq_true rfl) rfl (by decide))))))))))))))))))))
set_option maxRecDepth 10000 in
theorem b75_31 {d : Nat} {l0 : Option sm_V} {l1 : Option sm_V} {rs0 : Nat} {qs1 : Option Nat} {Z : Nat → Nat → Int} {Rf : Nat → Nat → Option Nat} {K : Nat → Nat × Nat} {n z : Nat} {Q : Option sm_V → sm_S → Prop} : sm_wp d 75 31 [l0, l1] [.inr qs1, .inr (some rs0)] (Z, Rf, K, n, z) Q = ((K rs0).1 = 9 ∧ Q none (Z, sm_u Rf rs0 2 qs1, K, n, z)) := (w_putR t75_31 rfl (by decide)).trans (congrArg (And _) (w_vret t75_34))
theorem t76_0 : sm_at 76 0 = some (1, .aload_n 0, 0, 0, 0) := rfl
theorem t76_1 : sm_at 76 1 = some (3, .getfield 9, 9, 0, 0) := rfl
theorem t76_4 : sm_at 76 4 = some (1, .iconst (-1), 0, 0, 0) := rfl
theorem t76_5 : sm_at 76 5 = some (3, .invokestatic 27, 205, 2, 0) := rfl
theorem t76_8 : sm_at 76 8 = some (1, .aload_n 0, 0, 0, 0) := rfl
theorem t76_9 : sm_at 76 9 = some (3, .getfield 15, 9, 1, 0) := rfl
theorem t76_12 : sm_at 76 12 = some (1, .iconst (-1), 0, 0, 0) := rfl
theorem t76_13 : sm_at 76 13 = some (3, .invokestatic 27, 205, 2, 0) := rfl
theorem t76_16 : sm_at 76 16 = some (1, .aload_n 0, 0, 0, 0) := rfl
theorem t76_17 : sm_at 76 17 = some (3, .getfield 23, 9, 2, 0) := rfl
theorem t76_20 : sm_at 76 20 = some (1, .iconst 0, 0, 0, 0) := rfl
theorem t76_21 : sm_at 76 21 = some (3, .putfield 33, 5, 2, 0) := rfl
theorem t76_24 : sm_at 76 24 = some (1, .return_, 0, 0, 0) := rfl
set_option maxRecDepth 10000 in
theorem b76_0 {d : Nat} {r0 : Nat} {Z : Nat → Nat → Int} {Rf : Nat → Nat → Option Nat} {K : Nat → Nat × Nat} {n z : Nat} {Q : Option sm_V → sm_S → Prop} : sm_wp (d + 1) 76 0 [some (.inr (some r0))] [] (Z, Rf, K, n, z) Q = ((K r0).1 = 9 ∧ (Rf r0 0).isSome = true ∧ sm_call d 205 [.inr (some ((Rf r0 0).getD 0)), .inl ((-1))] (Z, Rf, K, n, z) (sm_cont (d + 1) 76 8 [some (.inr (some r0))] [] Q)) := (w_aload_n t76_0 rfl rfl).trans ((w_getR t76_1 rfl (by decide)).trans (congrArg (And _) (congrArg (And _) ((w_iconst t76_4 rfl).trans (w_callS t76_5 rfl rfl rfl rfl (Nat.le_of_ble_eq_true rfl) (Nat.le_of_ble_eq_true rfl) rfl)))))
set_option maxRecDepth 10000 in
theorem b76_8 {d : Nat} {r0 : Nat} {Z : Nat → Nat → Int} {Rf : Nat → Nat → Option Nat} {K : Nat → Nat × Nat} {n z : Nat} {Q : Option sm_V → sm_S → Prop} : sm_wp (d + 1) 76 8 [some (.inr (some r0))] [] (Z, Rf, K, n, z) Q = ((K r0).1 = 9 ∧ (Rf r0 1).isSome = true ∧ sm_call d 205 [.inr (some ((Rf r0 1).getD 0)), .inl ((-1))] (Z, Rf, K, n, z) (sm_cont (d + 1) 76 16 [some (.inr (some r0))] [] Q)) := (w_aload_n t76_8 rfl rfl).trans ((w_getR t76_9 rfl (by decide)).trans (congrArg (And _) (congrArg (And _) ((w_iconst t76_12 rfl).trans (w_callS t76_13 rfl rfl rfl rfl (Nat.le_of_ble_eq_true rfl) (Nat.le_of_ble_eq_true rfl) rfl)))))
set_option maxRecDepth 10000 in
theorem b76_16 {d : Nat} {r0 : Nat} {Z : Nat → Nat → Int} {Rf : Nat → Nat → Option Nat} {K : Nat → Nat × Nat} {n z : Nat} {Q : Option sm_V → sm_S → Prop} : sm_wp d 76 16 [some (.inr (some r0))] [] (Z, Rf, K, n, z) Q = ((K r0).1 = 9 ∧ (Rf r0 2).isSome = true ∧ (K (((Rf r0 2).getD 0))).1 = 5 ∧ Q none (sm_u Z (((Rf r0 2).getD 0)) 2 0, Rf, K, n, z)) := (w_aload_n t76_16 rfl rfl).trans ((w_getR t76_17 rfl (by decide)).trans (congrArg (And _) (congrArg (And _) ((w_iconst t76_20 rfl).trans ((w_putI t76_21 rfl (by decide)).trans (congrArg (And _) (w_vret t76_24)))))))
theorem t77_0 : sm_at 77 0 = some (1, .aload_n 1, 0, 0, 0) := rfl
theorem t77_1 : sm_at 77 1 = some (3, .getfield 9, 9, 0, 0) := rfl
theorem t77_4 : sm_at 77 4 = some (1, .iconst 0, 0, 0, 0) := rfl
theorem t77_5 : sm_at 77 5 = some (1, .aload_n 0, 0, 0, 0) := rfl
theorem t77_6 : sm_at 77 6 = some (3, .getfield 9, 9, 0, 0) := rfl
theorem t77_9 : sm_at 77 9 = some (1, .iconst 0, 0, 0, 0) := rfl
theorem t77_10 : sm_at 77 10 = some (3, .sipush 242, 0, 0, 0) := rfl
theorem t77_13 : sm_at 77 13 = some (3, .invokestatic 37, 1000, 5, 0) := rfl
theorem t77_16 : sm_at 77 16 = some (1, .aload_n 1, 0, 0, 0) := rfl
theorem t77_17 : sm_at 77 17 = some (3, .getfield 15, 9, 1, 0) := rfl
theorem t77_20 : sm_at 77 20 = some (1, .iconst 0, 0, 0, 0) := rfl
theorem t77_21 : sm_at 77 21 = some (1, .aload_n 0, 0, 0, 0) := rfl
theorem t77_22 : sm_at 77 22 = some (3, .getfield 15, 9, 1, 0) := rfl
theorem t77_25 : sm_at 77 25 = some (1, .iconst 0, 0, 0, 0) := rfl
theorem t77_26 : sm_at 77 26 = some (3, .sipush 242, 0, 0, 0) := rfl
theorem t77_29 : sm_at 77 29 = some (3, .invokestatic 37, 1000, 5, 0) := rfl
theorem t77_32 : sm_at 77 32 = some (1, .aload_n 0, 0, 0, 0) := rfl
theorem t77_33 : sm_at 77 33 = some (3, .getfield 23, 9, 2, 0) := rfl
theorem t77_36 : sm_at 77 36 = some (1, .aload_n 1, 0, 0, 0) := rfl
theorem t77_37 : sm_at 77 37 = some (3, .getfield 23, 9, 2, 0) := rfl
theorem t77_40 : sm_at 77 40 = some (3, .invokevirtual 43, 55, 2, 0) := rfl
theorem t77_43 : sm_at 77 43 = some (1, .return_, 0, 0, 0) := rfl
set_option maxRecDepth 10000 in
theorem b77_0 {d : Nat} {r0 : Nat} {r1 : Nat} {Z : Nat → Nat → Int} {Rf : Nat → Nat → Option Nat} {K : Nat → Nat × Nat} {n z : Nat} {Q : Option sm_V → sm_S → Prop} : sm_wp (d + 1) 77 0 [some (.inr (some r0)), some (.inr (some r1))] [] (Z, Rf, K, n, z) Q = ((K r1).1 = 9 ∧ (Rf r1 0).isSome = true ∧ (K r0).1 = 9 ∧ (Rf r0 0).isSome = true ∧ sm_cp (K (((Rf r1 0).getD 0))) (K (((Rf r0 0).getD 0))) ((0 : Int)) ((0 : Int)) ((242 : Int)) ∧ (K r1).1 = 9 ∧ (Rf r1 1).isSome = true ∧ (K r0).1 = 9 ∧ (Rf r0 1).isSome = true ∧ sm_cp (K (((Rf r1 1).getD 0))) (K (((Rf r0 1).getD 0))) ((0 : Int)) ((0 : Int)) ((242 : Int)) ∧ (K r0).1 = 9 ∧ (Rf r0 2).isSome = true ∧ (K r1).1 = 9 ∧ (Rf r1 2).isSome = true ∧ (K (((Rf r0 2).getD 0))).1 = 5 ∧ sm_call d 55 [.inr (some ((Rf r0 2).getD 0)), .inr (some ((Rf r1 2).getD 0))] (sm_mv (sm_mv Z (((Rf r1 0).getD 0)) (((Rf r0 0).getD 0)) ((0 : Int)) ((0 : Int)) ((242 : Int))) (((Rf r1 1).getD 0)) (((Rf r0 1).getD 0)) ((0 : Int)) ((0 : Int)) ((242 : Int)), Rf, K, n, z) (sm_cont (d + 1) 77 43 [some (.inr (some r0)), some (.inr (some r1))] [] Q)) := (w_aload_n t77_0 rfl rfl).trans ((w_getR t77_1 rfl (by decide)).trans (congrArg (And _) (congrArg (And _) ((w_iconst t77_4 rfl).trans ((w_aload_n t77_5 rfl rfl).trans ((w_getR t77_6 rfl (by decide)).trans (congrArg (And _) (congrArg (And _) ((w_iconst t77_9 rfl).trans ((w_sipush t77_10 rfl).trans ((w_copy t77_13 rfl (Nat.le_of_ble_eq_true rfl) wl_0 wl_0 wl_242).trans (congrArg (And _) ((w_aload_n t77_16 rfl rfl).trans ((w_getR t77_17 rfl (by decide)).trans (congrArg (And _) (congrArg (And _) ((w_iconst t77_20 rfl).trans ((w_aload_n t77_21 rfl rfl).trans ((w_getR t77_22 rfl (by decide)).trans (congrArg (And _) (congrArg (And _) ((w_iconst t77_25 rfl).trans ((w_sipush t77_26 rfl).trans ((w_copy t77_29 rfl (Nat.le_of_ble_eq_true rfl) wl_0 wl_0 wl_242).trans (congrArg (And _) ((w_aload_n t77_32 rfl rfl).trans ((w_getR t77_33 rfl (by decide)).trans (congrArg (And _) (congrArg (And _) ((w_aload_n t77_36 rfl rfl).trans ((w_getR t77_37 rfl (by decide)).trans (congrArg (And _) (congrArg (And _) (w_callV t77_40 rfl rfl rfl rfl (Nat.le_of_ble_eq_true rfl) (Nat.le_of_ble_eq_true rfl) rfl (by decide)))))))))))))))))))))))))))))))))))
set_option maxRecDepth 10000 in
theorem b77_43 {d : Nat} {l0 : Option sm_V} {l1 : Option sm_V} {Z : Nat → Nat → Int} {Rf : Nat → Nat → Option Nat} {K : Nat → Nat × Nat} {n z : Nat} {Q : Option sm_V → sm_S → Prop} : sm_wp d 77 43 [l0, l1] [] (Z, Rf, K, n, z) Q = (Q none (Z, Rf, K, n, z)) := w_vret t77_43
theorem t78_0 : sm_at 78 0 = some (1, .iload_n 1, 0, 0, 0) := rfl
theorem t78_1 : sm_at 78 1 = some (3, .ifCond .lt 34, 0, 0, 0) := rfl
theorem t78_4 : sm_at 78 4 = some (1, .iload_n 1, 0, 0, 0) := rfl
theorem t78_5 : sm_at 78 5 = some (3, .sipush 242, 0, 0, 0) := rfl
theorem t78_8 : sm_at 78 8 = some (3, .if_icmp .ge 27, 0, 0, 0) := rfl
theorem t78_11 : sm_at 78 11 = some (1, .aload_n 0, 0, 0, 0) := rfl
theorem t78_12 : sm_at 78 12 = some (3, .getfield 9, 9, 0, 0) := rfl
theorem t78_15 : sm_at 78 15 = some (1, .iload_n 1, 0, 0, 0) := rfl
theorem t78_16 : sm_at 78 16 = some (1, .iaload, 0, 0, 0) := rfl
theorem t78_17 : sm_at 78 17 = some (1, .iconst (-1), 0, 0, 0) := rfl
theorem t78_18 : sm_at 78 18 = some (3, .if_icmp .ne 17, 0, 0, 0) := rfl
theorem t78_21 : sm_at 78 21 = some (1, .aload_n 0, 0, 0, 0) := rfl
theorem t78_22 : sm_at 78 22 = some (3, .getfield 9, 9, 0, 0) := rfl
theorem t78_25 : sm_at 78 25 = some (1, .iload_n 1, 0, 0, 0) := rfl
theorem t78_26 : sm_at 78 26 = some (1, .iload_n 2, 0, 0, 0) := rfl
theorem t78_27 : sm_at 78 27 = some (1, .iastore, 0, 0, 0) := rfl
theorem t78_28 : sm_at 78 28 = some (1, .aload_n 0, 0, 0, 0) := rfl
theorem t78_29 : sm_at 78 29 = some (3, .getfield 15, 9, 1, 0) := rfl
theorem t78_32 : sm_at 78 32 = some (1, .iload_n 1, 0, 0, 0) := rfl
theorem t78_33 : sm_at 78 33 = some (1, .iload_n 3, 0, 0, 0) := rfl
theorem t78_34 : sm_at 78 34 = some (1, .iastore, 0, 0, 0) := rfl
theorem t78_35 : sm_at 78 35 = some (1, .return_, 0, 0, 0) := rfl
set_option maxRecDepth 10000 in
theorem b78_0 {d : Nat} {l0 : Option sm_V} {x1 : Int} {l2 : Option sm_V} {l3 : Option sm_V} {Z : Nat → Nat → Int} {Rf : Nat → Nat → Option Nat} {K : Nat → Nat × Nat} {n z : Nat} {Q : Option sm_V → sm_S → Prop} : sm_wp d 78 0 [l0, some (.inl x1), l2, l3] [] (Z, Rf, K, n, z) Q = (if wr x1 < 0 then sm_wp d 78 35 [l0, some (.inl x1), l2, l3] [] (Z, Rf, K, n, z) Q else sm_wp d 78 4 [l0, some (.inl x1), l2, l3] [] (Z, Rf, K, n, z) Q) := (w_iload_n t78_0 rfl rfl).trans (w_iflt t78_1 rfl rfl rfl)
set_option maxRecDepth 10000 in
theorem b78_4 {d : Nat} {l0 : Option sm_V} {x1 : Int} {l2 : Option sm_V} {l3 : Option sm_V} {Z : Nat → Nat → Int} {Rf : Nat → Nat → Option Nat} {K : Nat → Nat × Nat} {n z : Nat} {Q : Option sm_V → sm_S → Prop} : sm_wp d 78 4 [l0, some (.inl x1), l2, l3] [] (Z, Rf, K, n, z) Q = (if (242 : Int) ≤ wr x1 then sm_wp d 78 35 [l0, some (.inl x1), l2, l3] [] (Z, Rf, K, n, z) Q else sm_wp d 78 11 [l0, some (.inl x1), l2, l3] [] (Z, Rf, K, n, z) Q) := (w_iload_n t78_4 rfl rfl).trans ((w_sipush t78_5 rfl).trans (w_icge t78_8 rfl wl_242 rfl rfl))
set_option maxRecDepth 10000 in
theorem b78_11 {d : Nat} {r0 : Nat} {x1 : Int} {l2 : Option sm_V} {l3 : Option sm_V} {Z : Nat → Nat → Int} {Rf : Nat → Nat → Option Nat} {K : Nat → Nat × Nat} {n z : Nat} {Q : Option sm_V → sm_S → Prop} : sm_wp d 78 11 [some (.inr (some r0)), some (.inl x1), l2, l3] [] (Z, Rf, K, n, z) Q = ((K r0).1 = 9 ∧ (Rf r0 0).isSome = true ∧ sm_rd (K (((Rf r0 0).getD 0))) (wr x1) ∧ (if wr (Z (((Rf r0 0).getD 0)) ((wr x1).toNat)) = (-1 : Int) then sm_wp d 78 21 [some (.inr (some r0)), some (.inl x1), l2, l3] [] (Z, Rf, K, n, z) Q else sm_wp d 78 35 [some (.inr (some r0)), some (.inl x1), l2, l3] [] (Z, Rf, K, n, z) Q)) := (w_aload_n t78_11 rfl rfl).trans ((w_getR t78_12 rfl (by decide)).trans (congrArg (And _) (congrArg (And _) ((w_iload_n t78_15 rfl rfl).trans ((w_iald t78_16 rfl rfl).trans (congrArg (And _) ((w_iconst t78_17 rfl).trans (w_icne t78_18 rfl wl_m1 rfl rfl))))))))
set_option maxRecDepth 10000 in
theorem b78_21 {d : Nat} {r0 : Nat} {x1 : Int} {x2 : Int} {x3 : Int} {Z : Nat → Nat → Int} {Rf : Nat → Nat → Option Nat} {K : Nat → Nat × Nat} {n z : Nat} {Q : Option sm_V → sm_S → Prop} : sm_wp d 78 21 [some (.inr (some r0)), some (.inl x1), some (.inl x2), some (.inl x3)] [] (Z, Rf, K, n, z) Q = ((K r0).1 = 9 ∧ (Rf r0 0).isSome = true ∧ sm_wt (K (((Rf r0 0).getD 0))) (wr x1) ∧ (K r0).1 = 9 ∧ (Rf r0 1).isSome = true ∧ sm_wt (K (((Rf r0 1).getD 0))) (wr x1) ∧ sm_wp d 78 35 [some (.inr (some r0)), some (.inl x1), some (.inl x2), some (.inl x3)] [] (sm_u (sm_u Z (((Rf r0 0).getD 0)) ((wr x1).toNat) x2) (((Rf r0 1).getD 0)) ((wr x1).toNat) x3, Rf, K, n, z) Q) := (w_aload_n t78_21 rfl rfl).trans ((w_getR t78_22 rfl (by decide)).trans (congrArg (And _) (congrArg (And _) ((w_iload_n t78_25 rfl rfl).trans ((w_iload_n t78_26 rfl rfl).trans ((w_iast t78_27 rfl rfl).trans (congrArg (And _) ((w_aload_n t78_28 rfl rfl).trans ((w_getR t78_29 rfl (by decide)).trans (congrArg (And _) (congrArg (And _) ((w_iload_n t78_32 rfl rfl).trans ((w_iload_n t78_33 rfl rfl).trans ((w_iast t78_34 rfl rfl).trans (congrArg (And _) rfl)))))))))))))))
set_option maxRecDepth 10000 in
theorem b78_35 {d : Nat} {l0 : Option sm_V} {l1 : Option sm_V} {l2 : Option sm_V} {l3 : Option sm_V} {Z : Nat → Nat → Int} {Rf : Nat → Nat → Option Nat} {K : Nat → Nat × Nat} {n z : Nat} {Q : Option sm_V → sm_S → Prop} : sm_wp d 78 35 [l0, l1, l2, l3] [] (Z, Rf, K, n, z) Q = (Q none (Z, Rf, K, n, z)) := w_vret t78_35
