theorem t190_0 : sm_at 190 0 = some (1, .aload_n 0, 0, 0, 0) := rfl
theorem t190_1 : sm_at 190 1 = some (1, .iload_n 1, 0, 0, 0) := rfl
theorem t190_2 : sm_at 190 2 = some (3, .invokevirtual 85, 122, 2, 0) := rfl
theorem t190_5 : sm_at 190 5 = some (3, .ifCond .eq 11, 0, 0, 0) := rfl
theorem t190_8 : sm_at 190 8 = some (1, .aload_n 0, 0, 0, 0) := rfl
theorem t190_9 : sm_at 190 9 = some (1, .iload_n 2, 0, 0, 0) := rfl
theorem t190_10 : sm_at 190 10 = some (3, .invokevirtual 85, 122, 2, 0) := rfl
theorem t190_13 : sm_at 190 13 = some (3, .ifCond .ne 5, 0, 0, 0) := rfl
theorem t190_16 : sm_at 190 16 = some (1, .iconst (-1), 0, 0, 0) := rfl
theorem t190_17 : sm_at 190 17 = some (1, .ireturn, 0, 0, 0) := rfl
theorem t190_18 : sm_at 190 18 = some (1, .iconst 0, 0, 0, 0) := rfl
theorem t190_19 : sm_at 190 19 = some (1, .istore_n 3, 0, 0, 0) := rfl
theorem t190_20 : sm_at 190 20 = some (1, .iconst 0, 0, 0, 0) := rfl
theorem t190_21 : sm_at 190 21 = some (2, .istore 4, 0, 0, 0) := rfl
theorem t190_23 : sm_at 190 23 = some (2, .iload 4, 0, 0, 0) := rfl
theorem t190_25 : sm_at 190 25 = some (1, .iconst 1, 0, 0, 0) := rfl
theorem t190_26 : sm_at 190 26 = some (1, .aload_n 0, 0, 0, 0) := rfl
theorem t190_27 : sm_at 190 27 = some (3, .getfield 7, 11, 0, 0) := rfl
theorem t190_30 : sm_at 190 30 = some (2, .bipush 7, 0, 0, 0) := rfl
theorem t190_32 : sm_at 190 32 = some (1, .iaload, 0, 0, 0) := rfl
theorem t190_33 : sm_at 190 33 = some (1, .ishl, 0, 0, 0) := rfl
theorem t190_34 : sm_at 190 34 = some (3, .if_icmp .ge 123, 0, 0, 0) := rfl
theorem t190_37 : sm_at 190 37 = some (1, .iconst 1, 0, 0, 0) := rfl
theorem t190_38 : sm_at 190 38 = some (2, .istore 5, 0, 0, 0) := rfl
theorem t190_40 : sm_at 190 40 = some (1, .iconst 0, 0, 0, 0) := rfl
theorem t190_41 : sm_at 190 41 = some (2, .istore 6, 0, 0, 0) := rfl
theorem t190_43 : sm_at 190 43 = some (2, .iload 6, 0, 0, 0) := rfl
theorem t190_45 : sm_at 190 45 = some (1, .aload_n 0, 0, 0, 0) := rfl
theorem t190_46 : sm_at 190 46 = some (3, .getfield 7, 11, 0, 0) := rfl
theorem t190_49 : sm_at 190 49 = some (2, .bipush 7, 0, 0, 0) := rfl
theorem t190_51 : sm_at 190 51 = some (1, .iaload, 0, 0, 0) := rfl
theorem t190_52 : sm_at 190 52 = some (3, .if_icmp .ge 61, 0, 0, 0) := rfl
theorem t190_55 : sm_at 190 55 = some (2, .iload 5, 0, 0, 0) := rfl
theorem t190_57 : sm_at 190 57 = some (2, .iload 4, 0, 0, 0) := rfl
theorem t190_59 : sm_at 190 59 = some (2, .iload 6, 0, 0, 0) := rfl
theorem t190_61 : sm_at 190 61 = some (1, .ishr, 0, 0, 0) := rfl
theorem t190_62 : sm_at 190 62 = some (1, .iconst 1, 0, 0, 0) := rfl
theorem t190_63 : sm_at 190 63 = some (1, .iand, 0, 0, 0) := rfl
theorem t190_64 : sm_at 190 64 = some (1, .iconst 1, 0, 0, 0) := rfl
theorem t190_65 : sm_at 190 65 = some (3, .if_icmp .ne 21, 0, 0, 0) := rfl
theorem t190_68 : sm_at 190 68 = some (1, .aload_n 0, 0, 0, 0) := rfl
theorem t190_69 : sm_at 190 69 = some (3, .getfield 7, 11, 0, 0) := rfl
theorem t190_72 : sm_at 190 72 = some (3, .sipush 1900, 0, 0, 0) := rfl
theorem t190_75 : sm_at 190 75 = some (1, .iconst 3, 0, 0, 0) := rfl
theorem t190_76 : sm_at 190 76 = some (2, .iload 6, 0, 0, 0) := rfl
theorem t190_78 : sm_at 190 78 = some (1, .imul, 0, 0, 0) := rfl
theorem t190_79 : sm_at 190 79 = some (1, .iadd, 0, 0, 0) := rfl
theorem t190_80 : sm_at 190 80 = some (1, .iconst 2, 0, 0, 0) := rfl
theorem t190_81 : sm_at 190 81 = some (1, .iadd, 0, 0, 0) := rfl
theorem t190_82 : sm_at 190 82 = some (1, .iaload, 0, 0, 0) := rfl
theorem t190_83 : sm_at 190 83 = some (3, .goto 21, 0, 0, 0) := rfl
theorem t190_86 : sm_at 190 86 = some (2, .bipush 10, 0, 0, 0) := rfl
theorem t190_88 : sm_at 190 88 = some (1, .aload_n 0, 0, 0, 0) := rfl
theorem t190_89 : sm_at 190 89 = some (3, .getfield 7, 11, 0, 0) := rfl
theorem t190_92 : sm_at 190 92 = some (3, .sipush 1900, 0, 0, 0) := rfl
theorem t190_95 : sm_at 190 95 = some (1, .iconst 3, 0, 0, 0) := rfl
theorem t190_96 : sm_at 190 96 = some (2, .iload 6, 0, 0, 0) := rfl
theorem t190_98 : sm_at 190 98 = some (1, .imul, 0, 0, 0) := rfl
theorem t190_99 : sm_at 190 99 = some (1, .iadd, 0, 0, 0) := rfl
theorem t190_100 : sm_at 190 100 = some (1, .iconst 2, 0, 0, 0) := rfl
set_option maxRecDepth 100000 in
theorem t190_101 : sm_at 190 101 = some (1, .iadd, 0, 0, 0) := rfl
set_option maxRecDepth 100000 in
theorem t190_102 : sm_at 190 102 = some (1, .iaload, 0, 0, 0) := rfl
set_option maxRecDepth 100000 in
theorem t190_103 : sm_at 190 103 = some (1, .isub, 0, 0, 0) := rfl
set_option maxRecDepth 100000 in
theorem t190_104 : sm_at 190 104 = some (1, .imul, 0, 0, 0) := rfl
set_option maxRecDepth 100000 in
theorem t190_105 : sm_at 190 105 = some (2, .istore 5, 0, 0, 0) := rfl
set_option maxRecDepth 100000 in
theorem t190_107 : sm_at 190 107 = some (3, .iinc 6 1, 0, 0, 0) := rfl
set_option maxRecDepth 100000 in
theorem t190_110 : sm_at 190 110 = some (3, .goto (-67), 0, 0, 0) := rfl
set_option maxRecDepth 100000 in
theorem t190_113 : sm_at 190 113 = some (2, .iload 5, 0, 0, 0) := rfl
set_option maxRecDepth 100000 in
theorem t190_115 : sm_at 190 115 = some (3, .ifCond .ne 6, 0, 0, 0) := rfl
set_option maxRecDepth 100000 in
theorem t190_118 : sm_at 190 118 = some (3, .goto 33, 0, 0, 0) := rfl
set_option maxRecDepth 100000 in
theorem t190_121 : sm_at 190 121 = some (1, .aload_n 0, 0, 0, 0) := rfl
set_option maxRecDepth 100000 in
theorem t190_122 : sm_at 190 122 = some (2, .iload 4, 0, 0, 0) := rfl
set_option maxRecDepth 100000 in
theorem t190_124 : sm_at 190 124 = some (3, .invokevirtual 327, 189, 2, 0) := rfl
set_option maxRecDepth 100000 in
theorem t190_127 : sm_at 190 127 = some (1, .iload_n 3, 0, 0, 0) := rfl
set_option maxRecDepth 100000 in
theorem t190_128 : sm_at 190 128 = some (1, .aload_n 0, 0, 0, 0) := rfl
set_option maxRecDepth 100000 in
theorem t190_129 : sm_at 190 129 = some (3, .getfield 53, 11, 28, 0) := rfl
set_option maxRecDepth 100000 in
theorem t190_132 : sm_at 190 132 = some (1, .iload_n 1, 0, 0, 0) := rfl
set_option maxRecDepth 100000 in
theorem t190_133 : sm_at 190 133 = some (1, .iaload, 0, 0, 0) := rfl
set_option maxRecDepth 100000 in
theorem t190_134 : sm_at 190 134 = some (1, .aload_n 0, 0, 0, 0) := rfl
set_option maxRecDepth 100000 in
theorem t190_135 : sm_at 190 135 = some (3, .getfield 53, 11, 28, 0) := rfl
set_option maxRecDepth 100000 in
theorem t190_138 : sm_at 190 138 = some (1, .iload_n 2, 0, 0, 0) := rfl
set_option maxRecDepth 100000 in
theorem t190_139 : sm_at 190 139 = some (1, .iaload, 0, 0, 0) := rfl
set_option maxRecDepth 100000 in
theorem t190_140 : sm_at 190 140 = some (3, .if_icmp .ne 8, 0, 0, 0) := rfl
set_option maxRecDepth 100000 in
theorem t190_143 : sm_at 190 143 = some (2, .iload 5, 0, 0, 0) := rfl
set_option maxRecDepth 100000 in
theorem t190_145 : sm_at 190 145 = some (3, .goto 4, 0, 0, 0) := rfl
set_option maxRecDepth 100000 in
theorem t190_148 : sm_at 190 148 = some (1, .iconst 0, 0, 0, 0) := rfl
set_option maxRecDepth 100000 in
theorem t190_149 : sm_at 190 149 = some (1, .iadd, 0, 0, 0) := rfl
set_option maxRecDepth 100000 in
theorem t190_150 : sm_at 190 150 = some (1, .istore_n 3, 0, 0, 0) := rfl
set_option maxRecDepth 100000 in
theorem t190_151 : sm_at 190 151 = some (3, .iinc 4 1, 0, 0, 0) := rfl
set_option maxRecDepth 100000 in
theorem t190_154 : sm_at 190 154 = some (3, .goto (-131), 0, 0, 0) := rfl
set_option maxRecDepth 100000 in
theorem t190_157 : sm_at 190 157 = some (1, .iload_n 3, 0, 0, 0) := rfl
set_option maxRecDepth 100000 in
theorem t190_158 : sm_at 190 158 = some (1, .ireturn, 0, 0, 0) := rfl
set_option maxRecDepth 10000 in
theorem b190_0 {d : Nat} {r0 : Nat} {x1 : Int} {l2 : Option sm_V} {l3 : Option sm_V} {l4 : Option sm_V} {l5 : Option sm_V} {l6 : Option sm_V} {Z : Nat → Nat → Int} {Rf : Nat → Nat → Option Nat} {K : Nat → Nat × Nat} {n z : Nat} {Q : Option sm_V → sm_S → Prop} : sm_wp (d + 1) 190 0 [some (.inr (some r0)), some (.inl x1), l2, l3, l4, l5, l6] [] (Z, Rf, K, n, z) Q = ((K r0).1 = 11 ∧ sm_call d 122 [.inr (some r0), .inl x1] (Z, Rf, K, n, z) (sm_cont (d + 1) 190 5 [some (.inr (some r0)), some (.inl x1), l2, l3, l4, l5, l6] [] Q)) := (w_aload_n t190_0 rfl rfl).trans ((w_iload_n t190_1 rfl rfl).trans (w_callV t190_2 rfl rfl rfl rfl (Nat.le_of_ble_eq_true rfl) (Nat.le_of_ble_eq_true rfl) rfl (by decide)))
set_option maxRecDepth 10000 in
theorem b190_5 {d : Nat} {l0 : Option sm_V} {l1 : Option sm_V} {l2 : Option sm_V} {l3 : Option sm_V} {l4 : Option sm_V} {l5 : Option sm_V} {l6 : Option sm_V} {s0 : Int} {Z : Nat → Nat → Int} {Rf : Nat → Nat → Option Nat} {K : Nat → Nat × Nat} {n z : Nat} {Q : Option sm_V → sm_S → Prop} : sm_wp d 190 5 [l0, l1, l2, l3, l4, l5, l6] [.inl s0] (Z, Rf, K, n, z) Q = (if wr s0 = 0 then sm_wp d 190 16 [l0, l1, l2, l3, l4, l5, l6] [] (Z, Rf, K, n, z) Q else sm_wp d 190 8 [l0, l1, l2, l3, l4, l5, l6] [] (Z, Rf, K, n, z) Q) := w_ifeq t190_5 rfl rfl rfl
set_option maxRecDepth 10000 in
theorem b190_8 {d : Nat} {r0 : Nat} {l1 : Option sm_V} {x2 : Int} {l3 : Option sm_V} {l4 : Option sm_V} {l5 : Option sm_V} {l6 : Option sm_V} {Z : Nat → Nat → Int} {Rf : Nat → Nat → Option Nat} {K : Nat → Nat × Nat} {n z : Nat} {Q : Option sm_V → sm_S → Prop} : sm_wp (d + 1) 190 8 [some (.inr (some r0)), l1, some (.inl x2), l3, l4, l5, l6] [] (Z, Rf, K, n, z) Q = ((K r0).1 = 11 ∧ sm_call d 122 [.inr (some r0), .inl x2] (Z, Rf, K, n, z) (sm_cont (d + 1) 190 13 [some (.inr (some r0)), l1, some (.inl x2), l3, l4, l5, l6] [] Q)) := (w_aload_n t190_8 rfl rfl).trans ((w_iload_n t190_9 rfl rfl).trans (w_callV t190_10 rfl rfl rfl rfl (Nat.le_of_ble_eq_true rfl) (Nat.le_of_ble_eq_true rfl) rfl (by decide)))
set_option maxRecDepth 10000 in
theorem b190_13 {d : Nat} {l0 : Option sm_V} {l1 : Option sm_V} {l2 : Option sm_V} {l3 : Option sm_V} {l4 : Option sm_V} {l5 : Option sm_V} {l6 : Option sm_V} {s0 : Int} {Z : Nat → Nat → Int} {Rf : Nat → Nat → Option Nat} {K : Nat → Nat × Nat} {n z : Nat} {Q : Option sm_V → sm_S → Prop} : sm_wp d 190 13 [l0, l1, l2, l3, l4, l5, l6] [.inl s0] (Z, Rf, K, n, z) Q = (if wr s0 = 0 then sm_wp d 190 16 [l0, l1, l2, l3, l4, l5, l6] [] (Z, Rf, K, n, z) Q else sm_wp d 190 18 [l0, l1, l2, l3, l4, l5, l6] [] (Z, Rf, K, n, z) Q) := w_ifne t190_13 rfl rfl rfl
set_option maxRecDepth 10000 in
theorem b190_16 {d : Nat} {l0 : Option sm_V} {l1 : Option sm_V} {l2 : Option sm_V} {l3 : Option sm_V} {l4 : Option sm_V} {l5 : Option sm_V} {l6 : Option sm_V} {Z : Nat → Nat → Int} {Rf : Nat → Nat → Option Nat} {K : Nat → Nat × Nat} {n z : Nat} {Q : Option sm_V → sm_S → Prop} : sm_wp d 190 16 [l0, l1, l2, l3, l4, l5, l6] [] (Z, Rf, K, n, z) Q = (Q (some (.inl ((-1)))) (Z, Rf, K, n, z)) := (w_iconst t190_16 rfl).trans (w_iret t190_17)
set_option maxRecDepth 10000 in
theorem b190_18 {d : Nat} {l0 : Option sm_V} {l1 : Option sm_V} {l2 : Option sm_V} {l3 : Option sm_V} {l4 : Option sm_V} {l5 : Option sm_V} {l6 : Option sm_V} {Z : Nat → Nat → Int} {Rf : Nat → Nat → Option Nat} {K : Nat → Nat × Nat} {n z : Nat} {Q : Option sm_V → sm_S → Prop} : sm_wp d 190 18 [l0, l1, l2, l3, l4, l5, l6] [] (Z, Rf, K, n, z) Q = (sm_wp d 190 23 [l0, l1, l2, some (.inl 0), some (.inl 0), l5, l6] [] (Z, Rf, K, n, z) Q) := (w_iconst t190_18 rfl).trans ((w_istore_n t190_19 rfl (Nat.le_of_ble_eq_true rfl) rfl).trans ((w_iconst t190_20 rfl).trans (w_istore t190_21 rfl (Nat.le_of_ble_eq_true rfl) rfl)))
set_option maxRecDepth 10000 in
theorem b190_23 {d : Nat} {r0 : Nat} {l1 : Option sm_V} {l2 : Option sm_V} {l3 : Option sm_V} {x4 : Int} {l5 : Option sm_V} {l6 : Option sm_V} {Z : Nat → Nat → Int} {Rf : Nat → Nat → Option Nat} {K : Nat → Nat × Nat} {n z : Nat} {Q : Option sm_V → sm_S → Prop} : sm_wp d 190 23 [some (.inr (some r0)), l1, l2, l3, some (.inl x4), l5, l6] [] (Z, Rf, K, n, z) Q = ((K r0).1 = 11 ∧ (Rf r0 0).isSome = true ∧ sm_rd (K (((Rf r0 0).getD 0))) ((7 : Int)) ∧ (if wr (sm_shl 1 (Z (((Rf r0 0).getD 0)) 7)) ≤ wr x4 then sm_wp d 190 157 [some (.inr (some r0)), l1, l2, l3, some (.inl x4), l5, l6] [] (Z, Rf, K, n, z) Q else sm_wp d 190 37 [some (.inr (some r0)), l1, l2, l3, some (.inl x4), l5, l6] [] (Z, Rf, K, n, z) Q)) := (w_iload t190_23 rfl rfl).trans ((w_iconst t190_25 rfl).trans ((w_aload_n t190_26 rfl rfl).trans ((w_getR t190_27 rfl (by decide)).trans (congrArg (And _) (congrArg (And _) ((w_bipush t190_30 rfl).trans ((w_iald t190_32 rfl wl_7).trans (congrArg (And _) ((w_ishl t190_33 rfl).trans (w_icge t190_34 rfl rfl rfl rfl))))))))))
set_option maxRecDepth 10000 in
theorem b190_37 {d : Nat} {l0 : Option sm_V} {l1 : Option sm_V} {l2 : Option sm_V} {l3 : Option sm_V} {l4 : Option sm_V} {l5 : Option sm_V} {l6 : Option sm_V} {Z : Nat → Nat → Int} {Rf : Nat → Nat → Option Nat} {K : Nat → Nat × Nat} {n z : Nat} {Q : Option sm_V → sm_S → Prop} : sm_wp d 190 37 [l0, l1, l2, l3, l4, l5, l6] [] (Z, Rf, K, n, z) Q = (sm_wp d 190 43 [l0, l1, l2, l3, l4, some (.inl 1), some (.inl 0)] [] (Z, Rf, K, n, z) Q) := (w_iconst t190_37 rfl).trans ((w_istore t190_38 rfl (Nat.le_of_ble_eq_true rfl) rfl).trans ((w_iconst t190_40 rfl).trans (w_istore t190_41 rfl (Nat.le_of_ble_eq_true rfl) rfl)))
set_option maxRecDepth 10000 in
theorem b190_43 {d : Nat} {r0 : Nat} {l1 : Option sm_V} {l2 : Option sm_V} {l3 : Option sm_V} {l4 : Option sm_V} {l5 : Option sm_V} {x6 : Int} {Z : Nat → Nat → Int} {Rf : Nat → Nat → Option Nat} {K : Nat → Nat × Nat} {n z : Nat} {Q : Option sm_V → sm_S → Prop} : sm_wp d 190 43 [some (.inr (some r0)), l1, l2, l3, l4, l5, some (.inl x6)] [] (Z, Rf, K, n, z) Q = ((K r0).1 = 11 ∧ (Rf r0 0).isSome = true ∧ sm_rd (K (((Rf r0 0).getD 0))) ((7 : Int)) ∧ (if wr (Z (((Rf r0 0).getD 0)) 7) ≤ wr x6 then sm_wp d 190 113 [some (.inr (some r0)), l1, l2, l3, l4, l5, some (.inl x6)] [] (Z, Rf, K, n, z) Q else sm_wp d 190 55 [some (.inr (some r0)), l1, l2, l3, l4, l5, some (.inl x6)] [] (Z, Rf, K, n, z) Q)) := (w_iload t190_43 rfl rfl).trans ((w_aload_n t190_45 rfl rfl).trans ((w_getR t190_46 rfl (by decide)).trans (congrArg (And _) (congrArg (And _) ((w_bipush t190_49 rfl).trans ((w_iald t190_51 rfl wl_7).trans (congrArg (And _) (w_icge t190_52 rfl rfl rfl rfl))))))))
set_option maxRecDepth 10000 in
theorem b190_55 {d : Nat} {l0 : Option sm_V} {l1 : Option sm_V} {l2 : Option sm_V} {l3 : Option sm_V} {x4 : Int} {x5 : Int} {x6 : Int} {Z : Nat → Nat → Int} {Rf : Nat → Nat → Option Nat} {K : Nat → Nat × Nat} {n z : Nat} {Q : Option sm_V → sm_S → Prop} : sm_wp d 190 55 [l0, l1, l2, l3, some (.inl x4), some (.inl x5), some (.inl x6)] [] (Z, Rf, K, n, z) Q = (if wr (sm_and (sm_shr x4 x6) 1) = (1 : Int) then sm_wp d 190 68 [l0, l1, l2, l3, some (.inl x4), some (.inl x5), some (.inl x6)] [.inl x5] (Z, Rf, K, n, z) Q else sm_wp d 190 86 [l0, l1, l2, l3, some (.inl x4), some (.inl x5), some (.inl x6)] [.inl x5] (Z, Rf, K, n, z) Q) := (w_iload t190_55 rfl rfl).trans ((w_iload t190_57 rfl rfl).trans ((w_iload t190_59 rfl rfl).trans ((w_ishr t190_61 rfl).trans ((w_iconst t190_62 rfl).trans ((w_iand t190_63 rfl).trans ((w_iconst t190_64 rfl).trans (w_icne t190_65 rfl wl_1 rfl rfl)))))))
set_option maxRecDepth 10000 in
theorem b190_68 {d : Nat} {r0 : Nat} {l1 : Option sm_V} {l2 : Option sm_V} {l3 : Option sm_V} {l4 : Option sm_V} {l5 : Option sm_V} {x6 : Int} {s0 : Int} {Z : Nat → Nat → Int} {Rf : Nat → Nat → Option Nat} {K : Nat → Nat × Nat} {n z : Nat} {Q : Option sm_V → sm_S → Prop} : sm_wp d 190 68 [some (.inr (some r0)), l1, l2, l3, l4, l5, some (.inl x6)] [.inl s0] (Z, Rf, K, n, z) Q = ((K r0).1 = 11 ∧ (Rf r0 0).isSome = true ∧ sm_rd (K (((Rf r0 0).getD 0))) (wr ((1900 + (3 * x6)) + 2)) ∧ sm_wp d 190 104 [some (.inr (some r0)), l1, l2, l3, l4, l5, some (.inl x6)] [.inl (Z (((Rf r0 0).getD 0)) ((wr ((1900 + (3 * x6)) + 2)).toNat)), .inl s0] (Z, Rf, K, n, z) Q) := (w_aload_n t190_68 rfl rfl).trans ((w_getR t190_69 rfl (by decide)).trans (congrArg (And _) (congrArg (And _) ((w_sipush t190_72 rfl).trans ((w_iconst t190_75 rfl).trans ((w_iload t190_76 rfl rfl).trans ((w_imul t190_78 rfl).trans ((w_iadd t190_79 rfl).trans ((w_iconst t190_80 rfl).trans ((w_iadd t190_81 rfl).trans ((w_iald t190_82 rfl rfl).trans (congrArg (And _) (w_goto t190_83 rfl)))))))))))))
set_option maxRecDepth 10000 in
theorem b190_86 {d : Nat} {r0 : Nat} {l1 : Option sm_V} {l2 : Option sm_V} {l3 : Option sm_V} {l4 : Option sm_V} {l5 : Option sm_V} {x6 : Int} {s0 : Int} {Z : Nat → Nat → Int} {Rf : Nat → Nat → Option Nat} {K : Nat → Nat × Nat} {n z : Nat} {Q : Option sm_V → sm_S → Prop} : sm_wp d 190 86 [some (.inr (some r0)), l1, l2, l3, l4, l5, some (.inl x6)] [.inl s0] (Z, Rf, K, n, z) Q = ((K r0).1 = 11 ∧ (Rf r0 0).isSome = true ∧ sm_rd (K (((Rf r0 0).getD 0))) (wr ((1900 + (3 * x6)) + 2)) ∧ sm_wp d 190 104 [some (.inr (some r0)), l1, l2, l3, l4, l5, some (.inl x6)] [.inl (10 - (Z (((Rf r0 0).getD 0)) ((wr ((1900 + (3 * x6)) + 2)).toNat))), .inl s0] (Z, Rf, K, n, z) Q) := (w_bipush t190_86 rfl).trans ((w_aload_n t190_88 rfl rfl).trans ((w_getR t190_89 rfl (by decide)).trans (congrArg (And _) (congrArg (And _) ((w_sipush t190_92 rfl).trans ((w_iconst t190_95 rfl).trans ((w_iload t190_96 rfl rfl).trans ((w_imul t190_98 rfl).trans ((w_iadd t190_99 rfl).trans ((w_iconst t190_100 rfl).trans ((w_iadd t190_101 rfl).trans ((w_iald t190_102 rfl rfl).trans (congrArg (And _) (w_isub t190_103 rfl))))))))))))))
set_option maxRecDepth 10000 in
theorem b190_104 {d : Nat} {l0 : Option sm_V} {l1 : Option sm_V} {l2 : Option sm_V} {l3 : Option sm_V} {l4 : Option sm_V} {l5 : Option sm_V} {x6 : Int} {s0 : Int} {s1 : Int} {Z : Nat → Nat → Int} {Rf : Nat → Nat → Option Nat} {K : Nat → Nat × Nat} {n z : Nat} {Q : Option sm_V → sm_S → Prop} : sm_wp d 190 104 [l0, l1, l2, l3, l4, l5, some (.inl x6)] [.inl s1, .inl s0] (Z, Rf, K, n, z) Q = (sm_wp d 190 43 [l0, l1, l2, l3, l4, some (.inl (s0 * s1)), some (.inl (x6 + 1))] [] (Z, Rf, K, n, z) Q) := (w_imul t190_104 rfl).trans ((w_istore t190_105 rfl (Nat.le_of_ble_eq_true rfl) rfl).trans ((w_iinc t190_107 rfl rfl (Nat.le_of_ble_eq_true rfl) rfl).trans (w_goto t190_110 rfl)))
set_option maxRecDepth 10000 in
theorem b190_113 {d : Nat} {l0 : Option sm_V} {l1 : Option sm_V} {l2 : Option sm_V} {l3 : Option sm_V} {l4 : Option sm_V} {x5 : Int} {l6 : Option sm_V} {Z : Nat → Nat → Int} {Rf : Nat → Nat → Option Nat} {K : Nat → Nat × Nat} {n z : Nat} {Q : Option sm_V → sm_S → Prop} : sm_wp d 190 113 [l0, l1, l2, l3, l4, some (.inl x5), l6] [] (Z, Rf, K, n, z) Q = (if wr x5 = 0 then sm_wp d 190 118 [l0, l1, l2, l3, l4, some (.inl x5), l6] [] (Z, Rf, K, n, z) Q else sm_wp d 190 121 [l0, l1, l2, l3, l4, some (.inl x5), l6] [] (Z, Rf, K, n, z) Q) := (w_iload t190_113 rfl rfl).trans (w_ifne t190_115 rfl rfl rfl)
set_option maxRecDepth 10000 in
theorem b190_118 {d : Nat} {l0 : Option sm_V} {l1 : Option sm_V} {l2 : Option sm_V} {l3 : Option sm_V} {l4 : Option sm_V} {l5 : Option sm_V} {l6 : Option sm_V} {Z : Nat → Nat → Int} {Rf : Nat → Nat → Option Nat} {K : Nat → Nat × Nat} {n z : Nat} {Q : Option sm_V → sm_S → Prop} : sm_wp d 190 118 [l0, l1, l2, l3, l4, l5, l6] [] (Z, Rf, K, n, z) Q = (sm_wp d 190 151 [l0, l1, l2, l3, l4, l5, l6] [] (Z, Rf, K, n, z) Q) := w_goto t190_118 rfl
set_option maxRecDepth 10000 in
theorem b190_121 {d : Nat} {r0 : Nat} {l1 : Option sm_V} {l2 : Option sm_V} {l3 : Option sm_V} {x4 : Int} {l5 : Option sm_V} {l6 : Option sm_V} {Z : Nat → Nat → Int} {Rf : Nat → Nat → Option Nat} {K : Nat → Nat × Nat} {n z : Nat} {Q : Option sm_V → sm_S → Prop} : sm_wp (d + 1) 190 121 [some (.inr (some r0)), l1, l2, l3, some (.inl x4), l5, l6] [] (Z, Rf, K, n, z) Q = ((K r0).1 = 11 ∧ sm_call d 189 [.inr (some r0), .inl x4] (Z, Rf, K, n, z) (sm_cont (d + 1) 190 127 [some (.inr (some r0)), l1, l2, l3, some (.inl x4), l5, l6] [] Q)) := (w_aload_n t190_121 rfl rfl).trans ((w_iload t190_122 rfl rfl).trans (w_callV t190_124 rfl rfl rfl rfl (Nat.le_of_ble_eq_true rfl) (Nat.le_of_ble_eq_true rfl) rfl (by decide)))
set_option maxRecDepth 10000 in
theorem b190_127 {d : Nat} {r0 : Nat} {x1 : Int} {x2 : Int} {x3 : Int} {l4 : Option sm_V} {l5 : Option sm_V} {l6 : Option sm_V} {Z : Nat → Nat → Int} {Rf : Nat → Nat → Option Nat} {K : Nat → Nat × Nat} {n z : Nat} {Q : Option sm_V → sm_S → Prop} : sm_wp d 190 127 [some (.inr (some r0)), some (.inl x1), some (.inl x2), some (.inl x3), l4, l5, l6] [] (Z, Rf, K, n, z) Q = ((K r0).1 = 11 ∧ (Rf r0 28).isSome = true ∧ sm_rd (K (((Rf r0 28).getD 0))) (wr x1) ∧ (K r0).1 = 11 ∧ (Rf r0 28).isSome = true ∧ sm_rd (K (((Rf r0 28).getD 0))) (wr x2) ∧ (if wr (Z (((Rf r0 28).getD 0)) ((wr x1).toNat)) = wr (Z (((Rf r0 28).getD 0)) ((wr x2).toNat)) then sm_wp d 190 143 [some (.inr (some r0)), some (.inl x1), some (.inl x2), some (.inl x3), l4, l5, l6] [.inl x3] (Z, Rf, K, n, z) Q else sm_wp d 190 148 [some (.inr (some r0)), some (.inl x1), some (.inl x2), some (.inl x3), l4, l5, l6] [.inl x3] (Z, Rf, K, n, z) Q)) := (w_iload_n t190_127 rfl rfl).trans ((w_aload_n t190_128 rfl rfl).trans ((w_getR t190_129 rfl (by decide)).trans (congrArg (And _) (congrArg (And _) ((w_iload_n t190_132 rfl rfl).trans ((w_iald t190_133 rfl rfl).trans (congrArg (And _) ((w_aload_n t190_134 rfl rfl).trans ((w_getR t190_135 rfl (by decide)).trans (congrArg (And _) (congrArg (And _) ((w_iload_n t190_138 rfl rfl).trans ((w_iald t190_139 rfl rfl).trans (congrArg (And _) (w_icne t190_140 rfl rfl rfl rfl)))))))))))))))
set_option maxRecDepth 10000 in
theorem b190_143 {d : Nat} {l0 : Option sm_V} {l1 : Option sm_V} {l2 : Option sm_V} {l3 : Option sm_V} {l4 : Option sm_V} {x5 : Int} {l6 : Option sm_V} {s0 : Int} {Z : Nat → Nat → Int} {Rf : Nat → Nat → Option Nat} {K : Nat → Nat × Nat} {n z : Nat} {Q : Option sm_V → sm_S → Prop} : sm_wp d 190 143 [l0, l1, l2, l3, l4, some (.inl x5), l6] [.inl s0] (Z, Rf, K, n, z) Q = (sm_wp d 190 149 [l0, l1, l2, l3, l4, some (.inl x5), l6] [.inl x5, .inl s0] (Z, Rf, K, n, z) Q) := (w_iload t190_143 rfl rfl).trans (w_goto t190_145 rfl)
set_option maxRecDepth 10000 in
theorem b190_148 {d : Nat} {l0 : Option sm_V} {l1 : Option sm_V} {l2 : Option sm_V} {l3 : Option sm_V} {l4 : Option sm_V} {l5 : Option sm_V} {l6 : Option sm_V} {s0 : Int} {Z : Nat → Nat → Int} {Rf : Nat → Nat → Option Nat} {K : Nat → Nat × Nat} {n z : Nat} {Q : Option sm_V → sm_S → Prop} : sm_wp d 190 148 [l0, l1, l2, l3, l4, l5, l6] [.inl s0] (Z, Rf, K, n, z) Q = (sm_wp d 190 149 [l0, l1, l2, l3, l4, l5, l6] [.inl 0, .inl s0] (Z, Rf, K, n, z) Q) := w_iconst t190_148 rfl
set_option maxRecDepth 10000 in
theorem b190_149 {d : Nat} {l0 : Option sm_V} {l1 : Option sm_V} {l2 : Option sm_V} {l3 : Option sm_V} {l4 : Option sm_V} {l5 : Option sm_V} {l6 : Option sm_V} {s0 : Int} {s1 : Int} {Z : Nat → Nat → Int} {Rf : Nat → Nat → Option Nat} {K : Nat → Nat × Nat} {n z : Nat} {Q : Option sm_V → sm_S → Prop} : sm_wp d 190 149 [l0, l1, l2, l3, l4, l5, l6] [.inl s1, .inl s0] (Z, Rf, K, n, z) Q = (sm_wp d 190 151 [l0, l1, l2, some (.inl (s0 + s1)), l4, l5, l6] [] (Z, Rf, K, n, z) Q) := (w_iadd t190_149 rfl).trans (w_istore_n t190_150 rfl (Nat.le_of_ble_eq_true rfl) rfl)
set_option maxRecDepth 10000 in
theorem b190_151 {d : Nat} {l0 : Option sm_V} {l1 : Option sm_V} {l2 : Option sm_V} {l3 : Option sm_V} {x4 : Int} {l5 : Option sm_V} {l6 : Option sm_V} {Z : Nat → Nat → Int} {Rf : Nat → Nat → Option Nat} {K : Nat → Nat × Nat} {n z : Nat} {Q : Option sm_V → sm_S → Prop} : sm_wp d 190 151 [l0, l1, l2, l3, some (.inl x4), l5, l6] [] (Z, Rf, K, n, z) Q = (sm_wp d 190 23 [l0, l1, l2, l3, some (.inl (x4 + 1)), l5, l6] [] (Z, Rf, K, n, z) Q) := (w_iinc t190_151 rfl rfl (Nat.le_of_ble_eq_true rfl) rfl).trans (w_goto t190_154 rfl)
set_option maxRecDepth 10000 in
theorem b190_157 {d : Nat} {l0 : Option sm_V} {l1 : Option sm_V} {l2 : Option sm_V} {x3 : Int} {l4 : Option sm_V} {l5 : Option sm_V} {l6 : Option sm_V} {Z : Nat → Nat → Int} {Rf : Nat → Nat → Option Nat} {K : Nat → Nat × Nat} {n z : Nat} {Q : Option sm_V → sm_S → Prop} : sm_wp d 190 157 [l0, l1, l2, some (.inl x3), l4, l5, l6] [] (Z, Rf, K, n, z) Q = (Q (some (.inl x3)) (Z, Rf, K, n, z)) := (w_iload_n t190_157 rfl rfl).trans (w_iret t190_158)
theorem t191_0 : sm_at 191 0 = some (1, .aload_n 0, 0, 0, 0) := rfl
theorem t191_1 : sm_at 191 1 = some (1, .iload_n 1, 0, 0, 0) := rfl
theorem t191_2 : sm_at 191 2 = some (3, .invokevirtual 85, 122, 2, 0) := rfl
theorem t191_5 : sm_at 191 5 = some (3, .ifCond .eq 28, 0, 0, 0) := rfl
theorem t191_8 : sm_at 191 8 = some (1, .aload_n 0, 0, 0, 0) := rfl
theorem t191_9 : sm_at 191 9 = some (1, .iload_n 2, 0, 0, 0) := rfl
theorem t191_10 : sm_at 191 10 = some (3, .invokevirtual 85, 122, 2, 0) := rfl
theorem t191_13 : sm_at 191 13 = some (3, .ifCond .eq 20, 0, 0, 0) := rfl
theorem t191_16 : sm_at 191 16 = some (1, .iload_n 1, 0, 0, 0) := rfl
theorem t191_17 : sm_at 191 17 = some (1, .iload_n 2, 0, 0, 0) := rfl
theorem t191_18 : sm_at 191 18 = some (3, .if_icmp .eq 15, 0, 0, 0) := rfl
theorem t191_21 : sm_at 191 21 = some (1, .aload_n 0, 0, 0, 0) := rfl
theorem t191_22 : sm_at 191 22 = some (3, .getfield 7, 11, 0, 0) := rfl
theorem t191_25 : sm_at 191 25 = some (2, .bipush 8, 0, 0, 0) := rfl
theorem t191_27 : sm_at 191 27 = some (1, .iaload, 0, 0, 0) := rfl
theorem t191_28 : sm_at 191 28 = some (2, .bipush 20, 0, 0, 0) := rfl
theorem t191_30 : sm_at 191 30 = some (3, .if_icmp .ne 5, 0, 0, 0) := rfl
theorem t191_33 : sm_at 191 33 = some (1, .iconst 0, 0, 0, 0) := rfl
theorem t191_34 : sm_at 191 34 = some (1, .ireturn, 1, 0, 0) := rfl
theorem t191_35 : sm_at 191 35 = some (3, .sipush 1920, 0, 0, 0) := rfl
theorem t191_38 : sm_at 191 38 = some (1, .iconst 3, 0, 0, 0) := rfl
theorem t191_39 : sm_at 191 39 = some (1, .aload_n 0, 0, 0, 0) := rfl
theorem t191_40 : sm_at 191 40 = some (3, .getfield 7, 11, 0, 0) := rfl
theorem t191_43 : sm_at 191 43 = some (2, .bipush 8, 0, 0, 0) := rfl
theorem t191_45 : sm_at 191 45 = some (1, .iaload, 0, 0, 0) := rfl
theorem t191_46 : sm_at 191 46 = some (1, .imul, 0, 0, 0) := rfl
theorem t191_47 : sm_at 191 47 = some (1, .iadd, 0, 0, 0) := rfl
theorem t191_48 : sm_at 191 48 = some (2, .istore 4, 0, 0, 0) := rfl
theorem t191_50 : sm_at 191 50 = some (1, .aload_n 0, 0, 0, 0) := rfl
theorem t191_51 : sm_at 191 51 = some (3, .getfield 7, 11, 0, 0) := rfl
theorem t191_54 : sm_at 191 54 = some (2, .iload 4, 0, 0, 0) := rfl
theorem t191_56 : sm_at 191 56 = some (1, .iload_n 1, 0, 0, 0) := rfl
theorem t191_57 : sm_at 191 57 = some (1, .iastore, 0, 0, 0) := rfl
theorem t191_58 : sm_at 191 58 = some (1, .aload_n 0, 0, 0, 0) := rfl
theorem t191_59 : sm_at 191 59 = some (3, .getfield 7, 11, 0, 0) := rfl
theorem t191_62 : sm_at 191 62 = some (2, .iload 4, 0, 0, 0) := rfl
theorem t191_64 : sm_at 191 64 = some (1, .iconst 1, 0, 0, 0) := rfl
theorem t191_65 : sm_at 191 65 = some (1, .iadd, 0, 0, 0) := rfl
theorem t191_66 : sm_at 191 66 = some (1, .iload_n 2, 0, 0, 0) := rfl
theorem t191_67 : sm_at 191 67 = some (1, .iastore, 0, 0, 0) := rfl
theorem t191_68 : sm_at 191 68 = some (1, .aload_n 0, 0, 0, 0) := rfl
theorem t191_69 : sm_at 191 69 = some (3, .getfield 7, 11, 0, 0) := rfl
theorem t191_72 : sm_at 191 72 = some (2, .iload 4, 0, 0, 0) := rfl
theorem t191_74 : sm_at 191 74 = some (1, .iconst 2, 0, 0, 0) := rfl
theorem t191_75 : sm_at 191 75 = some (1, .iadd, 0, 0, 0) := rfl
theorem t191_76 : sm_at 191 76 = some (1, .iload_n 3, 0, 0, 0) := rfl
theorem t191_77 : sm_at 191 77 = some (3, .ifCond .eq 7, 0, 0, 0) := rfl
theorem t191_80 : sm_at 191 80 = some (1, .iconst 1, 0, 0, 0) := rfl
theorem t191_81 : sm_at 191 81 = some (3, .goto 4, 0, 0, 0) := rfl
theorem t191_84 : sm_at 191 84 = some (1, .iconst 0, 0, 0, 0) := rfl
theorem t191_85 : sm_at 191 85 = some (1, .iastore, 0, 0, 0) := rfl
theorem t191_86 : sm_at 191 86 = some (1, .aload_n 0, 0, 0, 0) := rfl
theorem t191_87 : sm_at 191 87 = some (3, .getfield 7, 11, 0, 0) := rfl
theorem t191_90 : sm_at 191 90 = some (2, .bipush 8, 0, 0, 0) := rfl
theorem t191_92 : sm_at 191 92 = some (1, .dup2, 0, 0, 0) := rfl
theorem t191_93 : sm_at 191 93 = some (1, .iaload, 0, 0, 0) := rfl
theorem t191_94 : sm_at 191 94 = some (1, .iconst 1, 0, 0, 0) := rfl
theorem t191_95 : sm_at 191 95 = some (1, .iadd, 0, 0, 0) := rfl
theorem t191_96 : sm_at 191 96 = some (1, .iastore, 0, 0, 0) := rfl
theorem t191_97 : sm_at 191 97 = some (1, .iconst 1, 0, 0, 0) := rfl
set_option maxRecDepth 100000 in
theorem t191_98 : sm_at 191 98 = some (1, .ireturn, 1, 0, 0) := rfl
set_option maxRecDepth 10000 in
theorem b191_0 {d : Nat} {r0 : Nat} {x1 : Int} {l2 : Option sm_V} {l3 : Option sm_V} {l4 : Option sm_V} {Z : Nat → Nat → Int} {Rf : Nat → Nat → Option Nat} {K : Nat → Nat × Nat} {n z : Nat} {Q : Option sm_V → sm_S → Prop} : sm_wp (d + 1) 191 0 [some (.inr (some r0)), some (.inl x1), l2, l3, l4] [] (Z, Rf, K, n, z) Q = ((K r0).1 = 11 ∧ sm_call d 122 [.inr (some r0), .inl x1] (Z, Rf, K, n, z) (sm_cont (d + 1) 191 5 [some (.inr (some r0)), some (.inl x1), l2, l3, l4] [] Q)) := (w_aload_n t191_0 rfl rfl).trans ((w_iload_n t191_1 rfl rfl).trans (w_callV t191_2 rfl rfl rfl rfl (Nat.le_of_ble_eq_true rfl) (Nat.le_of_ble_eq_true rfl) rfl (by decide)))
set_option maxRecDepth 10000 in
theorem b191_5 {d : Nat} {l0 : Option sm_V} {l1 : Option sm_V} {l2 : Option sm_V} {l3 : Option sm_V} {l4 : Option sm_V} {s0 : Int} {Z : Nat → Nat → Int} {Rf : Nat → Nat → Option Nat} {K : Nat → Nat × Nat} {n z : Nat} {Q : Option sm_V → sm_S → Prop} : sm_wp d 191 5 [l0, l1, l2, l3, l4] [.inl s0] (Z, Rf, K, n, z) Q = (if wr s0 = 0 then sm_wp d 191 33 [l0, l1, l2, l3, l4] [] (Z, Rf, K, n, z) Q else sm_wp d 191 8 [l0, l1, l2, l3, l4] [] (Z, Rf, K, n, z) Q) := w_ifeq t191_5 rfl rfl rfl
set_option maxRecDepth 10000 in
theorem b191_8 {d : Nat} {r0 : Nat} {l1 : Option sm_V} {x2 : Int} {l3 : Option sm_V} {l4 : Option sm_V} {Z : Nat → Nat → Int} {Rf : Nat → Nat → Option Nat} {K : Nat → Nat × Nat} {n z : Nat} {Q : Option sm_V → sm_S → Prop} : sm_wp (d + 1) 191 8 [some (.inr (some r0)), l1, some (.inl x2), l3, l4] [] (Z, Rf, K, n, z) Q = ((K r0).1 = 11 ∧ sm_call d 122 [.inr (some r0), .inl x2] (Z, Rf, K, n, z) (sm_cont (d + 1) 191 13 [some (.inr (some r0)), l1, some (.inl x2), l3, l4] [] Q)) := (w_aload_n t191_8 rfl rfl).trans ((w_iload_n t191_9 rfl rfl).trans (w_callV t191_10 rfl rfl rfl rfl (Nat.le_of_ble_eq_true rfl) (Nat.le_of_ble_eq_true rfl) rfl (by decide)))
set_option maxRecDepth 10000 in
theorem b191_13 {d : Nat} {l0 : Option sm_V} {l1 : Option sm_V} {l2 : Option sm_V} {l3 : Option sm_V} {l4 : Option sm_V} {s0 : Int} {Z : Nat → Nat → Int} {Rf : Nat → Nat → Option Nat} {K : Nat → Nat × Nat} {n z : Nat} {Q : Option sm_V → sm_S → Prop} : sm_wp d 191 13 [l0, l1, l2, l3, l4] [.inl s0] (Z, Rf, K, n, z) Q = (if wr s0 = 0 then sm_wp d 191 33 [l0, l1, l2, l3, l4] [] (Z, Rf, K, n, z) Q else sm_wp d 191 16 [l0, l1, l2, l3, l4] [] (Z, Rf, K, n, z) Q) := w_ifeq t191_13 rfl rfl rfl
set_option maxRecDepth 10000 in
theorem b191_16 {d : Nat} {l0 : Option sm_V} {x1 : Int} {x2 : Int} {l3 : Option sm_V} {l4 : Option sm_V} {Z : Nat → Nat → Int} {Rf : Nat → Nat → Option Nat} {K : Nat → Nat × Nat} {n z : Nat} {Q : Option sm_V → sm_S → Prop} : sm_wp d 191 16 [l0, some (.inl x1), some (.inl x2), l3, l4] [] (Z, Rf, K, n, z) Q = (if wr x1 = wr x2 then sm_wp d 191 33 [l0, some (.inl x1), some (.inl x2), l3, l4] [] (Z, Rf, K, n, z) Q else sm_wp d 191 21 [l0, some (.inl x1), some (.inl x2), l3, l4] [] (Z, Rf, K, n, z) Q) := (w_iload_n t191_16 rfl rfl).trans ((w_iload_n t191_17 rfl rfl).trans (w_iceq t191_18 rfl rfl rfl rfl))
set_option maxRecDepth 10000 in
theorem b191_21 {d : Nat} {r0 : Nat} {l1 : Option sm_V} {l2 : Option sm_V} {l3 : Option sm_V} {l4 : Option sm_V} {Z : Nat → Nat → Int} {Rf : Nat → Nat → Option Nat} {K : Nat → Nat × Nat} {n z : Nat} {Q : Option sm_V → sm_S → Prop} : sm_wp d 191 21 [some (.inr (some r0)), l1, l2, l3, l4] [] (Z, Rf, K, n, z) Q = ((K r0).1 = 11 ∧ (Rf r0 0).isSome = true ∧ sm_rd (K (((Rf r0 0).getD 0))) ((8 : Int)) ∧ (if wr (Z (((Rf r0 0).getD 0)) 8) = (20 : Int) then sm_wp d 191 33 [some (.inr (some r0)), l1, l2, l3, l4] [] (Z, Rf, K, n, z) Q else sm_wp d 191 35 [some (.inr (some r0)), l1, l2, l3, l4] [] (Z, Rf, K, n, z) Q)) := (w_aload_n t191_21 rfl rfl).trans ((w_getR t191_22 rfl (by decide)).trans (congrArg (And _) (congrArg (And _) ((w_bipush t191_25 rfl).trans ((w_iald t191_27 rfl wl_8).trans (congrArg (And _) ((w_bipush t191_28 rfl).trans (w_icne t191_30 rfl wl_20 rfl rfl))))))))
set_option maxRecDepth 10000 in
theorem b191_33 {d : Nat} {l0 : Option sm_V} {l1 : Option sm_V} {l2 : Option sm_V} {l3 : Option sm_V} {l4 : Option sm_V} {Z : Nat → Nat → Int} {Rf : Nat → Nat → Option Nat} {K : Nat → Nat × Nat} {n z : Nat} {Q : Option sm_V → sm_S → Prop} : sm_wp d 191 33 [l0, l1, l2, l3, l4] [] (Z, Rf, K, n, z) Q = (((0 : Int) = 0 ∨ (0 : Int) = 1) ∧ Q (some (.inl 0)) (Z, Rf, K, n, z)) := (w_iconst t191_33 rfl).trans (w_zret t191_34 wl_0)
set_option maxRecDepth 10000 in
theorem b191_35 {d : Nat} {r0 : Nat} {x1 : Int} {x2 : Int} {x3 : Int} {l4 : Option sm_V} {Z : Nat → Nat → Int} {Rf : Nat → Nat → Option Nat} {K : Nat → Nat × Nat} {n z : Nat} {Q : Option sm_V → sm_S → Prop} : sm_wp d 191 35 [some (.inr (some r0)), some (.inl x1), some (.inl x2), some (.inl x3), l4] [] (Z, Rf, K, n, z) Q = ((K r0).1 = 11 ∧ (Rf r0 0).isSome = true ∧ sm_rd (K (((Rf r0 0).getD 0))) ((8 : Int)) ∧ (K r0).1 = 11 ∧ (Rf r0 0).isSome = true ∧ sm_wt (K (((Rf r0 0).getD 0))) (wr (1920 + (3 * (Z (((Rf r0 0).getD 0)) 8)))) ∧ (K r0).1 = 11 ∧ (Rf r0 0).isSome = true ∧ sm_wt (K (((Rf r0 0).getD 0))) (wr ((1920 + (3 * (Z (((Rf r0 0).getD 0)) 8))) + 1)) ∧ (K r0).1 = 11 ∧ (Rf r0 0).isSome = true ∧ (if wr x3 = 0 then sm_wp d 191 84 [some (.inr (some r0)), some (.inl x1), some (.inl x2), some (.inl x3), some (.inl (1920 + (3 * (Z (((Rf r0 0).getD 0)) 8))))] [.inl ((1920 + (3 * (Z (((Rf r0 0).getD 0)) 8))) + 2), .inr (some ((Rf r0 0).getD 0))] (sm_u (sm_u Z (((Rf r0 0).getD 0)) ((wr (1920 + (3 * (Z (((Rf r0 0).getD 0)) 8)))).toNat) x1) (((Rf r0 0).getD 0)) ((wr ((1920 + (3 * (Z (((Rf r0 0).getD 0)) 8))) + 1)).toNat) x2, Rf, K, n, z) Q else sm_wp d 191 80 [some (.inr (some r0)), some (.inl x1), some (.inl x2), some (.inl x3), some (.inl (1920 + (3 * (Z (((Rf r0 0).getD 0)) 8))))] [.inl ((1920 + (3 * (Z (((Rf r0 0).getD 0)) 8))) + 2), .inr (some ((Rf r0 0).getD 0))] (sm_u (sm_u Z (((Rf r0 0).getD 0)) ((wr (1920 + (3 * (Z (((Rf r0 0).getD 0)) 8)))).toNat) x1) (((Rf r0 0).getD 0)) ((wr ((1920 + (3 * (Z (((Rf r0 0).getD 0)) 8))) + 1)).toNat) x2, Rf, K, n, z) Q)) := (w_sipush t191_35 rfl).trans ((w_iconst t191_38 rfl).trans ((w_aload_n t191_39 rfl rfl).trans ((w_getR t191_40 rfl (by decide)).trans (congrArg (And _) (congrArg (And _) ((w_bipush t191_43 rfl).trans ((w_iald t191_45 rfl wl_8).trans (congrArg (And _) ((w_imul t191_46 rfl).trans ((w_iadd t191_47 rfl).trans ((w_istore t191_48 rfl (Nat.le_of_ble_eq_true rfl) rfl).trans ((w_aload_n t191_50 rfl rfl).trans ((w_getR t191_51 rfl (by decide)).trans (congrArg (And _) (congrArg (And _) ((w_iload t191_54 rfl rfl).trans ((w_iload_n t191_56 rfl rfl).trans ((w_iast t191_57 rfl rfl).trans (congrArg (And _) ((w_aload_n t191_58 rfl rfl).trans ((w_getR t191_59 rfl (by decide)).trans (congrArg (And _) (congrArg (And _) ((w_iload t191_62 rfl rfl).trans ((w_iconst t191_64 rfl).trans ((w_iadd t191_65 rfl).trans ((w_iload_n t191_66 rfl rfl).trans ((w_iast t191_67 rfl rfl).trans (congrArg (And _) ((w_aload_n t191_68 rfl rfl).trans ((w_getR t191_69 rfl (by decide)).trans (congrArg (And _) (congrArg (And _) ((w_iload t191_72 rfl rfl).trans ((w_iconst t191_74 rfl).trans ((w_iadd t191_75 rfl).trans ((w_iload_n t191_76 rfl rfl).trans (w_ifeq t191_77 rfl rfl rfl))))))))))))))))))))))))))))))))))))))
set_option maxRecDepth 10000 in
theorem b191_80 {d : Nat} {l0 : Option sm_V} {l1 : Option sm_V} {l2 : Option sm_V} {l3 : Option sm_V} {l4 : Option sm_V} {qs0 : Option Nat} {s1 : Int} {Z : Nat → Nat → Int} {Rf : Nat → Nat → Option Nat} {K : Nat → Nat × Nat} {n z : Nat} {Q : Option sm_V → sm_S → Prop} : sm_wp d 191 80 [l0, l1, l2, l3, l4] [.inl s1, .inr qs0] (Z, Rf, K, n, z) Q = (sm_wp d 191 85 [l0, l1, l2, l3, l4] [.inl 1, .inl s1, .inr qs0] (Z, Rf, K, n, z) Q) := (w_iconst t191_80 rfl).trans (w_goto t191_81 rfl)
set_option maxRecDepth 10000 in
theorem b191_84 {d : Nat} {l0 : Option sm_V} {l1 : Option sm_V} {l2 : Option sm_V} {l3 : Option sm_V} {l4 : Option sm_V} {qs0 : Option Nat} {s1 : Int} {Z : Nat → Nat → Int} {Rf : Nat → Nat → Option Nat} {K : Nat → Nat × Nat} {n z : Nat} {Q : Option sm_V → sm_S → Prop} : sm_wp d 191 84 [l0, l1, l2, l3, l4] [.inl s1, .inr qs0] (Z, Rf, K, n, z) Q = (sm_wp d 191 85 [l0, l1, l2, l3, l4] [.inl 0, .inl s1, .inr qs0] (Z, Rf, K, n, z) Q) := w_iconst t191_84 rfl
set_option maxRecDepth 10000 in
theorem b191_85 {d : Nat} {r0 : Nat} {l1 : Option sm_V} {l2 : Option sm_V} {l3 : Option sm_V} {l4 : Option sm_V} {rs0 : Nat} {s1 : Int} {s2 : Int} {Z : Nat → Nat → Int} {Rf : Nat → Nat → Option Nat} {K : Nat → Nat × Nat} {n z : Nat} {Q : Option sm_V → sm_S → Prop} : sm_wp d 191 85 [some (.inr (some r0)), l1, l2, l3, l4] [.inl s2, .inl s1, .inr (some rs0)] (Z, Rf, K, n, z) Q = (sm_wt (K rs0) (wr s1) ∧ (K r0).1 = 11 ∧ (Rf r0 0).isSome = true ∧ sm_rd (K (((Rf r0 0).getD 0))) ((8 : Int)) ∧ sm_wt (K (((Rf r0 0).getD 0))) ((8 : Int)) ∧ ((1 : Int) = 0 ∨ (1 : Int) = 1) ∧ Q (some (.inl 1)) (sm_u (sm_u Z rs0 ((wr s1).toNat) s2) (((Rf r0 0).getD 0)) 8 (((sm_u Z rs0 ((wr s1).toNat) s2) (((Rf r0 0).getD 0)) 8) + 1), Rf, K, n, z)) := (w_iast t191_85 rfl rfl).trans (congrArg (And _) ((w_aload_n t191_86 rfl rfl).trans ((w_getR t191_87 rfl (by decide)).trans (congrArg (And _) (congrArg (And _) ((w_bipush t191_90 rfl).trans ((w_dup2 t191_92 rfl).trans ((w_iald t191_93 rfl wl_8).trans (congrArg (And _) ((w_iconst t191_94 rfl).trans ((w_iadd t191_95 rfl).trans ((w_iast t191_96 rfl wl_8).trans (congrArg (And _) ((w_iconst t191_97 rfl).trans (w_zret t191_98 wl_1)))))))))))))))
theorem t192_0 : sm_at 192 0 = some (1, .iload_n 1, 0, 0, 0) := rfl
theorem t192_1 : sm_at 192 1 = some (1, .iconst 0, 0, 0, 0) := rfl
theorem t192_2 : sm_at 192 2 = some (1, .iconst 2, 0, 0, 0) := rfl
theorem t192_3 : sm_at 192 3 = some (3, .invokestatic 75, 120, 3, 0) := rfl
theorem t192_6 : sm_at 192 6 = some (3, .ifCond .ne 5, 0, 0, 0) := rfl
theorem t192_9 : sm_at 192 9 = some (1, .iconst (-1), 0, 0, 0) := rfl
theorem t192_10 : sm_at 192 10 = some (1, .ireturn, 0, 0, 0) := rfl
theorem t192_11 : sm_at 192 11 = some (1, .iconst 0, 0, 0, 0) := rfl
theorem t192_12 : sm_at 192 12 = some (1, .istore_n 2, 0, 0, 0) := rfl
theorem t192_13 : sm_at 192 13 = some (1, .iconst 0, 0, 0, 0) := rfl
theorem t192_14 : sm_at 192 14 = some (1, .istore_n 3, 0, 0, 0) := rfl
theorem t192_15 : sm_at 192 15 = some (1, .iconst (-1), 0, 0, 0) := rfl
theorem t192_16 : sm_at 192 16 = some (2, .istore 4, 0, 0, 0) := rfl
theorem t192_18 : sm_at 192 18 = some (1, .iconst 0, 0, 0, 0) := rfl
theorem t192_19 : sm_at 192 19 = some (2, .istore 5, 0, 0, 0) := rfl
theorem t192_21 : sm_at 192 21 = some (2, .iload 5, 0, 0, 0) := rfl
theorem t192_23 : sm_at 192 23 = some (1, .iconst 1, 0, 0, 0) := rfl
theorem t192_24 : sm_at 192 24 = some (1, .aload_n 0, 0, 0, 0) := rfl
theorem t192_25 : sm_at 192 25 = some (3, .getfield 7, 11, 0, 0) := rfl
theorem t192_28 : sm_at 192 28 = some (2, .bipush 7, 0, 0, 0) := rfl
theorem t192_30 : sm_at 192 30 = some (1, .iaload, 0, 0, 0) := rfl
theorem t192_31 : sm_at 192 31 = some (1, .ishl, 0, 0, 0) := rfl
theorem t192_32 : sm_at 192 32 = some (3, .if_icmp .ge 154, 0, 0, 0) := rfl
theorem t192_35 : sm_at 192 35 = some (1, .aload_n 0, 0, 0, 0) := rfl
theorem t192_36 : sm_at 192 36 = some (2, .iload 5, 0, 0, 0) := rfl
theorem t192_38 : sm_at 192 38 = some (3, .invokevirtual 327, 189, 2, 0) := rfl
theorem t192_41 : sm_at 192 41 = some (1, .iconst 1, 0, 0, 0) := rfl
theorem t192_42 : sm_at 192 42 = some (2, .istore 6, 0, 0, 0) := rfl
theorem t192_44 : sm_at 192 44 = some (1, .iconst 0, 0, 0, 0) := rfl
theorem t192_45 : sm_at 192 45 = some (2, .istore 7, 0, 0, 0) := rfl
theorem t192_47 : sm_at 192 47 = some (2, .iload 7, 0, 0, 0) := rfl
theorem t192_49 : sm_at 192 49 = some (1, .aload_n 0, 0, 0, 0) := rfl
theorem t192_50 : sm_at 192 50 = some (3, .getfield 7, 11, 0, 0) := rfl
theorem t192_53 : sm_at 192 53 = some (2, .bipush 8, 0, 0, 0) := rfl
theorem t192_55 : sm_at 192 55 = some (1, .iaload, 0, 0, 0) := rfl
theorem t192_56 : sm_at 192 56 = some (3, .if_icmp .ge 86, 0, 0, 0) := rfl
theorem t192_59 : sm_at 192 59 = some (3, .sipush 1920, 0, 0, 0) := rfl
theorem t192_62 : sm_at 192 62 = some (1, .iconst 3, 0, 0, 0) := rfl
theorem t192_63 : sm_at 192 63 = some (2, .iload 7, 0, 0, 0) := rfl
theorem t192_65 : sm_at 192 65 = some (1, .imul, 0, 0, 0) := rfl
theorem t192_66 : sm_at 192 66 = some (1, .iadd, 0, 0, 0) := rfl
theorem t192_67 : sm_at 192 67 = some (2, .istore 8, 0, 0, 0) := rfl
theorem t192_69 : sm_at 192 69 = some (2, .iload 6, 0, 0, 0) := rfl
theorem t192_71 : sm_at 192 71 = some (3, .ifCond .eq 62, 0, 0, 0) := rfl
theorem t192_74 : sm_at 192 74 = some (1, .aload_n 0, 0, 0, 0) := rfl
theorem t192_75 : sm_at 192 75 = some (3, .getfield 53, 11, 28, 0) := rfl
theorem t192_78 : sm_at 192 78 = some (1, .aload_n 0, 0, 0, 0) := rfl
theorem t192_79 : sm_at 192 79 = some (3, .getfield 7, 11, 0, 0) := rfl
theorem t192_82 : sm_at 192 82 = some (2, .iload 8, 0, 0, 0) := rfl
theorem t192_84 : sm_at 192 84 = some (1, .iaload, 0, 0, 0) := rfl
theorem t192_85 : sm_at 192 85 = some (1, .iaload, 0, 0, 0) := rfl
theorem t192_86 : sm_at 192 86 = some (1, .aload_n 0, 0, 0, 0) := rfl
theorem t192_87 : sm_at 192 87 = some (3, .getfield 53, 11, 28, 0) := rfl
theorem t192_90 : sm_at 192 90 = some (1, .aload_n 0, 0, 0, 0) := rfl
theorem t192_91 : sm_at 192 91 = some (3, .getfield 7, 11, 0, 0) := rfl
theorem t192_94 : sm_at 192 94 = some (2, .iload 8, 0, 0, 0) := rfl
theorem t192_96 : sm_at 192 96 = some (1, .iconst 1, 0, 0, 0) := rfl
theorem t192_97 : sm_at 192 97 = some (1, .iadd, 0, 0, 0) := rfl
theorem t192_98 : sm_at 192 98 = some (1, .iaload, 0, 0, 0) := rfl
theorem t192_99 : sm_at 192 99 = some (1, .iaload, 0, 0, 0) := rfl
set_option maxRecDepth 100000 in
theorem t192_100 : sm_at 192 100 = some (3, .if_icmp .ne 7, 0, 0, 0) := rfl
set_option maxRecDepth 100000 in
theorem t192_103 : sm_at 192 103 = some (1, .iconst 1, 0, 0, 0) := rfl
set_option maxRecDepth 100000 in
theorem t192_104 : sm_at 192 104 = some (3, .goto 4, 0, 0, 0) := rfl
set_option maxRecDepth 100000 in
theorem t192_107 : sm_at 192 107 = some (1, .iconst 0, 0, 0, 0) := rfl
set_option maxRecDepth 100000 in
theorem t192_108 : sm_at 192 108 = some (1, .aload_n 0, 0, 0, 0) := rfl
set_option maxRecDepth 100000 in
theorem t192_109 : sm_at 192 109 = some (3, .getfield 7, 11, 0, 0) := rfl
set_option maxRecDepth 100000 in
theorem t192_112 : sm_at 192 112 = some (2, .iload 8, 0, 0, 0) := rfl
set_option maxRecDepth 100000 in
theorem t192_114 : sm_at 192 114 = some (1, .iconst 2, 0, 0, 0) := rfl
set_option maxRecDepth 100000 in
theorem t192_115 : sm_at 192 115 = some (1, .iadd, 0, 0, 0) := rfl
set_option maxRecDepth 100000 in
theorem t192_116 : sm_at 192 116 = some (1, .iaload, 0, 0, 0) := rfl
set_option maxRecDepth 100000 in
theorem t192_117 : sm_at 192 117 = some (1, .iconst 1, 0, 0, 0) := rfl
set_option maxRecDepth 100000 in
theorem t192_118 : sm_at 192 118 = some (3, .if_icmp .ne 7, 0, 0, 0) := rfl
set_option maxRecDepth 100000 in
theorem t192_121 : sm_at 192 121 = some (1, .iconst 1, 0, 0, 0) := rfl
set_option maxRecDepth 100000 in
theorem t192_122 : sm_at 192 122 = some (3, .goto 4, 0, 0, 0) := rfl
set_option maxRecDepth 100000 in
theorem t192_125 : sm_at 192 125 = some (1, .iconst 0, 0, 0, 0) := rfl
set_option maxRecDepth 100000 in
theorem t192_126 : sm_at 192 126 = some (3, .if_icmp .ne 7, 0, 0, 0) := rfl
set_option maxRecDepth 100000 in
theorem t192_129 : sm_at 192 129 = some (1, .iconst 1, 0, 0, 0) := rfl
set_option maxRecDepth 100000 in
theorem t192_130 : sm_at 192 130 = some (3, .goto 4, 0, 0, 0) := rfl
set_option maxRecDepth 100000 in
theorem t192_133 : sm_at 192 133 = some (1, .iconst 0, 0, 0, 0) := rfl
set_option maxRecDepth 100000 in
theorem t192_134 : sm_at 192 134 = some (2, .istore 6, 0, 0, 0) := rfl
set_option maxRecDepth 100000 in
theorem t192_136 : sm_at 192 136 = some (3, .iinc 7 1, 0, 0, 0) := rfl
set_option maxRecDepth 100000 in
theorem t192_139 : sm_at 192 139 = some (3, .goto (-92), 0, 0, 0) := rfl
set_option maxRecDepth 100000 in
theorem t192_142 : sm_at 192 142 = some (2, .iload 6, 0, 0, 0) := rfl
set_option maxRecDepth 100000 in
theorem t192_144 : sm_at 192 144 = some (3, .ifCond .ne 6, 0, 0, 0) := rfl
set_option maxRecDepth 100000 in
theorem t192_147 : sm_at 192 147 = some (3, .goto 33, 0, 0, 0) := rfl
set_option maxRecDepth 100000 in
theorem t192_150 : sm_at 192 150 = some (1, .iload_n 2, 0, 0, 0) := rfl
set_option maxRecDepth 100000 in
theorem t192_151 : sm_at 192 151 = some (3, .ifCond .ne 8, 0, 0, 0) := rfl
set_option maxRecDepth 100000 in
theorem t192_154 : sm_at 192 154 = some (2, .iload 5, 0, 0, 0) := rfl
set_option maxRecDepth 100000 in
theorem t192_156 : sm_at 192 156 = some (3, .goto 7, 0, 0, 0) := rfl
set_option maxRecDepth 100000 in
theorem t192_159 : sm_at 192 159 = some (1, .iload_n 3, 0, 0, 0) := rfl
set_option maxRecDepth 100000 in
theorem t192_160 : sm_at 192 160 = some (2, .iload 5, 0, 0, 0) := rfl
set_option maxRecDepth 100000 in
theorem t192_162 : sm_at 192 162 = some (1, .iand, 0, 0, 0) := rfl
set_option maxRecDepth 100000 in
theorem t192_163 : sm_at 192 163 = some (1, .istore_n 3, 0, 0, 0) := rfl
set_option maxRecDepth 100000 in
theorem t192_164 : sm_at 192 164 = some (1, .iload_n 2, 0, 0, 0) := rfl
set_option maxRecDepth 100000 in
theorem t192_165 : sm_at 192 165 = some (3, .ifCond .ne 8, 0, 0, 0) := rfl
set_option maxRecDepth 100000 in
theorem t192_168 : sm_at 192 168 = some (2, .iload 5, 0, 0, 0) := rfl
set_option maxRecDepth 100000 in
theorem t192_170 : sm_at 192 170 = some (3, .goto 5, 0, 0, 0) := rfl
set_option maxRecDepth 100000 in
theorem t192_173 : sm_at 192 173 = some (2, .iload 4, 0, 0, 0) := rfl
set_option maxRecDepth 100000 in
theorem t192_175 : sm_at 192 175 = some (2, .istore 4, 0, 0, 0) := rfl
set_option maxRecDepth 100000 in
theorem t192_177 : sm_at 192 177 = some (3, .iinc 2 1, 0, 0, 0) := rfl
set_option maxRecDepth 100000 in
theorem t192_180 : sm_at 192 180 = some (3, .iinc 5 1, 0, 0, 0) := rfl
set_option maxRecDepth 100000 in
theorem t192_183 : sm_at 192 183 = some (3, .goto (-162), 0, 0, 0) := rfl
set_option maxRecDepth 100000 in
theorem t192_186 : sm_at 192 186 = some (1, .iload_n 1, 0, 0, 0) := rfl
set_option maxRecDepth 100000 in
theorem t192_187 : sm_at 192 187 = some (3, .ifCond .ne 7, 0, 0, 0) := rfl
set_option maxRecDepth 100000 in
theorem t192_190 : sm_at 192 190 = some (1, .iload_n 2, 0, 0, 0) := rfl
set_option maxRecDepth 100000 in
theorem t192_191 : sm_at 192 191 = some (3, .goto 14, 0, 0, 0) := rfl
set_option maxRecDepth 100000 in
theorem t192_194 : sm_at 192 194 = some (1, .iload_n 1, 0, 0, 0) := rfl
set_option maxRecDepth 100000 in
theorem t192_195 : sm_at 192 195 = some (1, .iconst 1, 0, 0, 0) := rfl
set_option maxRecDepth 100000 in
theorem t192_196 : sm_at 192 196 = some (3, .if_icmp .ne 7, 0, 0, 0) := rfl
set_option maxRecDepth 100000 in
theorem t192_199 : sm_at 192 199 = some (1, .iload_n 3, 0, 0, 0) := rfl
set_option maxRecDepth 100000 in
theorem t192_200 : sm_at 192 200 = some (3, .goto 5, 0, 0, 0) := rfl
set_option maxRecDepth 100000 in
theorem t192_203 : sm_at 192 203 = some (2, .iload 4, 0, 0, 0) := rfl
set_option maxRecDepth 100000 in
theorem t192_205 : sm_at 192 205 = some (1, .ireturn, 0, 0, 0) := rfl
set_option maxRecDepth 10000 in
theorem b192_0 {d : Nat} {l0 : Option sm_V} {x1 : Int} {l2 : Option sm_V} {l3 : Option sm_V} {l4 : Option sm_V} {l5 : Option sm_V} {l6 : Option sm_V} {l7 : Option sm_V} {l8 : Option sm_V} {Z : Nat → Nat → Int} {Rf : Nat → Nat → Option Nat} {K : Nat → Nat × Nat} {n z : Nat} {Q : Option sm_V → sm_S → Prop} : sm_wp (d + 1) 192 0 [l0, some (.inl x1), l2, l3, l4, l5, l6, l7, l8] [] (Z, Rf, K, n, z) Q = (sm_call d 120 [.inl x1, .inl 0, .inl 2] (Z, Rf, K, n, z) (sm_cont (d + 1) 192 6 [l0, some (.inl x1), l2, l3, l4, l5, l6, l7, l8] [] Q)) := (w_iload_n t192_0 rfl rfl).trans ((w_iconst t192_1 rfl).trans ((w_iconst t192_2 rfl).trans (w_callS t192_3 rfl rfl rfl rfl (Nat.le_of_ble_eq_true rfl) (Nat.le_of_ble_eq_true rfl) rfl)))
set_option maxRecDepth 10000 in
theorem b192_6 {d : Nat} {l0 : Option sm_V} {l1 : Option sm_V} {l2 : Option sm_V} {l3 : Option sm_V} {l4 : Option sm_V} {l5 : Option sm_V} {l6 : Option sm_V} {l7 : Option sm_V} {l8 : Option sm_V} {s0 : Int} {Z : Nat → Nat → Int} {Rf : Nat → Nat → Option Nat} {K : Nat → Nat × Nat} {n z : Nat} {Q : Option sm_V → sm_S → Prop} : sm_wp d 192 6 [l0, l1, l2, l3, l4, l5, l6, l7, l8] [.inl s0] (Z, Rf, K, n, z) Q = (if wr s0 = 0 then sm_wp d 192 9 [l0, l1, l2, l3, l4, l5, l6, l7, l8] [] (Z, Rf, K, n, z) Q else sm_wp d 192 11 [l0, l1, l2, l3, l4, l5, l6, l7, l8] [] (Z, Rf, K, n, z) Q) := w_ifne t192_6 rfl rfl rfl
set_option maxRecDepth 10000 in
theorem b192_9 {d : Nat} {l0 : Option sm_V} {l1 : Option sm_V} {l2 : Option sm_V} {l3 : Option sm_V} {l4 : Option sm_V} {l5 : Option sm_V} {l6 : Option sm_V} {l7 : Option sm_V} {l8 : Option sm_V} {Z : Nat → Nat → Int} {Rf : Nat → Nat → Option Nat} {K : Nat → Nat × Nat} {n z : Nat} {Q : Option sm_V → sm_S → Prop} : sm_wp d 192 9 [l0, l1, l2, l3, l4, l5, l6, l7, l8] [] (Z, Rf, K, n, z) Q = (Q (some (.inl ((-1)))) (Z, Rf, K, n, z)) := (w_iconst t192_9 rfl).trans (w_iret t192_10)
set_option maxRecDepth 10000 in
theorem b192_11 {d : Nat} {l0 : Option sm_V} {l1 : Option sm_V} {l2 : Option sm_V} {l3 : Option sm_V} {l4 : Option sm_V} {l5 : Option sm_V} {l6 : Option sm_V} {l7 : Option sm_V} {l8 : Option sm_V} {Z : Nat → Nat → Int} {Rf : Nat → Nat → Option Nat} {K : Nat → Nat × Nat} {n z : Nat} {Q : Option sm_V → sm_S → Prop} : sm_wp d 192 11 [l0, l1, l2, l3, l4, l5, l6, l7, l8] [] (Z, Rf, K, n, z) Q = (sm_wp d 192 21 [l0, l1, some (.inl 0), some (.inl 0), some (.inl ((-1))), some (.inl 0), l6, l7, l8] [] (Z, Rf, K, n, z) Q) := (w_iconst t192_11 rfl).trans ((w_istore_n t192_12 rfl (Nat.le_of_ble_eq_true rfl) rfl).trans ((w_iconst t192_13 rfl).trans ((w_istore_n t192_14 rfl (Nat.le_of_ble_eq_true rfl) rfl).trans ((w_iconst t192_15 rfl).trans ((w_istore t192_16 rfl (Nat.le_of_ble_eq_true rfl) rfl).trans ((w_iconst t192_18 rfl).trans (w_istore t192_19 rfl (Nat.le_of_ble_eq_true rfl) rfl)))))))
set_option maxRecDepth 10000 in
theorem b192_21 {d : Nat} {r0 : Nat} {l1 : Option sm_V} {l2 : Option sm_V} {l3 : Option sm_V} {l4 : Option sm_V} {x5 : Int} {l6 : Option sm_V} {l7 : Option sm_V} {l8 : Option sm_V} {Z : Nat → Nat → Int} {Rf : Nat → Nat → Option Nat} {K : Nat → Nat × Nat} {n z : Nat} {Q : Option sm_V → sm_S → Prop} : sm_wp d 192 21 [some (.inr (some r0)), l1, l2, l3, l4, some (.inl x5), l6, l7, l8] [] (Z, Rf, K, n, z) Q = ((K r0).1 = 11 ∧ (Rf r0 0).isSome = true ∧ sm_rd (K (((Rf r0 0).getD 0))) ((7 : Int)) ∧ (if wr (sm_shl 1 (Z (((Rf r0 0).getD 0)) 7)) ≤ wr x5 then sm_wp d 192 186 [some (.inr (some r0)), l1, l2, l3, l4, some (.inl x5), l6, l7, l8] [] (Z, Rf, K, n, z) Q else sm_wp d 192 35 [some (.inr (some r0)), l1, l2, l3, l4, some (.inl x5), l6, l7, l8] [] (Z, Rf, K, n, z) Q)) := (w_iload t192_21 rfl rfl).trans ((w_iconst t192_23 rfl).trans ((w_aload_n t192_24 rfl rfl).trans ((w_getR t192_25 rfl (by decide)).trans (congrArg (And _) (congrArg (And _) ((w_bipush t192_28 rfl).trans ((w_iald t192_30 rfl wl_7).trans (congrArg (And _) ((w_ishl t192_31 rfl).trans (w_icge t192_32 rfl rfl rfl rfl))))))))))
set_option maxRecDepth 10000 in
theorem b192_35 {d : Nat} {r0 : Nat} {l1 : Option sm_V} {l2 : Option sm_V} {l3 : Option sm_V} {l4 : Option sm_V} {x5 : Int} {l6 : Option sm_V} {l7 : Option sm_V} {l8 : Option sm_V} {Z : Nat → Nat → Int} {Rf : Nat → Nat → Option Nat} {K : Nat → Nat × Nat} {n z : Nat} {Q : Option sm_V → sm_S → Prop} : sm_wp (d + 1) 192 35 [some (.inr (some r0)), l1, l2, l3, l4, some (.inl x5), l6, l7, l8] [] (Z, Rf, K, n, z) Q = ((K r0).1 = 11 ∧ sm_call d 189 [.inr (some r0), .inl x5] (Z, Rf, K, n, z) (sm_cont (d + 1) 192 41 [some (.inr (some r0)), l1, l2, l3, l4, some (.inl x5), l6, l7, l8] [] Q)) := (w_aload_n t192_35 rfl rfl).trans ((w_iload t192_36 rfl rfl).trans (w_callV t192_38 rfl rfl rfl rfl (Nat.le_of_ble_eq_true rfl) (Nat.le_of_ble_eq_true rfl) rfl (by decide)))
set_option maxRecDepth 10000 in
theorem b192_41 {d : Nat} {l0 : Option sm_V} {l1 : Option sm_V} {l2 : Option sm_V} {l3 : Option sm_V} {l4 : Option sm_V} {l5 : Option sm_V} {l6 : Option sm_V} {l7 : Option sm_V} {l8 : Option sm_V} {Z : Nat → Nat → Int} {Rf : Nat → Nat → Option Nat} {K : Nat → Nat × Nat} {n z : Nat} {Q : Option sm_V → sm_S → Prop} : sm_wp d 192 41 [l0, l1, l2, l3, l4, l5, l6, l7, l8] [] (Z, Rf, K, n, z) Q = (sm_wp d 192 47 [l0, l1, l2, l3, l4, l5, some (.inl 1), some (.inl 0), l8] [] (Z, Rf, K, n, z) Q) := (w_iconst t192_41 rfl).trans ((w_istore t192_42 rfl (Nat.le_of_ble_eq_true rfl) rfl).trans ((w_iconst t192_44 rfl).trans (w_istore t192_45 rfl (Nat.le_of_ble_eq_true rfl) rfl)))
set_option maxRecDepth 10000 in
theorem b192_47 {d : Nat} {r0 : Nat} {l1 : Option sm_V} {l2 : Option sm_V} {l3 : Option sm_V} {l4 : Option sm_V} {l5 : Option sm_V} {l6 : Option sm_V} {x7 : Int} {l8 : Option sm_V} {Z : Nat → Nat → Int} {Rf : Nat → Nat → Option Nat} {K : Nat → Nat × Nat} {n z : Nat} {Q : Option sm_V → sm_S → Prop} : sm_wp d 192 47 [some (.inr (some r0)), l1, l2, l3, l4, l5, l6, some (.inl x7), l8] [] (Z, Rf, K, n, z) Q = ((K r0).1 = 11 ∧ (Rf r0 0).isSome = true ∧ sm_rd (K (((Rf r0 0).getD 0))) ((8 : Int)) ∧ (if wr (Z (((Rf r0 0).getD 0)) 8) ≤ wr x7 then sm_wp d 192 142 [some (.inr (some r0)), l1, l2, l3, l4, l5, l6, some (.inl x7), l8] [] (Z, Rf, K, n, z) Q else sm_wp d 192 59 [some (.inr (some r0)), l1, l2, l3, l4, l5, l6, some (.inl x7), l8] [] (Z, Rf, K, n, z) Q)) := (w_iload t192_47 rfl rfl).trans ((w_aload_n t192_49 rfl rfl).trans ((w_getR t192_50 rfl (by decide)).trans (congrArg (And _) (congrArg (And _) ((w_bipush t192_53 rfl).trans ((w_iald t192_55 rfl wl_8).trans (congrArg (And _) (w_icge t192_56 rfl rfl rfl rfl))))))))
set_option maxRecDepth 10000 in
theorem b192_59 {d : Nat} {l0 : Option sm_V} {l1 : Option sm_V} {l2 : Option sm_V} {l3 : Option sm_V} {l4 : Option sm_V} {l5 : Option sm_V} {x6 : Int} {x7 : Int} {l8 : Option sm_V} {Z : Nat → Nat → Int} {Rf : Nat → Nat → Option Nat} {K : Nat → Nat × Nat} {n z : Nat} {Q : Option sm_V → sm_S → Prop} : sm_wp d 192 59 [l0, l1, l2, l3, l4, l5, some (.inl x6), some (.inl x7), l8] [] (Z, Rf, K, n, z) Q = (if wr x6 = 0 then sm_wp d 192 133 [l0, l1, l2, l3, l4, l5, some (.inl x6), some (.inl x7), some (.inl (1920 + (3 * x7)))] [] (Z, Rf, K, n, z) Q else sm_wp d 192 74 [l0, l1, l2, l3, l4, l5, some (.inl x6), some (.inl x7), some (.inl (1920 + (3 * x7)))] [] (Z, Rf, K, n, z) Q) := (w_sipush t192_59 rfl).trans ((w_iconst t192_62 rfl).trans ((w_iload t192_63 rfl rfl).trans ((w_imul t192_65 rfl).trans ((w_iadd t192_66 rfl).trans ((w_istore t192_67 rfl (Nat.le_of_ble_eq_true rfl) rfl).trans ((w_iload t192_69 rfl rfl).trans (w_ifeq t192_71 rfl rfl rfl)))))))
set_option maxRecDepth 10000 in
theorem b192_74 {d : Nat} {r0 : Nat} {l1 : Option sm_V} {l2 : Option sm_V} {l3 : Option sm_V} {l4 : Option sm_V} {l5 : Option sm_V} {l6 : Option sm_V} {l7 : Option sm_V} {x8 : Int} {Z : Nat → Nat → Int} {Rf : Nat → Nat → Option Nat} {K : Nat → Nat × Nat} {n z : Nat} {Q : Option sm_V → sm_S → Prop} : sm_wp d 192 74 [some (.inr (some r0)), l1, l2, l3, l4, l5, l6, l7, some (.inl x8)] [] (Z, Rf, K, n, z) Q = ((K r0).1 = 11 ∧ (Rf r0 28).isSome = true ∧ (K r0).1 = 11 ∧ (Rf r0 0).isSome = true ∧ sm_rd (K (((Rf r0 0).getD 0))) (wr x8) ∧ sm_rd (K (((Rf r0 28).getD 0))) (wr (Z (((Rf r0 0).getD 0)) ((wr x8).toNat))) ∧ (K r0).1 = 11 ∧ (Rf r0 28).isSome = true ∧ (K r0).1 = 11 ∧ (Rf r0 0).isSome = true ∧ sm_rd (K (((Rf r0 0).getD 0))) (wr (x8 + 1)) ∧ sm_rd (K (((Rf r0 28).getD 0))) (wr (Z (((Rf r0 0).getD 0)) ((wr (x8 + 1)).toNat))) ∧ (if wr (Z (((Rf r0 28).getD 0)) ((wr (Z (((Rf r0 0).getD 0)) ((wr x8).toNat))).toNat)) = wr (Z (((Rf r0 28).getD 0)) ((wr (Z (((Rf r0 0).getD 0)) ((wr (x8 + 1)).toNat))).toNat)) then sm_wp d 192 103 [some (.inr (some r0)), l1, l2, l3, l4, l5, l6, l7, some (.inl x8)] [] (Z, Rf, K, n, z) Q else sm_wp d 192 107 [some (.inr (some r0)), l1, l2, l3, l4, l5, l6, l7, some (.inl x8)] [] (Z, Rf, K, n, z) Q)) := (w_aload_n t192_74 rfl rfl).trans ((w_getR t192_75 rfl (by decide)).trans (congrArg (And _) (congrArg (And _) ((w_aload_n t192_78 rfl rfl).trans ((w_getR t192_79 rfl (by decide)).trans (congrArg (And _) (congrArg (And _) ((w_iload t192_82 rfl rfl).trans ((w_iald t192_84 rfl rfl).trans (congrArg (And _) ((w_iald t192_85 rfl rfl).trans (congrArg (And _) ((w_aload_n t192_86 rfl rfl).trans ((w_getR t192_87 rfl (by decide)).trans (congrArg (And _) (congrArg (And _) ((w_aload_n t192_90 rfl rfl).trans ((w_getR t192_91 rfl (by decide)).trans (congrArg (And _) (congrArg (And _) ((w_iload t192_94 rfl rfl).trans ((w_iconst t192_96 rfl).trans ((w_iadd t192_97 rfl).trans ((w_iald t192_98 rfl rfl).trans (congrArg (And _) ((w_iald t192_99 rfl rfl).trans (congrArg (And _) (w_icne t192_100 rfl rfl rfl rfl))))))))))))))))))))))))))))
set_option maxRecDepth 10000 in
theorem b192_103 {d : Nat} {l0 : Option sm_V} {l1 : Option sm_V} {l2 : Option sm_V} {l3 : Option sm_V} {l4 : Option sm_V} {l5 : Option sm_V} {l6 : Option sm_V} {l7 : Option sm_V} {l8 : Option sm_V} {Z : Nat → Nat → Int} {Rf : Nat → Nat → Option Nat} {K : Nat → Nat × Nat} {n z : Nat} {Q : Option sm_V → sm_S → Prop} : sm_wp d 192 103 [l0, l1, l2, l3, l4, l5, l6, l7, l8] [] (Z, Rf, K, n, z) Q = (sm_wp d 192 108 [l0, l1, l2, l3, l4, l5, l6, l7, l8] [.inl 1] (Z, Rf, K, n, z) Q) := (w_iconst t192_103 rfl).trans (w_goto t192_104 rfl)
set_option maxRecDepth 10000 in
theorem b192_107 {d : Nat} {l0 : Option sm_V} {l1 : Option sm_V} {l2 : Option sm_V} {l3 : Option sm_V} {l4 : Option sm_V} {l5 : Option sm_V} {l6 : Option sm_V} {l7 : Option sm_V} {l8 : Option sm_V} {Z : Nat → Nat → Int} {Rf : Nat → Nat → Option Nat} {K : Nat → Nat × Nat} {n z : Nat} {Q : Option sm_V → sm_S → Prop} : sm_wp d 192 107 [l0, l1, l2, l3, l4, l5, l6, l7, l8] [] (Z, Rf, K, n, z) Q = (sm_wp d 192 108 [l0, l1, l2, l3, l4, l5, l6, l7, l8] [.inl 0] (Z, Rf, K, n, z) Q) := w_iconst t192_107 rfl
set_option maxRecDepth 10000 in
theorem b192_108 {d : Nat} {r0 : Nat} {l1 : Option sm_V} {l2 : Option sm_V} {l3 : Option sm_V} {l4 : Option sm_V} {l5 : Option sm_V} {l6 : Option sm_V} {l7 : Option sm_V} {x8 : Int} {s0 : Int} {Z : Nat → Nat → Int} {Rf : Nat → Nat → Option Nat} {K : Nat → Nat × Nat} {n z : Nat} {Q : Option sm_V → sm_S → Prop} : sm_wp d 192 108 [some (.inr (some r0)), l1, l2, l3, l4, l5, l6, l7, some (.inl x8)] [.inl s0] (Z, Rf, K, n, z) Q = ((K r0).1 = 11 ∧ (Rf r0 0).isSome = true ∧ sm_rd (K (((Rf r0 0).getD 0))) (wr (x8 + 2)) ∧ (if wr (Z (((Rf r0 0).getD 0)) ((wr (x8 + 2)).toNat)) = (1 : Int) then sm_wp d 192 121 [some (.inr (some r0)), l1, l2, l3, l4, l5, l6, l7, some (.inl x8)] [.inl s0] (Z, Rf, K, n, z) Q else sm_wp d 192 125 [some (.inr (some r0)), l1, l2, l3, l4, l5, l6, l7, some (.inl x8)] [.inl s0] (Z, Rf, K, n, z) Q)) := (w_aload_n t192_108 rfl rfl).trans ((w_getR t192_109 rfl (by decide)).trans (congrArg (And _) (congrArg (And _) ((w_iload t192_112 rfl rfl).trans ((w_iconst t192_114 rfl).trans ((w_iadd t192_115 rfl).trans ((w_iald t192_116 rfl rfl).trans (congrArg (And _) ((w_iconst t192_117 rfl).trans (w_icne t192_118 rfl wl_1 rfl rfl))))))))))
set_option maxRecDepth 10000 in
theorem b192_121 {d : Nat} {l0 : Option sm_V} {l1 : Option sm_V} {l2 : Option sm_V} {l3 : Option sm_V} {l4 : Option sm_V} {l5 : Option sm_V} {l6 : Option sm_V} {l7 : Option sm_V} {l8 : Option sm_V} {s0 : Int} {Z : Nat → Nat → Int} {Rf : Nat → Nat → Option Nat} {K : Nat → Nat × Nat} {n z : Nat} {Q : Option sm_V → sm_S → Prop} : sm_wp d 192 121 [l0, l1, l2, l3, l4, l5, l6, l7, l8] [.inl s0] (Z, Rf, K, n, z) Q = (sm_wp d 192 126 [l0, l1, l2, l3, l4, l5, l6, l7, l8] [.inl 1, .inl s0] (Z, Rf, K, n, z) Q) := (w_iconst t192_121 rfl).trans (w_goto t192_122 rfl)
set_option maxRecDepth 10000 in
theorem b192_125 {d : Nat} {l0 : Option sm_V} {l1 : Option sm_V} {l2 : Option sm_V} {l3 : Option sm_V} {l4 : Option sm_V} {l5 : Option sm_V} {l6 : Option sm_V} {l7 : Option sm_V} {l8 : Option sm_V} {s0 : Int} {Z : Nat → Nat → Int} {Rf : Nat → Nat → Option Nat} {K : Nat → Nat × Nat} {n z : Nat} {Q : Option sm_V → sm_S → Prop} : sm_wp d 192 125 [l0, l1, l2, l3, l4, l5, l6, l7, l8] [.inl s0] (Z, Rf, K, n, z) Q = (sm_wp d 192 126 [l0, l1, l2, l3, l4, l5, l6, l7, l8] [.inl 0, .inl s0] (Z, Rf, K, n, z) Q) := w_iconst t192_125 rfl
set_option maxRecDepth 10000 in
theorem b192_126 {d : Nat} {l0 : Option sm_V} {l1 : Option sm_V} {l2 : Option sm_V} {l3 : Option sm_V} {l4 : Option sm_V} {l5 : Option sm_V} {l6 : Option sm_V} {l7 : Option sm_V} {l8 : Option sm_V} {s0 : Int} {s1 : Int} {Z : Nat → Nat → Int} {Rf : Nat → Nat → Option Nat} {K : Nat → Nat × Nat} {n z : Nat} {Q : Option sm_V → sm_S → Prop} : sm_wp d 192 126 [l0, l1, l2, l3, l4, l5, l6, l7, l8] [.inl s1, .inl s0] (Z, Rf, K, n, z) Q = (if wr s0 = wr s1 then sm_wp d 192 129 [l0, l1, l2, l3, l4, l5, l6, l7, l8] [] (Z, Rf, K, n, z) Q else sm_wp d 192 133 [l0, l1, l2, l3, l4, l5, l6, l7, l8] [] (Z, Rf, K, n, z) Q) := w_icne t192_126 rfl rfl rfl rfl
set_option maxRecDepth 10000 in
theorem b192_129 {d : Nat} {l0 : Option sm_V} {l1 : Option sm_V} {l2 : Option sm_V} {l3 : Option sm_V} {l4 : Option sm_V} {l5 : Option sm_V} {l6 : Option sm_V} {l7 : Option sm_V} {l8 : Option sm_V} {Z : Nat → Nat → Int} {Rf : Nat → Nat → Option Nat} {K : Nat → Nat × Nat} {n z : Nat} {Q : Option sm_V → sm_S → Prop} : sm_wp d 192 129 [l0, l1, l2, l3, l4, l5, l6, l7, l8] [] (Z, Rf, K, n, z) Q = (sm_wp d 192 134 [l0, l1, l2, l3, l4, l5, l6, l7, l8] [.inl 1] (Z, Rf, K, n, z) Q) := (w_iconst t192_129 rfl).trans (w_goto t192_130 rfl)
set_option maxRecDepth 10000 in
theorem b192_133 {d : Nat} {l0 : Option sm_V} {l1 : Option sm_V} {l2 : Option sm_V} {l3 : Option sm_V} {l4 : Option sm_V} {l5 : Option sm_V} {l6 : Option sm_V} {l7 : Option sm_V} {l8 : Option sm_V} {Z : Nat → Nat → Int} {Rf : Nat → Nat → Option Nat} {K : Nat → Nat × Nat} {n z : Nat} {Q : Option sm_V → sm_S → Prop} : sm_wp d 192 133 [l0, l1, l2, l3, l4, l5, l6, l7, l8] [] (Z, Rf, K, n, z) Q = (sm_wp d 192 134 [l0, l1, l2, l3, l4, l5, l6, l7, l8] [.inl 0] (Z, Rf, K, n, z) Q) := w_iconst t192_133 rfl
set_option maxRecDepth 10000 in
theorem b192_134 {d : Nat} {l0 : Option sm_V} {l1 : Option sm_V} {l2 : Option sm_V} {l3 : Option sm_V} {l4 : Option sm_V} {l5 : Option sm_V} {l6 : Option sm_V} {x7 : Int} {l8 : Option sm_V} {s0 : Int} {Z : Nat → Nat → Int} {Rf : Nat → Nat → Option Nat} {K : Nat → Nat × Nat} {n z : Nat} {Q : Option sm_V → sm_S → Prop} : sm_wp d 192 134 [l0, l1, l2, l3, l4, l5, l6, some (.inl x7), l8] [.inl s0] (Z, Rf, K, n, z) Q = (sm_wp d 192 47 [l0, l1, l2, l3, l4, l5, some (.inl s0), some (.inl (x7 + 1)), l8] [] (Z, Rf, K, n, z) Q) := (w_istore t192_134 rfl (Nat.le_of_ble_eq_true rfl) rfl).trans ((w_iinc t192_136 rfl rfl (Nat.le_of_ble_eq_true rfl) rfl).trans (w_goto t192_139 rfl))
set_option maxRecDepth 10000 in
theorem b192_142 {d : Nat} {l0 : Option sm_V} {l1 : Option sm_V} {l2 : Option sm_V} {l3 : Option sm_V} {l4 : Option sm_V} {l5 : Option sm_V} {x6 : Int} {l7 : Option sm_V} {l8 : Option sm_V} {Z : Nat → Nat → Int} {Rf : Nat → Nat → Option Nat} {K : Nat → Nat × Nat} {n z : Nat} {Q : Option sm_V → sm_S → Prop} : sm_wp d 192 142 [l0, l1, l2, l3, l4, l5, some (.inl x6), l7, l8] [] (Z, Rf, K, n, z) Q = (if wr x6 = 0 then sm_wp d 192 147 [l0, l1, l2, l3, l4, l5, some (.inl x6), l7, l8] [] (Z, Rf, K, n, z) Q else sm_wp d 192 150 [l0, l1, l2, l3, l4, l5, some (.inl x6), l7, l8] [] (Z, Rf, K, n, z) Q) := (w_iload t192_142 rfl rfl).trans (w_ifne t192_144 rfl rfl rfl)
set_option maxRecDepth 10000 in
theorem b192_147 {d : Nat} {l0 : Option sm_V} {l1 : Option sm_V} {l2 : Option sm_V} {l3 : Option sm_V} {l4 : Option sm_V} {l5 : Option sm_V} {l6 : Option sm_V} {l7 : Option sm_V} {l8 : Option sm_V} {Z : Nat → Nat → Int} {Rf : Nat → Nat → Option Nat} {K : Nat → Nat × Nat} {n z : Nat} {Q : Option sm_V → sm_S → Prop} : sm_wp d 192 147 [l0, l1, l2, l3, l4, l5, l6, l7, l8] [] (Z, Rf, K, n, z) Q = (sm_wp d 192 180 [l0, l1, l2, l3, l4, l5, l6, l7, l8] [] (Z, Rf, K, n, z) Q) := w_goto t192_147 rfl
set_option maxRecDepth 10000 in
theorem b192_150 {d : Nat} {l0 : Option sm_V} {l1 : Option sm_V} {x2 : Int} {l3 : Option sm_V} {l4 : Option sm_V} {l5 : Option sm_V} {l6 : Option sm_V} {l7 : Option sm_V} {l8 : Option sm_V} {Z : Nat → Nat → Int} {Rf : Nat → Nat → Option Nat} {K : Nat → Nat × Nat} {n z : Nat} {Q : Option sm_V → sm_S → Prop} : sm_wp d 192 150 [l0, l1, some (.inl x2), l3, l4, l5, l6, l7, l8] [] (Z, Rf, K, n, z) Q = (if wr x2 = 0 then sm_wp d 192 154 [l0, l1, some (.inl x2), l3, l4, l5, l6, l7, l8] [] (Z, Rf, K, n, z) Q else sm_wp d 192 159 [l0, l1, some (.inl x2), l3, l4, l5, l6, l7, l8] [] (Z, Rf, K, n, z) Q) := (w_iload_n t192_150 rfl rfl).trans (w_ifne t192_151 rfl rfl rfl)
set_option maxRecDepth 10000 in
theorem b192_154 {d : Nat} {l0 : Option sm_V} {l1 : Option sm_V} {l2 : Option sm_V} {l3 : Option sm_V} {l4 : Option sm_V} {x5 : Int} {l6 : Option sm_V} {l7 : Option sm_V} {l8 : Option sm_V} {Z : Nat → Nat → Int} {Rf : Nat → Nat → Option Nat} {K : Nat → Nat × Nat} {n z : Nat} {Q : Option sm_V → sm_S → Prop} : sm_wp d 192 154 [l0, l1, l2, l3, l4, some (.inl x5), l6, l7, l8] [] (Z, Rf, K, n, z) Q = (sm_wp d 192 163 [l0, l1, l2, l3, l4, some (.inl x5), l6, l7, l8] [.inl x5] (Z, Rf, K, n, z) Q) := (w_iload t192_154 rfl rfl).trans (w_goto t192_156 rfl)
set_option maxRecDepth 10000 in
theorem b192_159 {d : Nat} {l0 : Option sm_V} {l1 : Option sm_V} {l2 : Option sm_V} {x3 : Int} {l4 : Option sm_V} {x5 : Int} {l6 : Option sm_V} {l7 : Option sm_V} {l8 : Option sm_V} {Z : Nat → Nat → Int} {Rf : Nat → Nat → Option Nat} {K : Nat → Nat × Nat} {n z : Nat} {Q : Option sm_V → sm_S → Prop} : sm_wp d 192 159 [l0, l1, l2, some (.inl x3), l4, some (.inl x5), l6, l7, l8] [] (Z, Rf, K, n, z) Q = (sm_wp d 192 163 [l0, l1, l2, some (.inl x3), l4, some (.inl x5), l6, l7, l8] [.inl (sm_and x3 x5)] (Z, Rf, K, n, z) Q) := (w_iload_n t192_159 rfl rfl).trans ((w_iload t192_160 rfl rfl).trans (w_iand t192_162 rfl))
set_option maxRecDepth 10000 in
theorem b192_163 {d : Nat} {l0 : Option sm_V} {l1 : Option sm_V} {x2 : Int} {l3 : Option sm_V} {l4 : Option sm_V} {l5 : Option sm_V} {l6 : Option sm_V} {l7 : Option sm_V} {l8 : Option sm_V} {s0 : Int} {Z : Nat → Nat → Int} {Rf : Nat → Nat → Option Nat} {K : Nat → Nat × Nat} {n z : Nat} {Q : Option sm_V → sm_S → Prop} : sm_wp d 192 163 [l0, l1, some (.inl x2), l3, l4, l5, l6, l7, l8] [.inl s0] (Z, Rf, K, n, z) Q = (if wr x2 = 0 then sm_wp d 192 168 [l0, l1, some (.inl x2), some (.inl s0), l4, l5, l6, l7, l8] [] (Z, Rf, K, n, z) Q else sm_wp d 192 173 [l0, l1, some (.inl x2), some (.inl s0), l4, l5, l6, l7, l8] [] (Z, Rf, K, n, z) Q) := (w_istore_n t192_163 rfl (Nat.le_of_ble_eq_true rfl) rfl).trans ((w_iload_n t192_164 rfl rfl).trans (w_ifne t192_165 rfl rfl rfl))
set_option maxRecDepth 10000 in
theorem b192_168 {d : Nat} {l0 : Option sm_V} {l1 : Option sm_V} {l2 : Option sm_V} {l3 : Option sm_V} {l4 : Option sm_V} {x5 : Int} {l6 : Option sm_V} {l7 : Option sm_V} {l8 : Option sm_V} {Z : Nat → Nat → Int} {Rf : Nat → Nat → Option Nat} {K : Nat → Nat × Nat} {n z : Nat} {Q : Option sm_V → sm_S → Prop} : sm_wp d 192 168 [l0, l1, l2, l3, l4, some (.inl x5), l6, l7, l8] [] (Z, Rf, K, n, z) Q = (sm_wp d 192 175 [l0, l1, l2, l3, l4, some (.inl x5), l6, l7, l8] [.inl x5] (Z, Rf, K, n, z) Q) := (w_iload t192_168 rfl rfl).trans (w_goto t192_170 rfl)
set_option maxRecDepth 10000 in
theorem b192_173 {d : Nat} {l0 : Option sm_V} {l1 : Option sm_V} {l2 : Option sm_V} {l3 : Option sm_V} {x4 : Int} {l5 : Option sm_V} {l6 : Option sm_V} {l7 : Option sm_V} {l8 : Option sm_V} {Z : Nat → Nat → Int} {Rf : Nat → Nat → Option Nat} {K : Nat → Nat × Nat} {n z : Nat} {Q : Option sm_V → sm_S → Prop} : sm_wp d 192 173 [l0, l1, l2, l3, some (.inl x4), l5, l6, l7, l8] [] (Z, Rf, K, n, z) Q = (sm_wp d 192 175 [l0, l1, l2, l3, some (.inl x4), l5, l6, l7, l8] [.inl x4] (Z, Rf, K, n, z) Q) := w_iload t192_173 rfl rfl
set_option maxRecDepth 10000 in
theorem b192_175 {d : Nat} {l0 : Option sm_V} {l1 : Option sm_V} {x2 : Int} {l3 : Option sm_V} {l4 : Option sm_V} {l5 : Option sm_V} {l6 : Option sm_V} {l7 : Option sm_V} {l8 : Option sm_V} {s0 : Int} {Z : Nat → Nat → Int} {Rf : Nat → Nat → Option Nat} {K : Nat → Nat × Nat} {n z : Nat} {Q : Option sm_V → sm_S → Prop} : sm_wp d 192 175 [l0, l1, some (.inl x2), l3, l4, l5, l6, l7, l8] [.inl s0] (Z, Rf, K, n, z) Q = (sm_wp d 192 180 [l0, l1, some (.inl (x2 + 1)), l3, some (.inl s0), l5, l6, l7, l8] [] (Z, Rf, K, n, z) Q) := (w_istore t192_175 rfl (Nat.le_of_ble_eq_true rfl) rfl).trans (w_iinc t192_177 rfl rfl (Nat.le_of_ble_eq_true rfl) rfl)
set_option maxRecDepth 10000 in
theorem b192_180 {d : Nat} {l0 : Option sm_V} {l1 : Option sm_V} {l2 : Option sm_V} {l3 : Option sm_V} {l4 : Option sm_V} {x5 : Int} {l6 : Option sm_V} {l7 : Option sm_V} {l8 : Option sm_V} {Z : Nat → Nat → Int} {Rf : Nat → Nat → Option Nat} {K : Nat → Nat × Nat} {n z : Nat} {Q : Option sm_V → sm_S → Prop} : sm_wp d 192 180 [l0, l1, l2, l3, l4, some (.inl x5), l6, l7, l8] [] (Z, Rf, K, n, z) Q = (sm_wp d 192 21 [l0, l1, l2, l3, l4, some (.inl (x5 + 1)), l6, l7, l8] [] (Z, Rf, K, n, z) Q) := (w_iinc t192_180 rfl rfl (Nat.le_of_ble_eq_true rfl) rfl).trans (w_goto t192_183 rfl)
set_option maxRecDepth 10000 in
theorem b192_186 {d : Nat} {l0 : Option sm_V} {x1 : Int} {l2 : Option sm_V} {l3 : Option sm_V} {l4 : Option sm_V} {l5 : Option sm_V} {l6 : Option sm_V} {l7 : Option sm_V} {l8 : Option sm_V} {Z : Nat → Nat → Int} {Rf : Nat → Nat → Option Nat} {K : Nat → Nat × Nat} {n z : Nat} {Q : Option sm_V → sm_S → Prop} : sm_wp d 192 186 [l0, some (.inl x1), l2, l3, l4, l5, l6, l7, l8] [] (Z, Rf, K, n, z) Q = (if wr x1 = 0 then sm_wp d 192 190 [l0, some (.inl x1), l2, l3, l4, l5, l6, l7, l8] [] (Z, Rf, K, n, z) Q else sm_wp d 192 194 [l0, some (.inl x1), l2, l3, l4, l5, l6, l7, l8] [] (Z, Rf, K, n, z) Q) := (w_iload_n t192_186 rfl rfl).trans (w_ifne t192_187 rfl rfl rfl)
set_option maxRecDepth 10000 in
theorem b192_190 {d : Nat} {l0 : Option sm_V} {l1 : Option sm_V} {x2 : Int} {l3 : Option sm_V} {l4 : Option sm_V} {l5 : Option sm_V} {l6 : Option sm_V} {l7 : Option sm_V} {l8 : Option sm_V} {Z : Nat → Nat → Int} {Rf : Nat → Nat → Option Nat} {K : Nat → Nat × Nat} {n z : Nat} {Q : Option sm_V → sm_S → Prop} : sm_wp d 192 190 [l0, l1, some (.inl x2), l3, l4, l5, l6, l7, l8] [] (Z, Rf, K, n, z) Q = (sm_wp d 192 205 [l0, l1, some (.inl x2), l3, l4, l5, l6, l7, l8] [.inl x2] (Z, Rf, K, n, z) Q) := (w_iload_n t192_190 rfl rfl).trans (w_goto t192_191 rfl)
set_option maxRecDepth 10000 in
theorem b192_194 {d : Nat} {l0 : Option sm_V} {x1 : Int} {l2 : Option sm_V} {l3 : Option sm_V} {l4 : Option sm_V} {l5 : Option sm_V} {l6 : Option sm_V} {l7 : Option sm_V} {l8 : Option sm_V} {Z : Nat → Nat → Int} {Rf : Nat → Nat → Option Nat} {K : Nat → Nat × Nat} {n z : Nat} {Q : Option sm_V → sm_S → Prop} : sm_wp d 192 194 [l0, some (.inl x1), l2, l3, l4, l5, l6, l7, l8] [] (Z, Rf, K, n, z) Q = (if wr x1 = (1 : Int) then sm_wp d 192 199 [l0, some (.inl x1), l2, l3, l4, l5, l6, l7, l8] [] (Z, Rf, K, n, z) Q else sm_wp d 192 203 [l0, some (.inl x1), l2, l3, l4, l5, l6, l7, l8] [] (Z, Rf, K, n, z) Q) := (w_iload_n t192_194 rfl rfl).trans ((w_iconst t192_195 rfl).trans (w_icne t192_196 rfl wl_1 rfl rfl))
set_option maxRecDepth 10000 in
theorem b192_199 {d : Nat} {l0 : Option sm_V} {l1 : Option sm_V} {l2 : Option sm_V} {x3 : Int} {l4 : Option sm_V} {l5 : Option sm_V} {l6 : Option sm_V} {l7 : Option sm_V} {l8 : Option sm_V} {Z : Nat → Nat → Int} {Rf : Nat → Nat → Option Nat} {K : Nat → Nat × Nat} {n z : Nat} {Q : Option sm_V → sm_S → Prop} : sm_wp d 192 199 [l0, l1, l2, some (.inl x3), l4, l5, l6, l7, l8] [] (Z, Rf, K, n, z) Q = (sm_wp d 192 205 [l0, l1, l2, some (.inl x3), l4, l5, l6, l7, l8] [.inl x3] (Z, Rf, K, n, z) Q) := (w_iload_n t192_199 rfl rfl).trans (w_goto t192_200 rfl)
set_option maxRecDepth 10000 in
theorem b192_203 {d : Nat} {l0 : Option sm_V} {l1 : Option sm_V} {l2 : Option sm_V} {l3 : Option sm_V} {x4 : Int} {l5 : Option sm_V} {l6 : Option sm_V} {l7 : Option sm_V} {l8 : Option sm_V} {Z : Nat → Nat → Int} {Rf : Nat → Nat → Option Nat} {K : Nat → Nat × Nat} {n z : Nat} {Q : Option sm_V → sm_S → Prop} : sm_wp d 192 203 [l0, l1, l2, l3, some (.inl x4), l5, l6, l7, l8] [] (Z, Rf, K, n, z) Q = (sm_wp d 192 205 [l0, l1, l2, l3, some (.inl x4), l5, l6, l7, l8] [.inl x4] (Z, Rf, K, n, z) Q) := w_iload t192_203 rfl rfl
set_option maxRecDepth 10000 in
theorem b192_205 {d : Nat} {l0 : Option sm_V} {l1 : Option sm_V} {l2 : Option sm_V} {l3 : Option sm_V} {l4 : Option sm_V} {l5 : Option sm_V} {l6 : Option sm_V} {l7 : Option sm_V} {l8 : Option sm_V} {s0 : Int} {Z : Nat → Nat → Int} {Rf : Nat → Nat → Option Nat} {K : Nat → Nat × Nat} {n z : Nat} {Q : Option sm_V → sm_S → Prop} : sm_wp d 192 205 [l0, l1, l2, l3, l4, l5, l6, l7, l8] [.inl s0] (Z, Rf, K, n, z) Q = (Q (some (.inl s0)) (Z, Rf, K, n, z)) := w_iret t192_205
theorem t193_0 : sm_at 193 0 = some (1, .iconst 0, 0, 0, 0) := rfl
theorem t193_1 : sm_at 193 1 = some (1, .istore_n 3, 0, 0, 0) := rfl
theorem t193_2 : sm_at 193 2 = some (1, .iload_n 3, 0, 0, 0) := rfl
theorem t193_3 : sm_at 193 3 = some (2, .bipush 100, 0, 0, 0) := rfl
theorem t193_5 : sm_at 193 5 = some (3, .if_icmp .ge 16, 0, 0, 0) := rfl
theorem t193_8 : sm_at 193 8 = some (1, .aload_n 0, 0, 0, 0) := rfl
theorem t193_9 : sm_at 193 9 = some (3, .getfield 62, 11, 36, 0) := rfl
theorem t193_12 : sm_at 193 12 = some (1, .iload_n 3, 0, 0, 0) := rfl
theorem t193_13 : sm_at 193 13 = some (1, .iconst (-1), 0, 0, 0) := rfl
theorem t193_14 : sm_at 193 14 = some (1, .iastore, 0, 0, 0) := rfl
theorem t193_15 : sm_at 193 15 = some (3, .iinc 3 1, 0, 0, 0) := rfl
theorem t193_18 : sm_at 193 18 = some (3, .goto (-16), 0, 0, 0) := rfl
theorem t193_21 : sm_at 193 21 = some (1, .iconst 0, 0, 0, 0) := rfl
theorem t193_22 : sm_at 193 22 = some (1, .istore_n 3, 0, 0, 0) := rfl
theorem t193_23 : sm_at 193 23 = some (1, .aload_n 0, 0, 0, 0) := rfl
theorem t193_24 : sm_at 193 24 = some (3, .getfield 56, 11, 29, 0) := rfl
theorem t193_27 : sm_at 193 27 = some (1, .iload_n 3, 0, 0, 0) := rfl
theorem t193_28 : sm_at 193 28 = some (1, .iload_n 1, 0, 0, 0) := rfl
theorem t193_29 : sm_at 193 29 = some (1, .iastore, 0, 0, 0) := rfl
theorem t193_30 : sm_at 193 30 = some (3, .iinc 3 1, 0, 0, 0) := rfl
theorem t193_33 : sm_at 193 33 = some (1, .aload_n 0, 0, 0, 0) := rfl
theorem t193_34 : sm_at 193 34 = some (3, .getfield 62, 11, 36, 0) := rfl
theorem t193_37 : sm_at 193 37 = some (1, .iload_n 1, 0, 0, 0) := rfl
theorem t193_38 : sm_at 193 38 = some (1, .iconst 4, 0, 0, 0) := rfl
theorem t193_39 : sm_at 193 39 = some (1, .iastore, 0, 0, 0) := rfl
theorem t193_40 : sm_at 193 40 = some (1, .iconst 0, 0, 0, 0) := rfl
theorem t193_41 : sm_at 193 41 = some (2, .istore 4, 0, 0, 0) := rfl
theorem t193_43 : sm_at 193 43 = some (2, .iload 4, 0, 0, 0) := rfl
theorem t193_45 : sm_at 193 45 = some (1, .iload_n 3, 0, 0, 0) := rfl
theorem t193_46 : sm_at 193 46 = some (3, .if_icmp .ge 134, 0, 0, 0) := rfl
theorem t193_49 : sm_at 193 49 = some (1, .aload_n 0, 0, 0, 0) := rfl
theorem t193_50 : sm_at 193 50 = some (3, .getfield 62, 11, 36, 0) := rfl
theorem t193_53 : sm_at 193 53 = some (1, .iload_n 2, 0, 0, 0) := rfl
theorem t193_54 : sm_at 193 54 = some (1, .iaload, 0, 0, 0) := rfl
theorem t193_55 : sm_at 193 55 = some (1, .iconst (-1), 0, 0, 0) := rfl
theorem t193_56 : sm_at 193 56 = some (3, .if_icmp .ne 124, 0, 0, 0) := rfl
theorem t193_59 : sm_at 193 59 = some (1, .aload_n 0, 0, 0, 0) := rfl
theorem t193_60 : sm_at 193 60 = some (3, .getfield 56, 11, 29, 0) := rfl
theorem t193_63 : sm_at 193 63 = some (2, .iload 4, 0, 0, 0) := rfl
theorem t193_65 : sm_at 193 65 = some (1, .iaload, 0, 0, 0) := rfl
theorem t193_66 : sm_at 193 66 = some (2, .istore 5, 0, 0, 0) := rfl
theorem t193_68 : sm_at 193 68 = some (1, .iconst 0, 0, 0, 0) := rfl
theorem t193_69 : sm_at 193 69 = some (2, .istore 6, 0, 0, 0) := rfl
theorem t193_71 : sm_at 193 71 = some (2, .iload 6, 0, 0, 0) := rfl
theorem t193_73 : sm_at 193 73 = some (1, .iconst 4, 0, 0, 0) := rfl
theorem t193_74 : sm_at 193 74 = some (3, .if_icmp .ge 100, 0, 0, 0) := rfl
theorem t193_77 : sm_at 193 77 = some (1, .aload_n 0, 0, 0, 0) := rfl
theorem t193_78 : sm_at 193 78 = some (2, .iload 5, 0, 0, 0) := rfl
theorem t193_80 : sm_at 193 80 = some (2, .bipush 10, 0, 0, 0) := rfl
theorem t193_82 : sm_at 193 82 = some (1, .irem, 0, 0, 0) := rfl
theorem t193_83 : sm_at 193 83 = some (2, .iload 5, 0, 0, 0) := rfl
theorem t193_85 : sm_at 193 85 = some (2, .bipush 10, 0, 0, 0) := rfl
theorem t193_87 : sm_at 193 87 = some (1, .idiv, 0, 0, 0) := rfl
theorem t193_88 : sm_at 193 88 = some (2, .iload 6, 0, 0, 0) := rfl
theorem t193_90 : sm_at 193 90 = some (3, .invokevirtual 278, 172, 4, 0) := rfl
theorem t193_93 : sm_at 193 93 = some (3, .ifCond .eq 75, 0, 0, 0) := rfl
theorem t193_96 : sm_at 193 96 = some (1, .aload_n 0, 0, 0, 0) := rfl
theorem t193_97 : sm_at 193 97 = some (3, .getfield 59, 11, 35, 0) := rfl
theorem t193_100 : sm_at 193 100 = some (1, .iconst 4, 0, 0, 0) := rfl
theorem t193_101 : sm_at 193 101 = some (2, .iload 5, 0, 0, 0) := rfl
set_option maxRecDepth 100000 in
theorem t193_103 : sm_at 193 103 = some (1, .imul, 0, 0, 0) := rfl
set_option maxRecDepth 100000 in
theorem t193_104 : sm_at 193 104 = some (2, .iload 6, 0, 0, 0) := rfl
set_option maxRecDepth 100000 in
theorem t193_106 : sm_at 193 106 = some (1, .iadd, 0, 0, 0) := rfl
set_option maxRecDepth 100000 in
theorem t193_107 : sm_at 193 107 = some (1, .iaload, 0, 0, 0) := rfl
set_option maxRecDepth 100000 in
theorem t193_108 : sm_at 193 108 = some (1, .iconst 1, 0, 0, 0) := rfl
set_option maxRecDepth 100000 in
theorem t193_109 : sm_at 193 109 = some (3, .if_icmp .ne 6, 0, 0, 0) := rfl
set_option maxRecDepth 100000 in
theorem t193_112 : sm_at 193 112 = some (3, .goto 56, 0, 0, 0) := rfl
set_option maxRecDepth 100000 in
theorem t193_115 : sm_at 193 115 = some (2, .iload 5, 0, 0, 0) := rfl
set_option maxRecDepth 100000 in
theorem t193_117 : sm_at 193 117 = some (2, .bipush 10, 0, 0, 0) := rfl
set_option maxRecDepth 100000 in
theorem t193_119 : sm_at 193 119 = some (2, .iload 6, 0, 0, 0) := rfl
set_option maxRecDepth 100000 in
theorem t193_121 : sm_at 193 121 = some (3, .invokestatic 242, 161, 1, 0) := rfl
set_option maxRecDepth 100000 in
theorem t193_124 : sm_at 193 124 = some (1, .imul, 0, 0, 0) := rfl
set_option maxRecDepth 100000 in
theorem t193_125 : sm_at 193 125 = some (1, .iadd, 0, 0, 0) := rfl
set_option maxRecDepth 100000 in
theorem t193_126 : sm_at 193 126 = some (2, .iload 6, 0, 0, 0) := rfl
set_option maxRecDepth 100000 in
theorem t193_128 : sm_at 193 128 = some (3, .invokestatic 239, 160, 1, 0) := rfl
set_option maxRecDepth 100000 in
theorem t193_131 : sm_at 193 131 = some (1, .iadd, 0, 0, 0) := rfl
set_option maxRecDepth 100000 in
theorem t193_132 : sm_at 193 132 = some (2, .istore 7, 0, 0, 0) := rfl
set_option maxRecDepth 100000 in
theorem t193_134 : sm_at 193 134 = some (1, .aload_n 0, 0, 0, 0) := rfl
set_option maxRecDepth 100000 in
theorem t193_135 : sm_at 193 135 = some (3, .getfield 62, 11, 36, 0) := rfl
set_option maxRecDepth 100000 in
theorem t193_138 : sm_at 193 138 = some (2, .iload 7, 0, 0, 0) := rfl
set_option maxRecDepth 100000 in
theorem t193_140 : sm_at 193 140 = some (1, .iaload, 0, 0, 0) := rfl
set_option maxRecDepth 100000 in
theorem t193_141 : sm_at 193 141 = some (1, .iconst (-1), 0, 0, 0) := rfl
set_option maxRecDepth 100000 in
theorem t193_142 : sm_at 193 142 = some (3, .if_icmp .eq 6, 0, 0, 0) := rfl
set_option maxRecDepth 100000 in
theorem t193_145 : sm_at 193 145 = some (3, .goto 23, 0, 0, 0) := rfl
set_option maxRecDepth 100000 in
theorem t193_148 : sm_at 193 148 = some (1, .aload_n 0, 0, 0, 0) := rfl
set_option maxRecDepth 100000 in
theorem t193_149 : sm_at 193 149 = some (3, .getfield 62, 11, 36, 0) := rfl
set_option maxRecDepth 100000 in
theorem t193_152 : sm_at 193 152 = some (2, .iload 7, 0, 0, 0) := rfl
set_option maxRecDepth 100000 in
theorem t193_154 : sm_at 193 154 = some (2, .iload 6, 0, 0, 0) := rfl
set_option maxRecDepth 100000 in
theorem t193_156 : sm_at 193 156 = some (1, .iastore, 0, 0, 0) := rfl
set_option maxRecDepth 100000 in
theorem t193_157 : sm_at 193 157 = some (1, .aload_n 0, 0, 0, 0) := rfl
set_option maxRecDepth 100000 in
theorem t193_158 : sm_at 193 158 = some (3, .getfield 56, 11, 29, 0) := rfl
set_option maxRecDepth 100000 in
theorem t193_161 : sm_at 193 161 = some (1, .iload_n 3, 0, 0, 0) := rfl
set_option maxRecDepth 100000 in
theorem t193_162 : sm_at 193 162 = some (2, .iload 7, 0, 0, 0) := rfl
set_option maxRecDepth 100000 in
theorem t193_164 : sm_at 193 164 = some (1, .iastore, 0, 0, 0) := rfl
set_option maxRecDepth 100000 in
theorem t193_165 : sm_at 193 165 = some (3, .iinc 3 1, 0, 0, 0) := rfl
set_option maxRecDepth 100000 in
theorem t193_168 : sm_at 193 168 = some (3, .iinc 6 1, 0, 0, 0) := rfl
set_option maxRecDepth 100000 in
theorem t193_171 : sm_at 193 171 = some (3, .goto (-100), 0, 0, 0) := rfl
set_option maxRecDepth 100000 in
theorem t193_174 : sm_at 193 174 = some (3, .iinc 4 1, 0, 0, 0) := rfl
set_option maxRecDepth 100000 in
theorem t193_177 : sm_at 193 177 = some (3, .goto (-134), 0, 0, 0) := rfl
set_option maxRecDepth 100000 in
theorem t193_180 : sm_at 193 180 = some (1, .aload_n 0, 0, 0, 0) := rfl
set_option maxRecDepth 100000 in
theorem t193_181 : sm_at 193 181 = some (3, .getfield 62, 11, 36, 0) := rfl
set_option maxRecDepth 100000 in
theorem t193_184 : sm_at 193 184 = some (1, .iload_n 2, 0, 0, 0) := rfl
set_option maxRecDepth 100000 in
theorem t193_185 : sm_at 193 185 = some (1, .iaload, 0, 0, 0) := rfl
set_option maxRecDepth 100000 in
theorem t193_186 : sm_at 193 186 = some (1, .iconst (-1), 0, 0, 0) := rfl
set_option maxRecDepth 100000 in
theorem t193_187 : sm_at 193 187 = some (3, .if_icmp .ne 5, 0, 0, 0) := rfl
set_option maxRecDepth 100000 in
theorem t193_190 : sm_at 193 190 = some (1, .iconst 0, 0, 0, 0) := rfl
set_option maxRecDepth 100000 in
theorem t193_191 : sm_at 193 191 = some (1, .ireturn, 1, 0, 0) := rfl
set_option maxRecDepth 100000 in
theorem t193_192 : sm_at 193 192 = some (1, .iload_n 2, 0, 0, 0) := rfl
set_option maxRecDepth 100000 in
theorem t193_193 : sm_at 193 193 = some (2, .istore 4, 0, 0, 0) := rfl
set_option maxRecDepth 100000 in
theorem t193_195 : sm_at 193 195 = some (2, .iload 4, 0, 0, 0) := rfl
set_option maxRecDepth 100000 in
theorem t193_197 : sm_at 193 197 = some (1, .iload_n 1, 0, 0, 0) := rfl
set_option maxRecDepth 100000 in
theorem t193_198 : sm_at 193 198 = some (3, .if_icmp .eq 74, 0, 0, 0) := rfl
set_option maxRecDepth 100000 in
theorem t193_201 : sm_at 193 201 = some (1, .aload_n 0, 0, 0, 0) := rfl
set_option maxRecDepth 100000 in
theorem t193_202 : sm_at 193 202 = some (3, .getfield 62, 11, 36, 0) := rfl
set_option maxRecDepth 100000 in
theorem t193_205 : sm_at 193 205 = some (2, .iload 4, 0, 0, 0) := rfl
set_option maxRecDepth 100000 in
theorem t193_207 : sm_at 193 207 = some (1, .iaload, 0, 0, 0) := rfl
set_option maxRecDepth 100000 in
theorem t193_208 : sm_at 193 208 = some (2, .istore 5, 0, 0, 0) := rfl
set_option maxRecDepth 100000 in
theorem t193_210 : sm_at 193 210 = some (2, .iload 4, 0, 0, 0) := rfl
set_option maxRecDepth 100000 in
theorem t193_212 : sm_at 193 212 = some (2, .bipush 10, 0, 0, 0) := rfl
set_option maxRecDepth 100000 in
theorem t193_214 : sm_at 193 214 = some (2, .iload 5, 0, 0, 0) := rfl
set_option maxRecDepth 100000 in
theorem t193_216 : sm_at 193 216 = some (3, .invokestatic 242, 161, 1, 0) := rfl
set_option maxRecDepth 100000 in
theorem t193_219 : sm_at 193 219 = some (1, .imul, 0, 0, 0) := rfl
set_option maxRecDepth 100000 in
theorem t193_220 : sm_at 193 220 = some (1, .isub, 0, 0, 0) := rfl
set_option maxRecDepth 100000 in
theorem t193_221 : sm_at 193 221 = some (2, .iload 5, 0, 0, 0) := rfl
set_option maxRecDepth 100000 in
theorem t193_223 : sm_at 193 223 = some (3, .invokestatic 239, 160, 1, 0) := rfl
set_option maxRecDepth 100000 in
theorem t193_226 : sm_at 193 226 = some (1, .isub, 0, 0, 0) := rfl
set_option maxRecDepth 100000 in
theorem t193_227 : sm_at 193 227 = some (2, .istore 6, 0, 0, 0) := rfl
set_option maxRecDepth 100000 in
theorem t193_229 : sm_at 193 229 = some (1, .aload_n 0, 0, 0, 0) := rfl
set_option maxRecDepth 100000 in
theorem t193_230 : sm_at 193 230 = some (3, .getfield 59, 11, 35, 0) := rfl
set_option maxRecDepth 100000 in
theorem t193_233 : sm_at 193 233 = some (1, .iconst 4, 0, 0, 0) := rfl
set_option maxRecDepth 100000 in
theorem t193_234 : sm_at 193 234 = some (2, .iload 6, 0, 0, 0) := rfl
set_option maxRecDepth 100000 in
theorem t193_236 : sm_at 193 236 = some (1, .imul, 0, 0, 0) := rfl
set_option maxRecDepth 100000 in
theorem t193_237 : sm_at 193 237 = some (2, .iload 5, 0, 0, 0) := rfl
set_option maxRecDepth 100000 in
theorem t193_239 : sm_at 193 239 = some (1, .iadd, 0, 0, 0) := rfl
set_option maxRecDepth 100000 in
theorem t193_240 : sm_at 193 240 = some (1, .dup2, 0, 0, 0) := rfl
set_option maxRecDepth 100000 in
theorem t193_241 : sm_at 193 241 = some (1, .iaload, 0, 0, 0) := rfl
set_option maxRecDepth 100000 in
theorem t193_242 : sm_at 193 242 = some (1, .iconst 1, 0, 0, 0) := rfl
set_option maxRecDepth 100000 in
theorem t193_243 : sm_at 193 243 = some (1, .iadd, 0, 0, 0) := rfl
set_option maxRecDepth 100000 in
theorem t193_244 : sm_at 193 244 = some (1, .iastore, 0, 0, 0) := rfl
set_option maxRecDepth 100000 in
theorem t193_245 : sm_at 193 245 = some (1, .aload_n 0, 0, 0, 0) := rfl
set_option maxRecDepth 100000 in
theorem t193_246 : sm_at 193 246 = some (3, .getfield 59, 11, 35, 0) := rfl
set_option maxRecDepth 100000 in
theorem t193_249 : sm_at 193 249 = some (1, .iconst 4, 0, 0, 0) := rfl
set_option maxRecDepth 100000 in
theorem t193_250 : sm_at 193 250 = some (2, .iload 4, 0, 0, 0) := rfl
set_option maxRecDepth 100000 in
theorem t193_252 : sm_at 193 252 = some (1, .imul, 0, 0, 0) := rfl
set_option maxRecDepth 100000 in
theorem t193_253 : sm_at 193 253 = some (2, .iload 5, 0, 0, 0) := rfl
set_option maxRecDepth 100000 in
theorem t193_255 : sm_at 193 255 = some (1, .iconst 2, 0, 0, 0) := rfl
set_option maxRecDepth 100000 in
theorem t193_256 : sm_at 193 256 = some (1, .iadd, 0, 0, 0) := rfl
set_option maxRecDepth 100000 in
theorem t193_257 : sm_at 193 257 = some (1, .iconst 4, 0, 0, 0) := rfl
set_option maxRecDepth 100000 in
theorem t193_258 : sm_at 193 258 = some (1, .irem, 0, 0, 0) := rfl
set_option maxRecDepth 100000 in
theorem t193_259 : sm_at 193 259 = some (1, .iadd, 0, 0, 0) := rfl
set_option maxRecDepth 100000 in
theorem t193_260 : sm_at 193 260 = some (1, .dup2, 0, 0, 0) := rfl
set_option maxRecDepth 100000 in
theorem t193_261 : sm_at 193 261 = some (1, .iaload, 0, 0, 0) := rfl
set_option maxRecDepth 100000 in
theorem t193_262 : sm_at 193 262 = some (1, .iconst 1, 0, 0, 0) := rfl
set_option maxRecDepth 100000 in
theorem t193_263 : sm_at 193 263 = some (1, .isub, 0, 0, 0) := rfl
set_option maxRecDepth 100000 in
theorem t193_264 : sm_at 193 264 = some (1, .iastore, 0, 0, 0) := rfl
set_option maxRecDepth 100000 in
theorem t193_265 : sm_at 193 265 = some (2, .iload 6, 0, 0, 0) := rfl
set_option maxRecDepth 100000 in
theorem t193_267 : sm_at 193 267 = some (2, .istore 4, 0, 0, 0) := rfl
set_option maxRecDepth 100000 in
theorem t193_269 : sm_at 193 269 = some (3, .goto (-74), 0, 0, 0) := rfl
set_option maxRecDepth 100000 in
theorem t193_272 : sm_at 193 272 = some (1, .iconst 1, 0, 0, 0) := rfl
set_option maxRecDepth 100000 in
theorem t193_273 : sm_at 193 273 = some (1, .ireturn, 1, 0, 0) := rfl
set_option maxRecDepth 10000 in
theorem b193_0 {d : Nat} {l0 : Option sm_V} {l1 : Option sm_V} {l2 : Option sm_V} {l3 : Option sm_V} {l4 : Option sm_V} {l5 : Option sm_V} {l6 : Option sm_V} {l7 : Option sm_V} {Z : Nat → Nat → Int} {Rf : Nat → Nat → Option Nat} {K : Nat → Nat × Nat} {n z : Nat} {Q : Option sm_V → sm_S → Prop} : sm_wp d 193 0 [l0, l1, l2, l3, l4, l5, l6, l7] [] (Z, Rf, K, n, z) Q = (sm_wp d 193 2 [l0, l1, l2, some (.inl 0), l4, l5, l6, l7] [] (Z, Rf, K, n, z) Q) := (w_iconst t193_0 rfl).trans (w_istore_n t193_1 rfl (Nat.le_of_ble_eq_true rfl) rfl)
set_option maxRecDepth 10000 in
theorem b193_2 {d : Nat} {l0 : Option sm_V} {l1 : Option sm_V} {l2 : Option sm_V} {x3 : Int} {l4 : Option sm_V} {l5 : Option sm_V} {l6 : Option sm_V} {l7 : Option sm_V} {Z : Nat → Nat → Int} {Rf : Nat → Nat → Option Nat} {K : Nat → Nat × Nat} {n z : Nat} {Q : Option sm_V → sm_S → Prop} : sm_wp d 193 2 [l0, l1, l2, some (.inl x3), l4, l5, l6, l7] [] (Z, Rf, K, n, z) Q = (if (100 : Int) ≤ wr x3 then sm_wp d 193 21 [l0, l1, l2, some (.inl x3), l4, l5, l6, l7] [] (Z, Rf, K, n, z) Q else sm_wp d 193 8 [l0, l1, l2, some (.inl x3), l4, l5, l6, l7] [] (Z, Rf, K, n, z) Q) := (w_iload_n t193_2 rfl rfl).trans ((w_bipush t193_3 rfl).trans (w_icge t193_5 rfl wl_100 rfl rfl))
set_option maxRecDepth 10000 in
theorem b193_8 {d : Nat} {r0 : Nat} {l1 : Option sm_V} {l2 : Option sm_V} {x3 : Int} {l4 : Option sm_V} {l5 : Option sm_V} {l6 : Option sm_V} {l7 : Option sm_V} {Z : Nat → Nat → Int} {Rf : Nat → Nat → Option Nat} {K : Nat → Nat × Nat} {n z : Nat} {Q : Option sm_V → sm_S → Prop} : sm_wp d 193 8 [some (.inr (some r0)), l1, l2, some (.inl x3), l4, l5, l6, l7] [] (Z, Rf, K, n, z) Q = ((K r0).1 = 11 ∧ (Rf r0 36).isSome = true ∧ sm_wt (K (((Rf r0 36).getD 0))) (wr x3) ∧ sm_wp d 193 2 [some (.inr (some r0)), l1, l2, some (.inl (x3 + 1)), l4, l5, l6, l7] [] (sm_u Z (((Rf r0 36).getD 0)) ((wr x3).toNat) ((-1)), Rf, K, n, z) Q) := (w_aload_n t193_8 rfl rfl).trans ((w_getR t193_9 rfl (by decide)).trans (congrArg (And _) (congrArg (And _) ((w_iload_n t193_12 rfl rfl).trans ((w_iconst t193_13 rfl).trans ((w_iast t193_14 rfl rfl).trans (congrArg (And _) ((w_iinc t193_15 rfl rfl (Nat.le_of_ble_eq_true rfl) rfl).trans (w_goto t193_18 rfl)))))))))
set_option maxRecDepth 10000 in
theorem b193_21 {d : Nat} {r0 : Nat} {x1 : Int} {l2 : Option sm_V} {l3 : Option sm_V} {l4 : Option sm_V} {l5 : Option sm_V} {l6 : Option sm_V} {l7 : Option sm_V} {Z : Nat → Nat → Int} {Rf : Nat → Nat → Option Nat} {K : Nat → Nat × Nat} {n z : Nat} {Q : Option sm_V → sm_S → Prop} : sm_wp d 193 21 [some (.inr (some r0)), some (.inl x1), l2, l3, l4, l5, l6, l7] [] (Z, Rf, K, n, z) Q = ((K r0).1 = 11 ∧ (Rf r0 29).isSome = true ∧ sm_wt (K (((Rf r0 29).getD 0))) ((0 : Int)) ∧ (K r0).1 = 11 ∧ (Rf r0 36).isSome = true ∧ sm_wt (K (((Rf r0 36).getD 0))) (wr x1) ∧ sm_wp d 193 43 [some (.inr (some r0)), some (.inl x1), l2, some (.inl (0 + 1)), some (.inl 0), l5, l6, l7] [] (sm_u (sm_u Z (((Rf r0 29).getD 0)) 0 x1) (((Rf r0 36).getD 0)) ((wr x1).toNat) 4, Rf, K, n, z) Q) := (w_iconst t193_21 rfl).trans ((w_istore_n t193_22 rfl (Nat.le_of_ble_eq_true rfl) rfl).trans ((w_aload_n t193_23 rfl rfl).trans ((w_getR t193_24 rfl (by decide)).trans (congrArg (And _) (congrArg (And _) ((w_iload_n t193_27 rfl rfl).trans ((w_iload_n t193_28 rfl rfl).trans ((w_iast t193_29 rfl wl_0).trans (congrArg (And _) ((w_iinc t193_30 rfl rfl (Nat.le_of_ble_eq_true rfl) rfl).trans ((w_aload_n t193_33 rfl rfl).trans ((w_getR t193_34 rfl (by decide)).trans (congrArg (And _) (congrArg (And _) ((w_iload_n t193_37 rfl rfl).trans ((w_iconst t193_38 rfl).trans ((w_iast t193_39 rfl rfl).trans (congrArg (And _) ((w_iconst t193_40 rfl).trans (w_istore t193_41 rfl (Nat.le_of_ble_eq_true rfl) rfl))))))))))))))))))))
set_option maxRecDepth 10000 in
theorem b193_43 {d : Nat} {l0 : Option sm_V} {l1 : Option sm_V} {l2 : Option sm_V} {x3 : Int} {x4 : Int} {l5 : Option sm_V} {l6 : Option sm_V} {l7 : Option sm_V} {Z : Nat → Nat → Int} {Rf : Nat → Nat → Option Nat} {K : Nat → Nat × Nat} {n z : Nat} {Q : Option sm_V → sm_S → Prop} : sm_wp d 193 43 [l0, l1, l2, some (.inl x3), some (.inl x4), l5, l6, l7] [] (Z, Rf, K, n, z) Q = (if wr x3 ≤ wr x4 then sm_wp d 193 180 [l0, l1, l2, some (.inl x3), some (.inl x4), l5, l6, l7] [] (Z, Rf, K, n, z) Q else sm_wp d 193 49 [l0, l1, l2, some (.inl x3), some (.inl x4), l5, l6, l7] [] (Z, Rf, K, n, z) Q) := (w_iload t193_43 rfl rfl).trans ((w_iload_n t193_45 rfl rfl).trans (w_icge t193_46 rfl rfl rfl rfl))
set_option maxRecDepth 10000 in
theorem b193_49 {d : Nat} {r0 : Nat} {l1 : Option sm_V} {x2 : Int} {l3 : Option sm_V} {l4 : Option sm_V} {l5 : Option sm_V} {l6 : Option sm_V} {l7 : Option sm_V} {Z : Nat → Nat → Int} {Rf : Nat → Nat → Option Nat} {K : Nat → Nat × Nat} {n z : Nat} {Q : Option sm_V → sm_S → Prop} : sm_wp d 193 49 [some (.inr (some r0)), l1, some (.inl x2), l3, l4, l5, l6, l7] [] (Z, Rf, K, n, z) Q = ((K r0).1 = 11 ∧ (Rf r0 36).isSome = true ∧ sm_rd (K (((Rf r0 36).getD 0))) (wr x2) ∧ (if wr (Z (((Rf r0 36).getD 0)) ((wr x2).toNat)) = (-1 : Int) then sm_wp d 193 59 [some (.inr (some r0)), l1, some (.inl x2), l3, l4, l5, l6, l7] [] (Z, Rf, K, n, z) Q else sm_wp d 193 180 [some (.inr (some r0)), l1, some (.inl x2), l3, l4, l5, l6, l7] [] (Z, Rf, K, n, z) Q)) := (w_aload_n t193_49 rfl rfl).trans ((w_getR t193_50 rfl (by decide)).trans (congrArg (And _) (congrArg (And _) ((w_iload_n t193_53 rfl rfl).trans ((w_iald t193_54 rfl rfl).trans (congrArg (And _) ((w_iconst t193_55 rfl).trans (w_icne t193_56 rfl wl_m1 rfl rfl))))))))
set_option maxRecDepth 10000 in
theorem b193_59 {d : Nat} {r0 : Nat} {l1 : Option sm_V} {l2 : Option sm_V} {l3 : Option sm_V} {x4 : Int} {l5 : Option sm_V} {l6 : Option sm_V} {l7 : Option sm_V} {Z : Nat → Nat → Int} {Rf : Nat → Nat → Option Nat} {K : Nat → Nat × Nat} {n z : Nat} {Q : Option sm_V → sm_S → Prop} : sm_wp d 193 59 [some (.inr (some r0)), l1, l2, l3, some (.inl x4), l5, l6, l7] [] (Z, Rf, K, n, z) Q = ((K r0).1 = 11 ∧ (Rf r0 29).isSome = true ∧ sm_rd (K (((Rf r0 29).getD 0))) (wr x4) ∧ sm_wp d 193 71 [some (.inr (some r0)), l1, l2, l3, some (.inl x4), some (.inl (Z (((Rf r0 29).getD 0)) ((wr x4).toNat))), some (.inl 0), l7] [] (Z, Rf, K, n, z) Q) := (w_aload_n t193_59 rfl rfl).trans ((w_getR t193_60 rfl (by decide)).trans (congrArg (And _) (congrArg (And _) ((w_iload t193_63 rfl rfl).trans ((w_iald t193_65 rfl rfl).trans (congrArg (And _) ((w_istore t193_66 rfl (Nat.le_of_ble_eq_true rfl) rfl).trans ((w_iconst t193_68 rfl).trans (w_istore t193_69 rfl (Nat.le_of_ble_eq_true rfl) rfl)))))))))
set_option maxRecDepth 10000 in
theorem b193_71 {d : Nat} {l0 : Option sm_V} {l1 : Option sm_V} {l2 : Option sm_V} {l3 : Option sm_V} {l4 : Option sm_V} {l5 : Option sm_V} {x6 : Int} {l7 : Option sm_V} {Z : Nat → Nat → Int} {Rf : Nat → Nat → Option Nat} {K : Nat → Nat × Nat} {n z : Nat} {Q : Option sm_V → sm_S → Prop} : sm_wp d 193 71 [l0, l1, l2, l3, l4, l5, some (.inl x6), l7] [] (Z, Rf, K, n, z) Q = (if (4 : Int) ≤ wr x6 then sm_wp d 193 174 [l0, l1, l2, l3, l4, l5, some (.inl x6), l7] [] (Z, Rf, K, n, z) Q else sm_wp d 193 77 [l0, l1, l2, l3, l4, l5, some (.inl x6), l7] [] (Z, Rf, K, n, z) Q) := (w_iload t193_71 rfl rfl).trans ((w_iconst t193_73 rfl).trans (w_icge t193_74 rfl wl_4 rfl rfl))
set_option maxRecDepth 10000 in
theorem b193_77 {d : Nat} {r0 : Nat} {l1 : Option sm_V} {l2 : Option sm_V} {l3 : Option sm_V} {l4 : Option sm_V} {x5 : Int} {x6 : Int} {l7 : Option sm_V} {Z : Nat → Nat → Int} {Rf : Nat → Nat → Option Nat} {K : Nat → Nat × Nat} {n z : Nat} {Q : Option sm_V → sm_S → Prop} : sm_wp (d + 1) 193 77 [some (.inr (some r0)), l1, l2, l3, l4, some (.inl x5), some (.inl x6), l7] [] (Z, Rf, K, n, z) Q = (¬ (10 : Int) = 0 ∧ ¬ (10 : Int) = 0 ∧ (K r0).1 = 11 ∧ sm_call d 172 [.inr (some r0), .inl (sm_rem x5 10), .inl (sm_div x5 10), .inl x6] (Z, Rf, K, n, z) (sm_cont (d + 1) 193 93 [some (.inr (some r0)), l1, l2, l3, l4, some (.inl x5), some (.inl x6), l7] [] Q)) := (w_aload_n t193_77 rfl rfl).trans ((w_iload t193_78 rfl rfl).trans ((w_bipush t193_80 rfl).trans ((w_irem t193_82 rfl wl_10).trans (congrArg (And _) ((w_iload t193_83 rfl rfl).trans ((w_bipush t193_85 rfl).trans ((w_idiv t193_87 rfl wl_10).trans (congrArg (And _) ((w_iload t193_88 rfl rfl).trans (w_callV t193_90 rfl rfl rfl rfl (Nat.le_of_ble_eq_true rfl) (Nat.le_of_ble_eq_true rfl) rfl (by decide)))))))))))
set_option maxRecDepth 10000 in
theorem b193_93 {d : Nat} {l0 : Option sm_V} {l1 : Option sm_V} {l2 : Option sm_V} {l3 : Option sm_V} {l4 : Option sm_V} {l5 : Option sm_V} {l6 : Option sm_V} {l7 : Option sm_V} {s0 : Int} {Z : Nat → Nat → Int} {Rf : Nat → Nat → Option Nat} {K : Nat → Nat × Nat} {n z : Nat} {Q : Option sm_V → sm_S → Prop} : sm_wp d 193 93 [l0, l1, l2, l3, l4, l5, l6, l7] [.inl s0] (Z, Rf, K, n, z) Q = (if wr s0 = 0 then sm_wp d 193 168 [l0, l1, l2, l3, l4, l5, l6, l7] [] (Z, Rf, K, n, z) Q else sm_wp d 193 96 [l0, l1, l2, l3, l4, l5, l6, l7] [] (Z, Rf, K, n, z) Q) := w_ifeq t193_93 rfl rfl rfl
set_option maxRecDepth 10000 in
theorem b193_96 {d : Nat} {r0 : Nat} {l1 : Option sm_V} {l2 : Option sm_V} {l3 : Option sm_V} {l4 : Option sm_V} {x5 : Int} {x6 : Int} {l7 : Option sm_V} {Z : Nat → Nat → Int} {Rf : Nat → Nat → Option Nat} {K : Nat → Nat × Nat} {n z : Nat} {Q : Option sm_V → sm_S → Prop} : sm_wp d 193 96 [some (.inr (some r0)), l1, l2, l3, l4, some (.inl x5), some (.inl x6), l7] [] (Z, Rf, K, n, z) Q = ((K r0).1 = 11 ∧ (Rf r0 35).isSome = true ∧ sm_rd (K (((Rf r0 35).getD 0))) (wr ((4 * x5) + x6)) ∧ (if wr (Z (((Rf r0 35).getD 0)) ((wr ((4 * x5) + x6)).toNat)) = (1 : Int) then sm_wp d 193 112 [some (.inr (some r0)), l1, l2, l3, l4, some (.inl x5), some (.inl x6), l7] [] (Z, Rf, K, n, z) Q else sm_wp d 193 115 [some (.inr (some r0)), l1, l2, l3, l4, some (.inl x5), some (.inl x6), l7] [] (Z, Rf, K, n, z) Q)) := (w_aload_n t193_96 rfl rfl).trans ((w_getR t193_97 rfl (by decide)).trans (congrArg (And _) (congrArg (And _) ((w_iconst t193_100 rfl).trans ((w_iload t193_101 rfl rfl).trans ((w_imul t193_103 rfl).trans ((w_iload t193_104 rfl rfl).trans ((w_iadd t193_106 rfl).trans ((w_iald t193_107 rfl rfl).trans (congrArg (And _) ((w_iconst t193_108 rfl).trans (w_icne t193_109 rfl wl_1 rfl rfl))))))))))))
set_option maxRecDepth 10000 in
theorem b193_112 {d : Nat} {l0 : Option sm_V} {l1 : Option sm_V} {l2 : Option sm_V} {l3 : Option sm_V} {l4 : Option sm_V} {l5 : Option sm_V} {l6 : Option sm_V} {l7 : Option sm_V} {Z : Nat → Nat → Int} {Rf : Nat → Nat → Option Nat} {K : Nat → Nat × Nat} {n z : Nat} {Q : Option sm_V → sm_S → Prop} : sm_wp d 193 112 [l0, l1, l2, l3, l4, l5, l6, l7] [] (Z, Rf, K, n, z) Q = (sm_wp d 193 168 [l0, l1, l2, l3, l4, l5, l6, l7] [] (Z, Rf, K, n, z) Q) := w_goto t193_112 rfl
set_option maxRecDepth 10000 in
theorem b193_115 {d : Nat} {l0 : Option sm_V} {l1 : Option sm_V} {l2 : Option sm_V} {l3 : Option sm_V} {l4 : Option sm_V} {x5 : Int} {x6 : Int} {l7 : Option sm_V} {Z : Nat → Nat → Int} {Rf : Nat → Nat → Option Nat} {K : Nat → Nat × Nat} {n z : Nat} {Q : Option sm_V → sm_S → Prop} : sm_wp (d + 1) 193 115 [l0, l1, l2, l3, l4, some (.inl x5), some (.inl x6), l7] [] (Z, Rf, K, n, z) Q = (sm_call d 161 [.inl x6] (Z, Rf, K, n, z) (sm_cont (d + 1) 193 124 [l0, l1, l2, l3, l4, some (.inl x5), some (.inl x6), l7] [.inl 10, .inl x5] Q)) := (w_iload t193_115 rfl rfl).trans ((w_bipush t193_117 rfl).trans ((w_iload t193_119 rfl rfl).trans (w_callS t193_121 rfl rfl rfl rfl (Nat.le_of_ble_eq_true rfl) (Nat.le_of_ble_eq_true rfl) rfl)))
set_option maxRecDepth 10000 in
theorem b193_124 {d : Nat} {l0 : Option sm_V} {l1 : Option sm_V} {l2 : Option sm_V} {l3 : Option sm_V} {l4 : Option sm_V} {l5 : Option sm_V} {x6 : Int} {l7 : Option sm_V} {s0 : Int} {s1 : Int} {s2 : Int} {Z : Nat → Nat → Int} {Rf : Nat → Nat → Option Nat} {K : Nat → Nat × Nat} {n z : Nat} {Q : Option sm_V → sm_S → Prop} : sm_wp (d + 1) 193 124 [l0, l1, l2, l3, l4, l5, some (.inl x6), l7] [.inl s2, .inl s1, .inl s0] (Z, Rf, K, n, z) Q = (sm_call d 160 [.inl x6] (Z, Rf, K, n, z) (sm_cont (d + 1) 193 131 [l0, l1, l2, l3, l4, l5, some (.inl x6), l7] [.inl (s0 + (s1 * s2))] Q)) := (w_imul t193_124 rfl).trans ((w_iadd t193_125 rfl).trans ((w_iload t193_126 rfl rfl).trans (w_callS t193_128 rfl rfl rfl rfl (Nat.le_of_ble_eq_true rfl) (Nat.le_of_ble_eq_true rfl) rfl)))
set_option maxRecDepth 10000 in
theorem b193_131 {d : Nat} {r0 : Nat} {l1 : Option sm_V} {l2 : Option sm_V} {l3 : Option sm_V} {l4 : Option sm_V} {l5 : Option sm_V} {l6 : Option sm_V} {l7 : Option sm_V} {s0 : Int} {s1 : Int} {Z : Nat → Nat → Int} {Rf : Nat → Nat → Option Nat} {K : Nat → Nat × Nat} {n z : Nat} {Q : Option sm_V → sm_S → Prop} : sm_wp d 193 131 [some (.inr (some r0)), l1, l2, l3, l4, l5, l6, l7] [.inl s1, .inl s0] (Z, Rf, K, n, z) Q = ((K r0).1 = 11 ∧ (Rf r0 36).isSome = true ∧ sm_rd (K (((Rf r0 36).getD 0))) (wr (s0 + s1)) ∧ (if wr (Z (((Rf r0 36).getD 0)) ((wr (s0 + s1)).toNat)) = (-1 : Int) then sm_wp d 193 148 [some (.inr (some r0)), l1, l2, l3, l4, l5, l6, some (.inl (s0 + s1))] [] (Z, Rf, K, n, z) Q else sm_wp d 193 145 [some (.inr (some r0)), l1, l2, l3, l4, l5, l6, some (.inl (s0 + s1))] [] (Z, Rf, K, n, z) Q)) := (w_iadd t193_131 rfl).trans ((w_istore t193_132 rfl (Nat.le_of_ble_eq_true rfl) rfl).trans ((w_aload_n t193_134 rfl rfl).trans ((w_getR t193_135 rfl (by decide)).trans (congrArg (And _) (congrArg (And _) ((w_iload t193_138 rfl rfl).trans ((w_iald t193_140 rfl rfl).trans (congrArg (And _) ((w_iconst t193_141 rfl).trans (w_iceq t193_142 rfl wl_m1 rfl rfl))))))))))
set_option maxRecDepth 10000 in
theorem b193_145 {d : Nat} {l0 : Option sm_V} {l1 : Option sm_V} {l2 : Option sm_V} {l3 : Option sm_V} {l4 : Option sm_V} {l5 : Option sm_V} {l6 : Option sm_V} {l7 : Option sm_V} {Z : Nat → Nat → Int} {Rf : Nat → Nat → Option Nat} {K : Nat → Nat × Nat} {n z : Nat} {Q : Option sm_V → sm_S → Prop} : sm_wp d 193 145 [l0, l1, l2, l3, l4, l5, l6, l7] [] (Z, Rf, K, n, z) Q = (sm_wp d 193 168 [l0, l1, l2, l3, l4, l5, l6, l7] [] (Z, Rf, K, n, z) Q) := w_goto t193_145 rfl
set_option maxRecDepth 10000 in
theorem b193_148 {d : Nat} {r0 : Nat} {l1 : Option sm_V} {l2 : Option sm_V} {x3 : Int} {l4 : Option sm_V} {l5 : Option sm_V} {x6 : Int} {x7 : Int} {Z : Nat → Nat → Int} {Rf : Nat → Nat → Option Nat} {K : Nat → Nat × Nat} {n z : Nat} {Q : Option sm_V → sm_S → Prop} : sm_wp d 193 148 [some (.inr (some r0)), l1, l2, some (.inl x3), l4, l5, some (.inl x6), some (.inl x7)] [] (Z, Rf, K, n, z) Q = ((K r0).1 = 11 ∧ (Rf r0 36).isSome = true ∧ sm_wt (K (((Rf r0 36).getD 0))) (wr x7) ∧ (K r0).1 = 11 ∧ (Rf r0 29).isSome = true ∧ sm_wt (K (((Rf r0 29).getD 0))) (wr x3) ∧ sm_wp d 193 168 [some (.inr (some r0)), l1, l2, some (.inl (x3 + 1)), l4, l5, some (.inl x6), some (.inl x7)] [] (sm_u (sm_u Z (((Rf r0 36).getD 0)) ((wr x7).toNat) x6) (((Rf r0 29).getD 0)) ((wr x3).toNat) x7, Rf, K, n, z) Q) := (w_aload_n t193_148 rfl rfl).trans ((w_getR t193_149 rfl (by decide)).trans (congrArg (And _) (congrArg (And _) ((w_iload t193_152 rfl rfl).trans ((w_iload t193_154 rfl rfl).trans ((w_iast t193_156 rfl rfl).trans (congrArg (And _) ((w_aload_n t193_157 rfl rfl).trans ((w_getR t193_158 rfl (by decide)).trans (congrArg (And _) (congrArg (And _) ((w_iload_n t193_161 rfl rfl).trans ((w_iload t193_162 rfl rfl).trans ((w_iast t193_164 rfl rfl).trans (congrArg (And _) (w_iinc t193_165 rfl rfl (Nat.le_of_ble_eq_true rfl) rfl))))))))))))))))
set_option maxRecDepth 10000 in
theorem b193_168 {d : Nat} {l0 : Option sm_V} {l1 : Option sm_V} {l2 : Option sm_V} {l3 : Option sm_V} {l4 : Option sm_V} {l5 : Option sm_V} {x6 : Int} {l7 : Option sm_V} {Z : Nat → Nat → Int} {Rf : Nat → Nat → Option Nat} {K : Nat → Nat × Nat} {n z : Nat} {Q : Option sm_V → sm_S → Prop} : sm_wp d 193 168 [l0, l1, l2, l3, l4, l5, some (.inl x6), l7] [] (Z, Rf, K, n, z) Q = (sm_wp d 193 71 [l0, l1, l2, l3, l4, l5, some (.inl (x6 + 1)), l7] [] (Z, Rf, K, n, z) Q) := (w_iinc t193_168 rfl rfl (Nat.le_of_ble_eq_true rfl) rfl).trans (w_goto t193_171 rfl)
set_option maxRecDepth 10000 in
theorem b193_174 {d : Nat} {l0 : Option sm_V} {l1 : Option sm_V} {l2 : Option sm_V} {l3 : Option sm_V} {x4 : Int} {l5 : Option sm_V} {l6 : Option sm_V} {l7 : Option sm_V} {Z : Nat → Nat → Int} {Rf : Nat → Nat → Option Nat} {K : Nat → Nat × Nat} {n z : Nat} {Q : Option sm_V → sm_S → Prop} : sm_wp d 193 174 [l0, l1, l2, l3, some (.inl x4), l5, l6, l7] [] (Z, Rf, K, n, z) Q = (sm_wp d 193 43 [l0, l1, l2, l3, some (.inl (x4 + 1)), l5, l6, l7] [] (Z, Rf, K, n, z) Q) := (w_iinc t193_174 rfl rfl (Nat.le_of_ble_eq_true rfl) rfl).trans (w_goto t193_177 rfl)
set_option maxRecDepth 10000 in
theorem b193_180 {d : Nat} {r0 : Nat} {l1 : Option sm_V} {x2 : Int} {l3 : Option sm_V} {l4 : Option sm_V} {l5 : Option sm_V} {l6 : Option sm_V} {l7 : Option sm_V} {Z : Nat → Nat → Int} {Rf : Nat → Nat → Option Nat} {K : Nat → Nat × Nat} {n z : Nat} {Q : Option sm_V → sm_S → Prop} : sm_wp d 193 180 [some (.inr (some r0)), l1, some (.inl x2), l3, l4, l5, l6, l7] [] (Z, Rf, K, n, z) Q = ((K r0).1 = 11 ∧ (Rf r0 36).isSome = true ∧ sm_rd (K (((Rf r0 36).getD 0))) (wr x2) ∧ (if wr (Z (((Rf r0 36).getD 0)) ((wr x2).toNat)) = (-1 : Int) then sm_wp d 193 190 [some (.inr (some r0)), l1, some (.inl x2), l3, l4, l5, l6, l7] [] (Z, Rf, K, n, z) Q else sm_wp d 193 192 [some (.inr (some r0)), l1, some (.inl x2), l3, l4, l5, l6, l7] [] (Z, Rf, K, n, z) Q)) := (w_aload_n t193_180 rfl rfl).trans ((w_getR t193_181 rfl (by decide)).trans (congrArg (And _) (congrArg (And _) ((w_iload_n t193_184 rfl rfl).trans ((w_iald t193_185 rfl rfl).trans (congrArg (And _) ((w_iconst t193_186 rfl).trans (w_icne t193_187 rfl wl_m1 rfl rfl))))))))
set_option maxRecDepth 10000 in
theorem b193_190 {d : Nat} {l0 : Option sm_V} {l1 : Option sm_V} {l2 : Option sm_V} {l3 : Option sm_V} {l4 : Option sm_V} {l5 : Option sm_V} {l6 : Option sm_V} {l7 : Option sm_V} {Z : Nat → Nat → Int} {Rf : Nat → Nat → Option Nat} {K : Nat → Nat × Nat} {n z : Nat} {Q : Option sm_V → sm_S → Prop} : sm_wp d 193 190 [l0, l1, l2, l3, l4, l5, l6, l7] [] (Z, Rf, K, n, z) Q = (((0 : Int) = 0 ∨ (0 : Int) = 1) ∧ Q (some (.inl 0)) (Z, Rf, K, n, z)) := (w_iconst t193_190 rfl).trans (w_zret t193_191 wl_0)
set_option maxRecDepth 10000 in
theorem b193_192 {d : Nat} {l0 : Option sm_V} {l1 : Option sm_V} {x2 : Int} {l3 : Option sm_V} {l4 : Option sm_V} {l5 : Option sm_V} {l6 : Option sm_V} {l7 : Option sm_V} {Z : Nat → Nat → Int} {Rf : Nat → Nat → Option Nat} {K : Nat → Nat × Nat} {n z : Nat} {Q : Option sm_V → sm_S → Prop} : sm_wp d 193 192 [l0, l1, some (.inl x2), l3, l4, l5, l6, l7] [] (Z, Rf, K, n, z) Q = (sm_wp d 193 195 [l0, l1, some (.inl x2), l3, some (.inl x2), l5, l6, l7] [] (Z, Rf, K, n, z) Q) := (w_iload_n t193_192 rfl rfl).trans (w_istore t193_193 rfl (Nat.le_of_ble_eq_true rfl) rfl)
set_option maxRecDepth 10000 in
theorem b193_195 {d : Nat} {l0 : Option sm_V} {x1 : Int} {l2 : Option sm_V} {l3 : Option sm_V} {x4 : Int} {l5 : Option sm_V} {l6 : Option sm_V} {l7 : Option sm_V} {Z : Nat → Nat → Int} {Rf : Nat → Nat → Option Nat} {K : Nat → Nat × Nat} {n z : Nat} {Q : Option sm_V → sm_S → Prop} : sm_wp d 193 195 [l0, some (.inl x1), l2, l3, some (.inl x4), l5, l6, l7] [] (Z, Rf, K, n, z) Q = (if wr x4 = wr x1 then sm_wp d 193 272 [l0, some (.inl x1), l2, l3, some (.inl x4), l5, l6, l7] [] (Z, Rf, K, n, z) Q else sm_wp d 193 201 [l0, some (.inl x1), l2, l3, some (.inl x4), l5, l6, l7] [] (Z, Rf, K, n, z) Q) := (w_iload t193_195 rfl rfl).trans ((w_iload_n t193_197 rfl rfl).trans (w_iceq t193_198 rfl rfl rfl rfl))
set_option maxRecDepth 10000 in
theorem b193_201 {d : Nat} {r0 : Nat} {l1 : Option sm_V} {l2 : Option sm_V} {l3 : Option sm_V} {x4 : Int} {l5 : Option sm_V} {l6 : Option sm_V} {l7 : Option sm_V} {Z : Nat → Nat → Int} {Rf : Nat → Nat → Option Nat} {K : Nat → Nat × Nat} {n z : Nat} {Q : Option sm_V → sm_S → Prop} : sm_wp (d + 1) 193 201 [some (.inr (some r0)), l1, l2, l3, some (.inl x4), l5, l6, l7] [] (Z, Rf, K, n, z) Q = ((K r0).1 = 11 ∧ (Rf r0 36).isSome = true ∧ sm_rd (K (((Rf r0 36).getD 0))) (wr x4) ∧ sm_call d 161 [.inl (Z (((Rf r0 36).getD 0)) ((wr x4).toNat))] (Z, Rf, K, n, z) (sm_cont (d + 1) 193 219 [some (.inr (some r0)), l1, l2, l3, some (.inl x4), some (.inl (Z (((Rf r0 36).getD 0)) ((wr x4).toNat))), l6, l7] [.inl 10, .inl x4] Q)) := (w_aload_n t193_201 rfl rfl).trans ((w_getR t193_202 rfl (by decide)).trans (congrArg (And _) (congrArg (And _) ((w_iload t193_205 rfl rfl).trans ((w_iald t193_207 rfl rfl).trans (congrArg (And _) ((w_istore t193_208 rfl (Nat.le_of_ble_eq_true rfl) rfl).trans ((w_iload t193_210 rfl rfl).trans ((w_bipush t193_212 rfl).trans ((w_iload t193_214 rfl rfl).trans (w_callS t193_216 rfl rfl rfl rfl (Nat.le_of_ble_eq_true rfl) (Nat.le_of_ble_eq_true rfl) rfl)))))))))))
set_option maxRecDepth 10000 in
theorem b193_219 {d : Nat} {l0 : Option sm_V} {l1 : Option sm_V} {l2 : Option sm_V} {l3 : Option sm_V} {l4 : Option sm_V} {x5 : Int} {l6 : Option sm_V} {l7 : Option sm_V} {s0 : Int} {s1 : Int} {s2 : Int} {Z : Nat → Nat → Int} {Rf : Nat → Nat → Option Nat} {K : Nat → Nat × Nat} {n z : Nat} {Q : Option sm_V → sm_S → Prop} : sm_wp (d + 1) 193 219 [l0, l1, l2, l3, l4, some (.inl x5), l6, l7] [.inl s2, .inl s1, .inl s0] (Z, Rf, K, n, z) Q = (sm_call d 160 [.inl x5] (Z, Rf, K, n, z) (sm_cont (d + 1) 193 226 [l0, l1, l2, l3, l4, some (.inl x5), l6, l7] [.inl (s0 - (s1 * s2))] Q)) := (w_imul t193_219 rfl).trans ((w_isub t193_220 rfl).trans ((w_iload t193_221 rfl rfl).trans (w_callS t193_223 rfl rfl rfl rfl (Nat.le_of_ble_eq_true rfl) (Nat.le_of_ble_eq_true rfl) rfl)))
set_option maxRecDepth 10000 in
theorem b193_226 {d : Nat} {r0 : Nat} {l1 : Option sm_V} {l2 : Option sm_V} {l3 : Option sm_V} {x4 : Int} {x5 : Int} {l6 : Option sm_V} {l7 : Option sm_V} {s0 : Int} {s1 : Int} {Z : Nat → Nat → Int} {Rf : Nat → Nat → Option Nat} {K : Nat → Nat × Nat} {n z : Nat} {Q : Option sm_V → sm_S → Prop} : sm_wp d 193 226 [some (.inr (some r0)), l1, l2, l3, some (.inl x4), some (.inl x5), l6, l7] [.inl s1, .inl s0] (Z, Rf, K, n, z) Q = ((K r0).1 = 11 ∧ (Rf r0 35).isSome = true ∧ sm_rd (K (((Rf r0 35).getD 0))) (wr ((4 * (s0 - s1)) + x5)) ∧ sm_wt (K (((Rf r0 35).getD 0))) (wr ((4 * (s0 - s1)) + x5)) ∧ (K r0).1 = 11 ∧ (Rf r0 35).isSome = true ∧ ¬ (4 : Int) = 0 ∧ sm_rd (K (((Rf r0 35).getD 0))) (wr ((4 * x4) + (sm_rem (x5 + 2) 4))) ∧ sm_wt (K (((Rf r0 35).getD 0))) (wr ((4 * x4) + (sm_rem (x5 + 2) 4))) ∧ sm_wp d 193 195 [some (.inr (some r0)), l1, l2, l3, some (.inl (s0 - s1)), some (.inl x5), some (.inl (s0 - s1)), l7] [] (sm_u (sm_u Z (((Rf r0 35).getD 0)) ((wr ((4 * (s0 - s1)) + x5)).toNat) ((Z (((Rf r0 35).getD 0)) ((wr ((4 * (s0 - s1)) + x5)).toNat)) + 1)) (((Rf r0 35).getD 0)) ((wr ((4 * x4) + (sm_rem (x5 + 2) 4))).toNat) (((sm_u Z (((Rf r0 35).getD 0)) ((wr ((4 * (s0 - s1)) + x5)).toNat) ((Z (((Rf r0 35).getD 0)) ((wr ((4 * (s0 - s1)) + x5)).toNat)) + 1)) (((Rf r0 35).getD 0)) ((wr ((4 * x4) + (sm_rem (x5 + 2) 4))).toNat)) - 1), Rf, K, n, z) Q) := (w_isub t193_226 rfl).trans ((w_istore t193_227 rfl (Nat.le_of_ble_eq_true rfl) rfl).trans ((w_aload_n t193_229 rfl rfl).trans ((w_getR t193_230 rfl (by decide)).trans (congrArg (And _) (congrArg (And _) ((w_iconst t193_233 rfl).trans ((w_iload t193_234 rfl rfl).trans ((w_imul t193_236 rfl).trans ((w_iload t193_237 rfl rfl).trans ((w_iadd t193_239 rfl).trans ((w_dup2 t193_240 rfl).trans ((w_iald t193_241 rfl rfl).trans (congrArg (And _) ((w_iconst t193_242 rfl).trans ((w_iadd t193_243 rfl).trans ((w_iast t193_244 rfl rfl).trans (congrArg (And _) ((w_aload_n t193_245 rfl rfl).trans ((w_getR t193_246 rfl (by decide)).trans (congrArg (And _) (congrArg (And _) ((w_iconst t193_249 rfl).trans ((w_iload t193_250 rfl rfl).trans ((w_imul t193_252 rfl).trans ((w_iload t193_253 rfl rfl).trans ((w_iconst t193_255 rfl).trans ((w_iadd t193_256 rfl).trans ((w_iconst t193_257 rfl).trans ((w_irem t193_258 rfl wl_4).trans (congrArg (And _) ((w_iadd t193_259 rfl).trans ((w_dup2 t193_260 rfl).trans ((w_iald t193_261 rfl rfl).trans (congrArg (And _) ((w_iconst t193_262 rfl).trans ((w_isub t193_263 rfl).trans ((w_iast t193_264 rfl rfl).trans (congrArg (And _) ((w_iload t193_265 rfl rfl).trans ((w_istore t193_267 rfl (Nat.le_of_ble_eq_true rfl) rfl).trans (w_goto t193_269 rfl)))))))))))))))))))))))))))))))))))))))))
set_option maxRecDepth 10000 in
theorem b193_272 {d : Nat} {l0 : Option sm_V} {l1 : Option sm_V} {l2 : Option sm_V} {l3 : Option sm_V} {l4 : Option sm_V} {l5 : Option sm_V} {l6 : Option sm_V} {l7 : Option sm_V} {Z : Nat → Nat → Int} {Rf : Nat → Nat → Option Nat} {K : Nat → Nat × Nat} {n z : Nat} {Q : Option sm_V → sm_S → Prop} : sm_wp d 193 272 [l0, l1, l2, l3, l4, l5, l6, l7] [] (Z, Rf, K, n, z) Q = (((1 : Int) = 0 ∨ (1 : Int) = 1) ∧ Q (some (.inl 1)) (Z, Rf, K, n, z)) := (w_iconst t193_272 rfl).trans (w_zret t193_273 wl_1)
theorem t194_0 : sm_at 194 0 = some (1, .aload_n 0, 0, 0, 0) := rfl
theorem t194_1 : sm_at 194 1 = some (1, .iload_n 1, 0, 0, 0) := rfl
theorem t194_2 : sm_at 194 2 = some (3, .invokevirtual 85, 122, 2, 0) := rfl
theorem t194_5 : sm_at 194 5 = some (3, .ifCond .eq 16, 0, 0, 0) := rfl
theorem t194_8 : sm_at 194 8 = some (1, .aload_n 0, 0, 0, 0) := rfl
theorem t194_9 : sm_at 194 9 = some (1, .iload_n 2, 0, 0, 0) := rfl
theorem t194_10 : sm_at 194 10 = some (3, .invokevirtual 85, 122, 2, 0) := rfl
theorem t194_13 : sm_at 194 13 = some (3, .ifCond .eq 8, 0, 0, 0) := rfl
theorem t194_16 : sm_at 194 16 = some (1, .iload_n 1, 0, 0, 0) := rfl
theorem t194_17 : sm_at 194 17 = some (1, .iload_n 2, 0, 0, 0) := rfl
theorem t194_18 : sm_at 194 18 = some (3, .if_icmp .ne 5, 0, 0, 0) := rfl
theorem t194_21 : sm_at 194 21 = some (1, .iconst (-1), 0, 0, 0) := rfl
theorem t194_22 : sm_at 194 22 = some (1, .ireturn, 0, 0, 0) := rfl
theorem t194_23 : sm_at 194 23 = some (1, .iconst 0, 0, 0, 0) := rfl
theorem t194_24 : sm_at 194 24 = some (1, .istore_n 3, 0, 0, 0) := rfl
theorem t194_25 : sm_at 194 25 = some (1, .iload_n 3, 0, 0, 0) := rfl
theorem t194_26 : sm_at 194 26 = some (3, .sipush 400, 0, 0, 0) := rfl
theorem t194_29 : sm_at 194 29 = some (3, .if_icmp .ge 16, 0, 0, 0) := rfl
theorem t194_32 : sm_at 194 32 = some (1, .aload_n 0, 0, 0, 0) := rfl
theorem t194_33 : sm_at 194 33 = some (3, .getfield 59, 11, 35, 0) := rfl
theorem t194_36 : sm_at 194 36 = some (1, .iload_n 3, 0, 0, 0) := rfl
theorem t194_37 : sm_at 194 37 = some (1, .iconst 0, 0, 0, 0) := rfl
theorem t194_38 : sm_at 194 38 = some (1, .iastore, 0, 0, 0) := rfl
theorem t194_39 : sm_at 194 39 = some (3, .iinc 3 1, 0, 0, 0) := rfl
theorem t194_42 : sm_at 194 42 = some (3, .goto (-17), 0, 0, 0) := rfl
theorem t194_45 : sm_at 194 45 = some (1, .iconst 0, 0, 0, 0) := rfl
theorem t194_46 : sm_at 194 46 = some (1, .istore_n 3, 0, 0, 0) := rfl
theorem t194_47 : sm_at 194 47 = some (1, .aload_n 0, 0, 0, 0) := rfl
theorem t194_48 : sm_at 194 48 = some (1, .iload_n 1, 0, 0, 0) := rfl
theorem t194_49 : sm_at 194 49 = some (1, .iload_n 2, 0, 0, 0) := rfl
theorem t194_50 : sm_at 194 50 = some (3, .invokevirtual 330, 193, 3, 0) := rfl
theorem t194_53 : sm_at 194 53 = some (3, .ifCond .eq 9, 0, 0, 0) := rfl
theorem t194_56 : sm_at 194 56 = some (3, .iinc 3 1, 0, 0, 0) := rfl
theorem t194_59 : sm_at 194 59 = some (3, .goto (-12), 0, 0, 0) := rfl
theorem t194_62 : sm_at 194 62 = some (1, .iload_n 3, 0, 0, 0) := rfl
theorem t194_63 : sm_at 194 63 = some (1, .ireturn, 0, 0, 0) := rfl
set_option maxRecDepth 10000 in
theorem b194_0 {d : Nat} {r0 : Nat} {x1 : Int} {l2 : Option sm_V} {l3 : Option sm_V} {Z : Nat → Nat → Int} {Rf : Nat → Nat → Option Nat} {K : Nat → Nat × Nat} {n z : Nat} {Q : Option sm_V → sm_S → Prop} : sm_wp (d + 1) 194 0 [some (.inr (some r0)), some (.inl x1), l2, l3] [] (Z, Rf, K, n, z) Q = ((K r0).1 = 11 ∧ sm_call d 122 [.inr (some r0), .inl x1] (Z, Rf, K, n, z) (sm_cont (d + 1) 194 5 [some (.inr (some r0)), some (.inl x1), l2, l3] [] Q)) := (w_aload_n t194_0 rfl rfl).trans ((w_iload_n t194_1 rfl rfl).trans (w_callV t194_2 rfl rfl rfl rfl (Nat.le_of_ble_eq_true rfl) (Nat.le_of_ble_eq_true rfl) rfl (by decide)))
set_option maxRecDepth 10000 in
theorem b194_5 {d : Nat} {l0 : Option sm_V} {l1 : Option sm_V} {l2 : Option sm_V} {l3 : Option sm_V} {s0 : Int} {Z : Nat → Nat → Int} {Rf : Nat → Nat → Option Nat} {K : Nat → Nat × Nat} {n z : Nat} {Q : Option sm_V → sm_S → Prop} : sm_wp d 194 5 [l0, l1, l2, l3] [.inl s0] (Z, Rf, K, n, z) Q = (if wr s0 = 0 then sm_wp d 194 21 [l0, l1, l2, l3] [] (Z, Rf, K, n, z) Q else sm_wp d 194 8 [l0, l1, l2, l3] [] (Z, Rf, K, n, z) Q) := w_ifeq t194_5 rfl rfl rfl
set_option maxRecDepth 10000 in
theorem b194_8 {d : Nat} {r0 : Nat} {l1 : Option sm_V} {x2 : Int} {l3 : Option sm_V} {Z : Nat → Nat → Int} {Rf : Nat → Nat → Option Nat} {K : Nat → Nat × Nat} {n z : Nat} {Q : Option sm_V → sm_S → Prop} : sm_wp (d + 1) 194 8 [some (.inr (some r0)), l1, some (.inl x2), l3] [] (Z, Rf, K, n, z) Q = ((K r0).1 = 11 ∧ sm_call d 122 [.inr (some r0), .inl x2] (Z, Rf, K, n, z) (sm_cont (d + 1) 194 13 [some (.inr (some r0)), l1, some (.inl x2), l3] [] Q)) := (w_aload_n t194_8 rfl rfl).trans ((w_iload_n t194_9 rfl rfl).trans (w_callV t194_10 rfl rfl rfl rfl (Nat.le_of_ble_eq_true rfl) (Nat.le_of_ble_eq_true rfl) rfl (by decide)))
set_option maxRecDepth 10000 in
theorem b194_13 {d : Nat} {l0 : Option sm_V} {l1 : Option sm_V} {l2 : Option sm_V} {l3 : Option sm_V} {s0 : Int} {Z : Nat → Nat → Int} {Rf : Nat → Nat → Option Nat} {K : Nat → Nat × Nat} {n z : Nat} {Q : Option sm_V → sm_S → Prop} : sm_wp d 194 13 [l0, l1, l2, l3] [.inl s0] (Z, Rf, K, n, z) Q = (if wr s0 = 0 then sm_wp d 194 21 [l0, l1, l2, l3] [] (Z, Rf, K, n, z) Q else sm_wp d 194 16 [l0, l1, l2, l3] [] (Z, Rf, K, n, z) Q) := w_ifeq t194_13 rfl rfl rfl
set_option maxRecDepth 10000 in
theorem b194_16 {d : Nat} {l0 : Option sm_V} {x1 : Int} {x2 : Int} {l3 : Option sm_V} {Z : Nat → Nat → Int} {Rf : Nat → Nat → Option Nat} {K : Nat → Nat × Nat} {n z : Nat} {Q : Option sm_V → sm_S → Prop} : sm_wp d 194 16 [l0, some (.inl x1), some (.inl x2), l3] [] (Z, Rf, K, n, z) Q = (if wr x1 = wr x2 then sm_wp d 194 21 [l0, some (.inl x1), some (.inl x2), l3] [] (Z, Rf, K, n, z) Q else sm_wp d 194 23 [l0, some (.inl x1), some (.inl x2), l3] [] (Z, Rf, K, n, z) Q) := (w_iload_n t194_16 rfl rfl).trans ((w_iload_n t194_17 rfl rfl).trans (w_icne t194_18 rfl rfl rfl rfl))
set_option maxRecDepth 10000 in
theorem b194_21 {d : Nat} {l0 : Option sm_V} {l1 : Option sm_V} {l2 : Option sm_V} {l3 : Option sm_V} {Z : Nat → Nat → Int} {Rf : Nat → Nat → Option Nat} {K : Nat → Nat × Nat} {n z : Nat} {Q : Option sm_V → sm_S → Prop} : sm_wp d 194 21 [l0, l1, l2, l3] [] (Z, Rf, K, n, z) Q = (Q (some (.inl ((-1)))) (Z, Rf, K, n, z)) := (w_iconst t194_21 rfl).trans (w_iret t194_22)
set_option maxRecDepth 10000 in
theorem b194_23 {d : Nat} {l0 : Option sm_V} {l1 : Option sm_V} {l2 : Option sm_V} {l3 : Option sm_V} {Z : Nat → Nat → Int} {Rf : Nat → Nat → Option Nat} {K : Nat → Nat × Nat} {n z : Nat} {Q : Option sm_V → sm_S → Prop} : sm_wp d 194 23 [l0, l1, l2, l3] [] (Z, Rf, K, n, z) Q = (sm_wp d 194 25 [l0, l1, l2, some (.inl 0)] [] (Z, Rf, K, n, z) Q) := (w_iconst t194_23 rfl).trans (w_istore_n t194_24 rfl (Nat.le_of_ble_eq_true rfl) rfl)
set_option maxRecDepth 10000 in
theorem b194_25 {d : Nat} {l0 : Option sm_V} {l1 : Option sm_V} {l2 : Option sm_V} {x3 : Int} {Z : Nat → Nat → Int} {Rf : Nat → Nat → Option Nat} {K : Nat → Nat × Nat} {n z : Nat} {Q : Option sm_V → sm_S → Prop} : sm_wp d 194 25 [l0, l1, l2, some (.inl x3)] [] (Z, Rf, K, n, z) Q = (if (400 : Int) ≤ wr x3 then sm_wp d 194 45 [l0, l1, l2, some (.inl x3)] [] (Z, Rf, K, n, z) Q else sm_wp d 194 32 [l0, l1, l2, some (.inl x3)] [] (Z, Rf, K, n, z) Q) := (w_iload_n t194_25 rfl rfl).trans ((w_sipush t194_26 rfl).trans (w_icge t194_29 rfl wl_400 rfl rfl))
set_option maxRecDepth 10000 in
theorem b194_32 {d : Nat} {r0 : Nat} {l1 : Option sm_V} {l2 : Option sm_V} {x3 : Int} {Z : Nat → Nat → Int} {Rf : Nat → Nat → Option Nat} {K : Nat → Nat × Nat} {n z : Nat} {Q : Option sm_V → sm_S → Prop} : sm_wp d 194 32 [some (.inr (some r0)), l1, l2, some (.inl x3)] [] (Z, Rf, K, n, z) Q = ((K r0).1 = 11 ∧ (Rf r0 35).isSome = true ∧ sm_wt (K (((Rf r0 35).getD 0))) (wr x3) ∧ sm_wp d 194 25 [some (.inr (some r0)), l1, l2, some (.inl (x3 + 1))] [] (sm_u Z (((Rf r0 35).getD 0)) ((wr x3).toNat) 0, Rf, K, n, z) Q) := (w_aload_n t194_32 rfl rfl).trans ((w_getR t194_33 rfl (by decide)).trans (congrArg (And _) (congrArg (And _) ((w_iload_n t194_36 rfl rfl).trans ((w_iconst t194_37 rfl).trans ((w_iast t194_38 rfl rfl).trans (congrArg (And _) ((w_iinc t194_39 rfl rfl (Nat.le_of_ble_eq_true rfl) rfl).trans (w_goto t194_42 rfl)))))))))
set_option maxRecDepth 10000 in
theorem b194_45 {d : Nat} {l0 : Option sm_V} {l1 : Option sm_V} {l2 : Option sm_V} {l3 : Option sm_V} {Z : Nat → Nat → Int} {Rf : Nat → Nat → Option Nat} {K : Nat → Nat × Nat} {n z : Nat} {Q : Option sm_V → sm_S → Prop} : sm_wp d 194 45 [l0, l1, l2, l3] [] (Z, Rf, K, n, z) Q = (sm_wp d 194 47 [l0, l1, l2, some (.inl 0)] [] (Z, Rf, K, n, z) Q) := (w_iconst t194_45 rfl).trans (w_istore_n t194_46 rfl (Nat.le_of_ble_eq_true rfl) rfl)
set_option maxRecDepth 10000 in
theorem b194_47 {d : Nat} {r0 : Nat} {x1 : Int} {x2 : Int} {l3 : Option sm_V} {Z : Nat → Nat → Int} {Rf : Nat → Nat → Option Nat} {K : Nat → Nat × Nat} {n z : Nat} {Q : Option sm_V → sm_S → Prop} : sm_wp (d + 1) 194 47 [some (.inr (some r0)), some (.inl x1), some (.inl x2), l3] [] (Z, Rf, K, n, z) Q = ((K r0).1 = 11 ∧ sm_call d 193 [.inr (some r0), .inl x1, .inl x2] (Z, Rf, K, n, z) (sm_cont (d + 1) 194 53 [some (.inr (some r0)), some (.inl x1), some (.inl x2), l3] [] Q)) := (w_aload_n t194_47 rfl rfl).trans ((w_iload_n t194_48 rfl rfl).trans ((w_iload_n t194_49 rfl rfl).trans (w_callV t194_50 rfl rfl rfl rfl (Nat.le_of_ble_eq_true rfl) (Nat.le_of_ble_eq_true rfl) rfl (by decide))))
set_option maxRecDepth 10000 in
theorem b194_53 {d : Nat} {l0 : Option sm_V} {l1 : Option sm_V} {l2 : Option sm_V} {l3 : Option sm_V} {s0 : Int} {Z : Nat → Nat → Int} {Rf : Nat → Nat → Option Nat} {K : Nat → Nat × Nat} {n z : Nat} {Q : Option sm_V → sm_S → Prop} : sm_wp d 194 53 [l0, l1, l2, l3] [.inl s0] (Z, Rf, K, n, z) Q = (if wr s0 = 0 then sm_wp d 194 62 [l0, l1, l2, l3] [] (Z, Rf, K, n, z) Q else sm_wp d 194 56 [l0, l1, l2, l3] [] (Z, Rf, K, n, z) Q) := w_ifeq t194_53 rfl rfl rfl
set_option maxRecDepth 10000 in
theorem b194_56 {d : Nat} {l0 : Option sm_V} {l1 : Option sm_V} {l2 : Option sm_V} {x3 : Int} {Z : Nat → Nat → Int} {Rf : Nat → Nat → Option Nat} {K : Nat → Nat × Nat} {n z : Nat} {Q : Option sm_V → sm_S → Prop} : sm_wp d 194 56 [l0, l1, l2, some (.inl x3)] [] (Z, Rf, K, n, z) Q = (sm_wp d 194 47 [l0, l1, l2, some (.inl (x3 + 1))] [] (Z, Rf, K, n, z) Q) := (w_iinc t194_56 rfl rfl (Nat.le_of_ble_eq_true rfl) rfl).trans (w_goto t194_59 rfl)
set_option maxRecDepth 10000 in
theorem b194_62 {d : Nat} {l0 : Option sm_V} {l1 : Option sm_V} {l2 : Option sm_V} {x3 : Int} {Z : Nat → Nat → Int} {Rf : Nat → Nat → Option Nat} {K : Nat → Nat × Nat} {n z : Nat} {Q : Option sm_V → sm_S → Prop} : sm_wp d 194 62 [l0, l1, l2, some (.inl x3)] [] (Z, Rf, K, n, z) Q = (Q (some (.inl x3)) (Z, Rf, K, n, z)) := (w_iload_n t194_62 rfl rfl).trans (w_iret t194_63)
theorem t195_0 : sm_at 195 0 = some (1, .iload_n 1, 0, 0, 0) := rfl
theorem t195_1 : sm_at 195 1 = some (3, .ifCond .ne 12, 0, 0, 0) := rfl
theorem t195_4 : sm_at 195 4 = some (1, .aload_n 0, 0, 0, 0) := rfl
theorem t195_5 : sm_at 195 5 = some (3, .getfield 333, 11, 5, 0) := rfl
theorem t195_8 : sm_at 195 8 = some (3, .ifCond .ne 5, 0, 0, 0) := rfl
theorem t195_11 : sm_at 195 11 = some (1, .iconst 0, 0, 0, 0) := rfl
theorem t195_12 : sm_at 195 12 = some (1, .ireturn, 1, 0, 0) := rfl
theorem t195_13 : sm_at 195 13 = some (1, .iconst 0, 0, 0, 0) := rfl
theorem t195_14 : sm_at 195 14 = some (1, .istore_n 2, 0, 0, 0) := rfl
theorem t195_15 : sm_at 195 15 = some (1, .iload_n 2, 0, 0, 0) := rfl
theorem t195_16 : sm_at 195 16 = some (3, .sipush 5480, 0, 0, 0) := rfl
theorem t195_19 : sm_at 195 19 = some (3, .if_icmp .ge 40, 0, 0, 0) := rfl
theorem t195_22 : sm_at 195 22 = some (1, .iload_n 1, 0, 0, 0) := rfl
theorem t195_23 : sm_at 195 23 = some (3, .ifCond .eq 18, 0, 0, 0) := rfl
theorem t195_26 : sm_at 195 26 = some (1, .aload_n 0, 0, 0, 0) := rfl
theorem t195_27 : sm_at 195 27 = some (3, .getfield 13, 11, 1, 0) := rfl
theorem t195_30 : sm_at 195 30 = some (1, .iload_n 2, 0, 0, 0) := rfl
theorem t195_31 : sm_at 195 31 = some (1, .aload_n 0, 0, 0, 0) := rfl
theorem t195_32 : sm_at 195 32 = some (3, .getfield 7, 11, 0, 0) := rfl
theorem t195_35 : sm_at 195 35 = some (1, .iload_n 2, 0, 0, 0) := rfl
theorem t195_36 : sm_at 195 36 = some (1, .iaload, 0, 0, 0) := rfl
theorem t195_37 : sm_at 195 37 = some (1, .iastore, 0, 0, 0) := rfl
theorem t195_38 : sm_at 195 38 = some (3, .goto 15, 0, 0, 0) := rfl
theorem t195_41 : sm_at 195 41 = some (1, .aload_n 0, 0, 0, 0) := rfl
theorem t195_42 : sm_at 195 42 = some (3, .getfield 7, 11, 0, 0) := rfl
theorem t195_45 : sm_at 195 45 = some (1, .iload_n 2, 0, 0, 0) := rfl
theorem t195_46 : sm_at 195 46 = some (1, .aload_n 0, 0, 0, 0) := rfl
theorem t195_47 : sm_at 195 47 = some (3, .getfield 13, 11, 1, 0) := rfl
theorem t195_50 : sm_at 195 50 = some (1, .iload_n 2, 0, 0, 0) := rfl
theorem t195_51 : sm_at 195 51 = some (1, .iaload, 0, 0, 0) := rfl
theorem t195_52 : sm_at 195 52 = some (1, .iastore, 0, 0, 0) := rfl
theorem t195_53 : sm_at 195 53 = some (3, .iinc 2 1, 0, 0, 0) := rfl
theorem t195_56 : sm_at 195 56 = some (3, .goto (-41), 0, 0, 0) := rfl
theorem t195_59 : sm_at 195 59 = some (1, .iload_n 1, 0, 0, 0) := rfl
theorem t195_60 : sm_at 195 60 = some (3, .ifCond .ne 8, 0, 0, 0) := rfl
theorem t195_63 : sm_at 195 63 = some (1, .aload_n 0, 0, 0, 0) := rfl
theorem t195_64 : sm_at 195 64 = some (1, .iconst 0, 0, 0, 0) := rfl
theorem t195_65 : sm_at 195 65 = some (3, .putfield 72, 11, 4, 0) := rfl
theorem t195_68 : sm_at 195 68 = some (1, .aload_n 0, 0, 0, 0) := rfl
theorem t195_69 : sm_at 195 69 = some (1, .iconst 1, 0, 0, 0) := rfl
theorem t195_70 : sm_at 195 70 = some (3, .putfield 333, 11, 5, 0) := rfl
theorem t195_73 : sm_at 195 73 = some (1, .iconst 1, 0, 0, 0) := rfl
theorem t195_74 : sm_at 195 74 = some (1, .ireturn, 1, 0, 0) := rfl
set_option maxRecDepth 10000 in
theorem b195_0 {d : Nat} {l0 : Option sm_V} {x1 : Int} {l2 : Option sm_V} {Z : Nat → Nat → Int} {Rf : Nat → Nat → Option Nat} {K : Nat → Nat × Nat} {n z : Nat} {Q : Option sm_V → sm_S → Prop} : sm_wp d 195 0 [l0, some (.inl x1), l2] [] (Z, Rf, K, n, z) Q = (if wr x1 = 0 then sm_wp d 195 4 [l0, some (.inl x1), l2] [] (Z, Rf, K, n, z) Q else sm_wp d 195 13 [l0, some (.inl x1), l2] [] (Z, Rf, K, n, z) Q) := (w_iload_n t195_0 rfl rfl).trans (w_ifne t195_1 rfl rfl rfl)
set_option maxRecDepth 10000 in
theorem b195_4 {d : Nat} {r0 : Nat} {l1 : Option sm_V} {l2 : Option sm_V} {Z : Nat → Nat → Int} {Rf : Nat → Nat → Option Nat} {K : Nat → Nat × Nat} {n z : Nat} {Q : Option sm_V → sm_S → Prop} : sm_wp d 195 4 [some (.inr (some r0)), l1, l2] [] (Z, Rf, K, n, z) Q = ((K r0).1 = 11 ∧ (if wr (Z r0 5) = 0 then sm_wp d 195 11 [some (.inr (some r0)), l1, l2] [] (Z, Rf, K, n, z) Q else sm_wp d 195 13 [some (.inr (some r0)), l1, l2] [] (Z, Rf, K, n, z) Q)) := (w_aload_n t195_4 rfl rfl).trans ((w_getI t195_5 rfl (by decide)).trans (congrArg (And _) (w_ifne t195_8 rfl rfl rfl)))
set_option maxRecDepth 10000 in
theorem b195_11 {d : Nat} {l0 : Option sm_V} {l1 : Option sm_V} {l2 : Option sm_V} {Z : Nat → Nat → Int} {Rf : Nat → Nat → Option Nat} {K : Nat → Nat × Nat} {n z : Nat} {Q : Option sm_V → sm_S → Prop} : sm_wp d 195 11 [l0, l1, l2] [] (Z, Rf, K, n, z) Q = (((0 : Int) = 0 ∨ (0 : Int) = 1) ∧ Q (some (.inl 0)) (Z, Rf, K, n, z)) := (w_iconst t195_11 rfl).trans (w_zret t195_12 wl_0)
set_option maxRecDepth 10000 in
theorem b195_13 {d : Nat} {l0 : Option sm_V} {l1 : Option sm_V} {l2 : Option sm_V} {Z : Nat → Nat → Int} {Rf : Nat → Nat → Option Nat} {K : Nat → Nat × Nat} {n z : Nat} {Q : Option sm_V → sm_S → Prop} : sm_wp d 195 13 [l0, l1, l2] [] (Z, Rf, K, n, z) Q = (sm_wp d 195 15 [l0, l1, some (.inl 0)] [] (Z, Rf, K, n, z) Q) := (w_iconst t195_13 rfl).trans (w_istore_n t195_14 rfl (Nat.le_of_ble_eq_true rfl) rfl)
set_option maxRecDepth 10000 in
theorem b195_15 {d : Nat} {l0 : Option sm_V} {l1 : Option sm_V} {x2 : Int} {Z : Nat → Nat → Int} {Rf : Nat → Nat → Option Nat} {K : Nat → Nat × Nat} {n z : Nat} {Q : Option sm_V → sm_S → Prop} : sm_wp d 195 15 [l0, l1, some (.inl x2)] [] (Z, Rf, K, n, z) Q = (if (5480 : Int) ≤ wr x2 then sm_wp d 195 59 [l0, l1, some (.inl x2)] [] (Z, Rf, K, n, z) Q else sm_wp d 195 22 [l0, l1, some (.inl x2)] [] (Z, Rf, K, n, z) Q) := (w_iload_n t195_15 rfl rfl).trans ((w_sipush t195_16 rfl).trans (w_icge t195_19 rfl wl_5480 rfl rfl))
set_option maxRecDepth 10000 in
theorem b195_22 {d : Nat} {l0 : Option sm_V} {x1 : Int} {l2 : Option sm_V} {Z : Nat → Nat → Int} {Rf : Nat → Nat → Option Nat} {K : Nat → Nat × Nat} {n z : Nat} {Q : Option sm_V → sm_S → Prop} : sm_wp d 195 22 [l0, some (.inl x1), l2] [] (Z, Rf, K, n, z) Q = (if wr x1 = 0 then sm_wp d 195 41 [l0, some (.inl x1), l2] [] (Z, Rf, K, n, z) Q else sm_wp d 195 26 [l0, some (.inl x1), l2] [] (Z, Rf, K, n, z) Q) := (w_iload_n t195_22 rfl rfl).trans (w_ifeq t195_23 rfl rfl rfl)
set_option maxRecDepth 10000 in
theorem b195_26 {d : Nat} {r0 : Nat} {l1 : Option sm_V} {x2 : Int} {Z : Nat → Nat → Int} {Rf : Nat → Nat → Option Nat} {K : Nat → Nat × Nat} {n z : Nat} {Q : Option sm_V → sm_S → Prop} : sm_wp d 195 26 [some (.inr (some r0)), l1, some (.inl x2)] [] (Z, Rf, K, n, z) Q = ((K r0).1 = 11 ∧ (Rf r0 1).isSome = true ∧ (K r0).1 = 11 ∧ (Rf r0 0).isSome = true ∧ sm_rd (K (((Rf r0 0).getD 0))) (wr x2) ∧ sm_wt (K (((Rf r0 1).getD 0))) (wr x2) ∧ sm_wp d 195 53 [some (.inr (some r0)), l1, some (.inl x2)] [] (sm_u Z (((Rf r0 1).getD 0)) ((wr x2).toNat) (Z (((Rf r0 0).getD 0)) ((wr x2).toNat)), Rf, K, n, z) Q) := (w_aload_n t195_26 rfl rfl).trans ((w_getR t195_27 rfl (by decide)).trans (congrArg (And _) (congrArg (And _) ((w_iload_n t195_30 rfl rfl).trans ((w_aload_n t195_31 rfl rfl).trans ((w_getR t195_32 rfl (by decide)).trans (congrArg (And _) (congrArg (And _) ((w_iload_n t195_35 rfl rfl).trans ((w_iald t195_36 rfl rfl).trans (congrArg (And _) ((w_iast t195_37 rfl rfl).trans (congrArg (And _) (w_goto t195_38 rfl))))))))))))))
set_option maxRecDepth 10000 in
theorem b195_41 {d : Nat} {r0 : Nat} {l1 : Option sm_V} {x2 : Int} {Z : Nat → Nat → Int} {Rf : Nat → Nat → Option Nat} {K : Nat → Nat × Nat} {n z : Nat} {Q : Option sm_V → sm_S → Prop} : sm_wp d 195 41 [some (.inr (some r0)), l1, some (.inl x2)] [] (Z, Rf, K, n, z) Q = ((K r0).1 = 11 ∧ (Rf r0 0).isSome = true ∧ (K r0).1 = 11 ∧ (Rf r0 1).isSome = true ∧ sm_rd (K (((Rf r0 1).getD 0))) (wr x2) ∧ sm_wt (K (((Rf r0 0).getD 0))) (wr x2) ∧ sm_wp d 195 53 [some (.inr (some r0)), l1, some (.inl x2)] [] (sm_u Z (((Rf r0 0).getD 0)) ((wr x2).toNat) (Z (((Rf r0 1).getD 0)) ((wr x2).toNat)), Rf, K, n, z) Q) := (w_aload_n t195_41 rfl rfl).trans ((w_getR t195_42 rfl (by decide)).trans (congrArg (And _) (congrArg (And _) ((w_iload_n t195_45 rfl rfl).trans ((w_aload_n t195_46 rfl rfl).trans ((w_getR t195_47 rfl (by decide)).trans (congrArg (And _) (congrArg (And _) ((w_iload_n t195_50 rfl rfl).trans ((w_iald t195_51 rfl rfl).trans (congrArg (And _) ((w_iast t195_52 rfl rfl).trans (congrArg (And _) rfl)))))))))))))
set_option maxRecDepth 10000 in
theorem b195_53 {d : Nat} {l0 : Option sm_V} {l1 : Option sm_V} {x2 : Int} {Z : Nat → Nat → Int} {Rf : Nat → Nat → Option Nat} {K : Nat → Nat × Nat} {n z : Nat} {Q : Option sm_V → sm_S → Prop} : sm_wp d 195 53 [l0, l1, some (.inl x2)] [] (Z, Rf, K, n, z) Q = (sm_wp d 195 15 [l0, l1, some (.inl (x2 + 1))] [] (Z, Rf, K, n, z) Q) := (w_iinc t195_53 rfl rfl (Nat.le_of_ble_eq_true rfl) rfl).trans (w_goto t195_56 rfl)
set_option maxRecDepth 10000 in
theorem b195_59 {d : Nat} {l0 : Option sm_V} {x1 : Int} {l2 : Option sm_V} {Z : Nat → Nat → Int} {Rf : Nat → Nat → Option Nat} {K : Nat → Nat × Nat} {n z : Nat} {Q : Option sm_V → sm_S → Prop} : sm_wp d 195 59 [l0, some (.inl x1), l2] [] (Z, Rf, K, n, z) Q = (if wr x1 = 0 then sm_wp d 195 63 [l0, some (.inl x1), l2] [] (Z, Rf, K, n, z) Q else sm_wp d 195 68 [l0, some (.inl x1), l2] [] (Z, Rf, K, n, z) Q) := (w_iload_n t195_59 rfl rfl).trans (w_ifne t195_60 rfl rfl rfl)
set_option maxRecDepth 10000 in
theorem b195_63 {d : Nat} {r0 : Nat} {l1 : Option sm_V} {l2 : Option sm_V} {Z : Nat → Nat → Int} {Rf : Nat → Nat → Option Nat} {K : Nat → Nat × Nat} {n z : Nat} {Q : Option sm_V → sm_S → Prop} : sm_wp d 195 63 [some (.inr (some r0)), l1, l2] [] (Z, Rf, K, n, z) Q = ((K r0).1 = 11 ∧ sm_wp d 195 68 [some (.inr (some r0)), l1, l2] [] (sm_u Z r0 4 0, Rf, K, n, z) Q) := (w_aload_n t195_63 rfl rfl).trans ((w_iconst t195_64 rfl).trans ((w_putI t195_65 rfl (by decide)).trans (congrArg (And _) rfl)))
set_option maxRecDepth 10000 in
theorem b195_68 {d : Nat} {r0 : Nat} {l1 : Option sm_V} {l2 : Option sm_V} {Z : Nat → Nat → Int} {Rf : Nat → Nat → Option Nat} {K : Nat → Nat × Nat} {n z : Nat} {Q : Option sm_V → sm_S → Prop} : sm_wp d 195 68 [some (.inr (some r0)), l1, l2] [] (Z, Rf, K, n, z) Q = ((K r0).1 = 11 ∧ ((1 : Int) = 0 ∨ (1 : Int) = 1) ∧ ((1 : Int) = 0 ∨ (1 : Int) = 1) ∧ Q (some (.inl 1)) (sm_u Z r0 5 1, Rf, K, n, z)) := (w_aload_n t195_68 rfl rfl).trans ((w_iconst t195_69 rfl).trans ((w_putB t195_70 rfl (by decide) wl_1).trans (congrArg (And _) (congrArg (And _) ((w_iconst t195_73 rfl).trans (w_zret t195_74 wl_1))))))
theorem t196_0 : sm_at 196 0 = some (1, .iload_n 1, 0, 0, 0) := rfl
theorem t196_1 : sm_at 196 1 = some (103, .tableswitch 188 0 21 #[103, 110, 117, 124, 131, 138, 145, 154, 162, 167, 188, 188, 188, 188, 188, 188, 188, 188, 188, 188, 172, 180], 0, 0, 0) := rfl
theorem t196_104 : sm_at 196 104 = some (1, .aload_n 0, 0, 0, 0) := rfl
theorem t196_105 : sm_at 196 105 = some (3, .getfield 7, 11, 0, 0) := rfl
theorem t196_108 : sm_at 196 108 = some (1, .iconst 0, 0, 0, 0) := rfl
theorem t196_109 : sm_at 196 109 = some (1, .iaload, 0, 0, 0) := rfl
theorem t196_110 : sm_at 196 110 = some (1, .ireturn, 0, 0, 0) := rfl
theorem t196_111 : sm_at 196 111 = some (1, .aload_n 0, 0, 0, 0) := rfl
theorem t196_112 : sm_at 196 112 = some (3, .getfield 7, 11, 0, 0) := rfl
theorem t196_115 : sm_at 196 115 = some (1, .iconst 1, 0, 0, 0) := rfl
theorem t196_116 : sm_at 196 116 = some (1, .iaload, 0, 0, 0) := rfl
theorem t196_117 : sm_at 196 117 = some (1, .ireturn, 0, 0, 0) := rfl
theorem t196_118 : sm_at 196 118 = some (1, .aload_n 0, 0, 0, 0) := rfl
theorem t196_119 : sm_at 196 119 = some (3, .getfield 7, 11, 0, 0) := rfl
theorem t196_122 : sm_at 196 122 = some (1, .iconst 2, 0, 0, 0) := rfl
theorem t196_123 : sm_at 196 123 = some (1, .iaload, 0, 0, 0) := rfl
theorem t196_124 : sm_at 196 124 = some (1, .ireturn, 0, 0, 0) := rfl
theorem t196_125 : sm_at 196 125 = some (1, .aload_n 0, 0, 0, 0) := rfl
theorem t196_126 : sm_at 196 126 = some (3, .getfield 7, 11, 0, 0) := rfl
theorem t196_129 : sm_at 196 129 = some (1, .iconst 3, 0, 0, 0) := rfl
theorem t196_130 : sm_at 196 130 = some (1, .iaload, 0, 0, 0) := rfl
theorem t196_131 : sm_at 196 131 = some (1, .ireturn, 0, 0, 0) := rfl
theorem t196_132 : sm_at 196 132 = some (1, .aload_n 0, 0, 0, 0) := rfl
theorem t196_133 : sm_at 196 133 = some (3, .getfield 7, 11, 0, 0) := rfl
theorem t196_136 : sm_at 196 136 = some (1, .iconst 4, 0, 0, 0) := rfl
theorem t196_137 : sm_at 196 137 = some (1, .iaload, 0, 0, 0) := rfl
theorem t196_138 : sm_at 196 138 = some (1, .ireturn, 0, 0, 0) := rfl
theorem t196_139 : sm_at 196 139 = some (1, .aload_n 0, 0, 0, 0) := rfl
theorem t196_140 : sm_at 196 140 = some (3, .getfield 7, 11, 0, 0) := rfl
theorem t196_143 : sm_at 196 143 = some (1, .iconst 5, 0, 0, 0) := rfl
theorem t196_144 : sm_at 196 144 = some (1, .iaload, 0, 0, 0) := rfl
theorem t196_145 : sm_at 196 145 = some (1, .ireturn, 0, 0, 0) := rfl
theorem t196_146 : sm_at 196 146 = some (1, .aload_n 0, 0, 0, 0) := rfl
theorem t196_147 : sm_at 196 147 = some (3, .invokevirtual 290, 174, 1, 0) := rfl
theorem t196_150 : sm_at 196 150 = some (1, .aload_n 0, 0, 0, 0) := rfl
theorem t196_151 : sm_at 196 151 = some (3, .getfield 281, 11, 30, 0) := rfl
theorem t196_154 : sm_at 196 154 = some (1, .ireturn, 0, 0, 0) := rfl
theorem t196_155 : sm_at 196 155 = some (1, .aload_n 0, 0, 0, 0) := rfl
theorem t196_156 : sm_at 196 156 = some (3, .getfield 7, 11, 0, 0) := rfl
theorem t196_159 : sm_at 196 159 = some (2, .bipush 6, 0, 0, 0) := rfl
theorem t196_161 : sm_at 196 161 = some (1, .iaload, 0, 0, 0) := rfl
theorem t196_162 : sm_at 196 162 = some (1, .ireturn, 0, 0, 0) := rfl
theorem t196_163 : sm_at 196 163 = some (1, .aload_n 0, 0, 0, 0) := rfl
theorem t196_164 : sm_at 196 164 = some (3, .invokevirtual 336, 197, 1, 0) := rfl
theorem t196_167 : sm_at 196 167 = some (1, .ireturn, 0, 0, 0) := rfl
theorem t196_168 : sm_at 196 168 = some (1, .aload_n 0, 0, 0, 0) := rfl
theorem t196_169 : sm_at 196 169 = some (3, .getfield 72, 11, 4, 0) := rfl
theorem t196_172 : sm_at 196 172 = some (1, .ireturn, 0, 0, 0) := rfl
theorem t196_173 : sm_at 196 173 = some (1, .aload_n 0, 0, 0, 0) := rfl
theorem t196_174 : sm_at 196 174 = some (3, .getfield 7, 11, 0, 0) := rfl
theorem t196_177 : sm_at 196 177 = some (2, .bipush 7, 0, 0, 0) := rfl
theorem t196_179 : sm_at 196 179 = some (1, .iaload, 0, 0, 0) := rfl
theorem t196_180 : sm_at 196 180 = some (1, .ireturn, 0, 0, 0) := rfl
theorem t196_181 : sm_at 196 181 = some (1, .aload_n 0, 0, 0, 0) := rfl
theorem t196_182 : sm_at 196 182 = some (3, .getfield 7, 11, 0, 0) := rfl
theorem t196_185 : sm_at 196 185 = some (2, .bipush 8, 0, 0, 0) := rfl
theorem t196_187 : sm_at 196 187 = some (1, .iaload, 0, 0, 0) := rfl
theorem t196_188 : sm_at 196 188 = some (1, .ireturn, 0, 0, 0) := rfl
theorem t196_189 : sm_at 196 189 = some (1, .iload_n 1, 0, 0, 0) := rfl
theorem t196_190 : sm_at 196 190 = some (2, .bipush 10, 0, 0, 0) := rfl
set_option maxRecDepth 100000 in
theorem t196_192 : sm_at 196 192 = some (2, .bipush 13, 0, 0, 0) := rfl
set_option maxRecDepth 100000 in
theorem t196_194 : sm_at 196 194 = some (3, .invokestatic 75, 120, 3, 0) := rfl
set_option maxRecDepth 100000 in
theorem t196_197 : sm_at 196 197 = some (3, .ifCond .eq 19, 0, 0, 0) := rfl
set_option maxRecDepth 100000 in
theorem t196_200 : sm_at 196 200 = some (1, .aload_n 0, 0, 0, 0) := rfl
set_option maxRecDepth 100000 in
theorem t196_201 : sm_at 196 201 = some (3, .getfield 7, 11, 0, 0) := rfl
set_option maxRecDepth 100000 in
theorem t196_204 : sm_at 196 204 = some (3, .sipush 1985, 0, 0, 0) := rfl
set_option maxRecDepth 100000 in
theorem t196_207 : sm_at 196 207 = some (1, .iload_n 1, 0, 0, 0) := rfl
set_option maxRecDepth 100000 in
theorem t196_208 : sm_at 196 208 = some (1, .iadd, 0, 0, 0) := rfl
set_option maxRecDepth 100000 in
theorem t196_209 : sm_at 196 209 = some (2, .bipush 10, 0, 0, 0) := rfl
set_option maxRecDepth 100000 in
theorem t196_211 : sm_at 196 211 = some (1, .isub, 0, 0, 0) := rfl
set_option maxRecDepth 100000 in
theorem t196_212 : sm_at 196 212 = some (1, .iaload, 0, 0, 0) := rfl
set_option maxRecDepth 100000 in
theorem t196_213 : sm_at 196 213 = some (3, .goto 4, 0, 0, 0) := rfl
set_option maxRecDepth 100000 in
theorem t196_216 : sm_at 196 216 = some (1, .iconst (-1), 0, 0, 0) := rfl
set_option maxRecDepth 100000 in
theorem t196_217 : sm_at 196 217 = some (1, .ireturn, 0, 0, 0) := rfl
set_option maxRecDepth 10000 in
theorem b196_0 {d : Nat} {l0 : Option sm_V} {x1 : Int} {Z : Nat → Nat → Int} {Rf : Nat → Nat → Option Nat} {K : Nat → Nat × Nat} {n z : Nat} {Q : Option sm_V → sm_S → Prop} : sm_wp d 196 0 [l0, some (.inl x1)] [] (Z, Rf, K, n, z) Q = (sm_wp d 196 (sm_sel (wr x1) 189 [(0, 104), (1, 111), (2, 118), (3, 125), (4, 132), (5, 139), (6, 146), (7, 155), (8, 163), (9, 168), (10, 189), (11, 189), (12, 189), (13, 189), (14, 189), (15, 189), (16, 189), (17, 189), (18, 189), (19, 189), (20, 173), (21, 181)]) [l0, some (.inl x1)] [] (Z, Rf, K, n, z) Q) := (w_iload_n t196_0 rfl rfl).trans (w_tsw t196_1 rfl rfl rfl (by decide))
set_option maxRecDepth 10000 in
theorem b196_104 {d : Nat} {r0 : Nat} {l1 : Option sm_V} {Z : Nat → Nat → Int} {Rf : Nat → Nat → Option Nat} {K : Nat → Nat × Nat} {n z : Nat} {Q : Option sm_V → sm_S → Prop} : sm_wp d 196 104 [some (.inr (some r0)), l1] [] (Z, Rf, K, n, z) Q = ((K r0).1 = 11 ∧ (Rf r0 0).isSome = true ∧ sm_rd (K (((Rf r0 0).getD 0))) ((0 : Int)) ∧ Q (some (.inl (Z (((Rf r0 0).getD 0)) 0))) (Z, Rf, K, n, z)) := (w_aload_n t196_104 rfl rfl).trans ((w_getR t196_105 rfl (by decide)).trans (congrArg (And _) (congrArg (And _) ((w_iconst t196_108 rfl).trans ((w_iald t196_109 rfl wl_0).trans (congrArg (And _) (w_iret t196_110)))))))
set_option maxRecDepth 10000 in
theorem b196_111 {d : Nat} {r0 : Nat} {l1 : Option sm_V} {Z : Nat → Nat → Int} {Rf : Nat → Nat → Option Nat} {K : Nat → Nat × Nat} {n z : Nat} {Q : Option sm_V → sm_S → Prop} : sm_wp d 196 111 [some (.inr (some r0)), l1] [] (Z, Rf, K, n, z) Q = ((K r0).1 = 11 ∧ (Rf r0 0).isSome = true ∧ sm_rd (K (((Rf r0 0).getD 0))) ((1 : Int)) ∧ Q (some (.inl (Z (((Rf r0 0).getD 0)) 1))) (Z, Rf, K, n, z)) := (w_aload_n t196_111 rfl rfl).trans ((w_getR t196_112 rfl (by decide)).trans (congrArg (And _) (congrArg (And _) ((w_iconst t196_115 rfl).trans ((w_iald t196_116 rfl wl_1).trans (congrArg (And _) (w_iret t196_117)))))))
set_option maxRecDepth 10000 in
theorem b196_118 {d : Nat} {r0 : Nat} {l1 : Option sm_V} {Z : Nat → Nat → Int} {Rf : Nat → Nat → Option Nat} {K : Nat → Nat × Nat} {n z : Nat} {Q : Option sm_V → sm_S → Prop} : sm_wp d 196 118 [some (.inr (some r0)), l1] [] (Z, Rf, K, n, z) Q = ((K r0).1 = 11 ∧ (Rf r0 0).isSome = true ∧ sm_rd (K (((Rf r0 0).getD 0))) ((2 : Int)) ∧ Q (some (.inl (Z (((Rf r0 0).getD 0)) 2))) (Z, Rf, K, n, z)) := (w_aload_n t196_118 rfl rfl).trans ((w_getR t196_119 rfl (by decide)).trans (congrArg (And _) (congrArg (And _) ((w_iconst t196_122 rfl).trans ((w_iald t196_123 rfl wl_2).trans (congrArg (And _) (w_iret t196_124)))))))
set_option maxRecDepth 10000 in
theorem b196_125 {d : Nat} {r0 : Nat} {l1 : Option sm_V} {Z : Nat → Nat → Int} {Rf : Nat → Nat → Option Nat} {K : Nat → Nat × Nat} {n z : Nat} {Q : Option sm_V → sm_S → Prop} : sm_wp d 196 125 [some (.inr (some r0)), l1] [] (Z, Rf, K, n, z) Q = ((K r0).1 = 11 ∧ (Rf r0 0).isSome = true ∧ sm_rd (K (((Rf r0 0).getD 0))) ((3 : Int)) ∧ Q (some (.inl (Z (((Rf r0 0).getD 0)) 3))) (Z, Rf, K, n, z)) := (w_aload_n t196_125 rfl rfl).trans ((w_getR t196_126 rfl (by decide)).trans (congrArg (And _) (congrArg (And _) ((w_iconst t196_129 rfl).trans ((w_iald t196_130 rfl wl_3).trans (congrArg (And _) (w_iret t196_131)))))))
set_option maxRecDepth 10000 in
theorem b196_132 {d : Nat} {r0 : Nat} {l1 : Option sm_V} {Z : Nat → Nat → Int} {Rf : Nat → Nat → Option Nat} {K : Nat → Nat × Nat} {n z : Nat} {Q : Option sm_V → sm_S → Prop} : sm_wp d 196 132 [some (.inr (some r0)), l1] [] (Z, Rf, K, n, z) Q = ((K r0).1 = 11 ∧ (Rf r0 0).isSome = true ∧ sm_rd (K (((Rf r0 0).getD 0))) ((4 : Int)) ∧ Q (some (.inl (Z (((Rf r0 0).getD 0)) 4))) (Z, Rf, K, n, z)) := (w_aload_n t196_132 rfl rfl).trans ((w_getR t196_133 rfl (by decide)).trans (congrArg (And _) (congrArg (And _) ((w_iconst t196_136 rfl).trans ((w_iald t196_137 rfl wl_4).trans (congrArg (And _) (w_iret t196_138)))))))
set_option maxRecDepth 10000 in
theorem b196_139 {d : Nat} {r0 : Nat} {l1 : Option sm_V} {Z : Nat → Nat → Int} {Rf : Nat → Nat → Option Nat} {K : Nat → Nat × Nat} {n z : Nat} {Q : Option sm_V → sm_S → Prop} : sm_wp d 196 139 [some (.inr (some r0)), l1] [] (Z, Rf, K, n, z) Q = ((K r0).1 = 11 ∧ (Rf r0 0).isSome = true ∧ sm_rd (K (((Rf r0 0).getD 0))) ((5 : Int)) ∧ Q (some (.inl (Z (((Rf r0 0).getD 0)) 5))) (Z, Rf, K, n, z)) := (w_aload_n t196_139 rfl rfl).trans ((w_getR t196_140 rfl (by decide)).trans (congrArg (And _) (congrArg (And _) ((w_iconst t196_143 rfl).trans ((w_iald t196_144 rfl wl_5).trans (congrArg (And _) (w_iret t196_145)))))))
set_option maxRecDepth 10000 in
theorem b196_146 {d : Nat} {r0 : Nat} {l1 : Option sm_V} {Z : Nat → Nat → Int} {Rf : Nat → Nat → Option Nat} {K : Nat → Nat × Nat} {n z : Nat} {Q : Option sm_V → sm_S → Prop} : sm_wp (d + 1) 196 146 [some (.inr (some r0)), l1] [] (Z, Rf, K, n, z) Q = ((K r0).1 = 11 ∧ sm_call d 174 [.inr (some r0)] (Z, Rf, K, n, z) (sm_cont (d + 1) 196 150 [some (.inr (some r0)), l1] [] Q)) := (w_aload_n t196_146 rfl rfl).trans (w_callV t196_147 rfl rfl rfl rfl (Nat.le_of_ble_eq_true rfl) (Nat.le_of_ble_eq_true rfl) rfl (by decide))
set_option maxRecDepth 10000 in
theorem b196_150 {d : Nat} {r0 : Nat} {l1 : Option sm_V} {Z : Nat → Nat → Int} {Rf : Nat → Nat → Option Nat} {K : Nat → Nat × Nat} {n z : Nat} {Q : Option sm_V → sm_S → Prop} : sm_wp d 196 150 [some (.inr (some r0)), l1] [] (Z, Rf, K, n, z) Q = ((K r0).1 = 11 ∧ Q (some (.inl (Z r0 30))) (Z, Rf, K, n, z)) := (w_aload_n t196_150 rfl rfl).trans ((w_getI t196_151 rfl (by decide)).trans (congrArg (And _) (w_iret t196_154)))
set_option maxRecDepth 10000 in
theorem b196_155 {d : Nat} {r0 : Nat} {l1 : Option sm_V} {Z : Nat → Nat → Int} {Rf : Nat → Nat → Option Nat} {K : Nat → Nat × Nat} {n z : Nat} {Q : Option sm_V → sm_S → Prop} : sm_wp d 196 155 [some (.inr (some r0)), l1] [] (Z, Rf, K, n, z) Q = ((K r0).1 = 11 ∧ (Rf r0 0).isSome = true ∧ sm_rd (K (((Rf r0 0).getD 0))) ((6 : Int)) ∧ Q (some (.inl (Z (((Rf r0 0).getD 0)) 6))) (Z, Rf, K, n, z)) := (w_aload_n t196_155 rfl rfl).trans ((w_getR t196_156 rfl (by decide)).trans (congrArg (And _) (congrArg (And _) ((w_bipush t196_159 rfl).trans ((w_iald t196_161 rfl wl_6).trans (congrArg (And _) (w_iret t196_162)))))))
set_option maxRecDepth 10000 in
theorem b196_163 {d : Nat} {r0 : Nat} {l1 : Option sm_V} {Z : Nat → Nat → Int} {Rf : Nat → Nat → Option Nat} {K : Nat → Nat × Nat} {n z : Nat} {Q : Option sm_V → sm_S → Prop} : sm_wp (d + 1) 196 163 [some (.inr (some r0)), l1] [] (Z, Rf, K, n, z) Q = ((K r0).1 = 11 ∧ sm_call d 197 [.inr (some r0)] (Z, Rf, K, n, z) (sm_cont (d + 1) 196 167 [some (.inr (some r0)), l1] [] Q)) := (w_aload_n t196_163 rfl rfl).trans (w_callV t196_164 rfl rfl rfl rfl (Nat.le_of_ble_eq_true rfl) (Nat.le_of_ble_eq_true rfl) rfl (by decide))
set_option maxRecDepth 10000 in
theorem b196_167 {d : Nat} {l0 : Option sm_V} {l1 : Option sm_V} {s0 : Int} {Z : Nat → Nat → Int} {Rf : Nat → Nat → Option Nat} {K : Nat → Nat × Nat} {n z : Nat} {Q : Option sm_V → sm_S → Prop} : sm_wp d 196 167 [l0, l1] [.inl s0] (Z, Rf, K, n, z) Q = (Q (some (.inl s0)) (Z, Rf, K, n, z)) := w_iret t196_167
set_option maxRecDepth 10000 in
theorem b196_168 {d : Nat} {r0 : Nat} {l1 : Option sm_V} {Z : Nat → Nat → Int} {Rf : Nat → Nat → Option Nat} {K : Nat → Nat × Nat} {n z : Nat} {Q : Option sm_V → sm_S → Prop} : sm_wp d 196 168 [some (.inr (some r0)), l1] [] (Z, Rf, K, n, z) Q = ((K r0).1 = 11 ∧ Q (some (.inl (Z r0 4))) (Z, Rf, K, n, z)) := (w_aload_n t196_168 rfl rfl).trans ((w_getI t196_169 rfl (by decide)).trans (congrArg (And _) (w_iret t196_172)))
set_option maxRecDepth 10000 in
theorem b196_173 {d : Nat} {r0 : Nat} {l1 : Option sm_V} {Z : Nat → Nat → Int} {Rf : Nat → Nat → Option Nat} {K : Nat → Nat × Nat} {n z : Nat} {Q : Option sm_V → sm_S → Prop} : sm_wp d 196 173 [some (.inr (some r0)), l1] [] (Z, Rf, K, n, z) Q = ((K r0).1 = 11 ∧ (Rf r0 0).isSome = true ∧ sm_rd (K (((Rf r0 0).getD 0))) ((7 : Int)) ∧ Q (some (.inl (Z (((Rf r0 0).getD 0)) 7))) (Z, Rf, K, n, z)) := (w_aload_n t196_173 rfl rfl).trans ((w_getR t196_174 rfl (by decide)).trans (congrArg (And _) (congrArg (And _) ((w_bipush t196_177 rfl).trans ((w_iald t196_179 rfl wl_7).trans (congrArg (And _) (w_iret t196_180)))))))
set_option maxRecDepth 10000 in
theorem b196_181 {d : Nat} {r0 : Nat} {l1 : Option sm_V} {Z : Nat → Nat → Int} {Rf : Nat → Nat → Option Nat} {K : Nat → Nat × Nat} {n z : Nat} {Q : Option sm_V → sm_S → Prop} : sm_wp d 196 181 [some (.inr (some r0)), l1] [] (Z, Rf, K, n, z) Q = ((K r0).1 = 11 ∧ (Rf r0 0).isSome = true ∧ sm_rd (K (((Rf r0 0).getD 0))) ((8 : Int)) ∧ Q (some (.inl (Z (((Rf r0 0).getD 0)) 8))) (Z, Rf, K, n, z)) := (w_aload_n t196_181 rfl rfl).trans ((w_getR t196_182 rfl (by decide)).trans (congrArg (And _) (congrArg (And _) ((w_bipush t196_185 rfl).trans ((w_iald t196_187 rfl wl_8).trans (congrArg (And _) (w_iret t196_188)))))))
set_option maxRecDepth 10000 in
theorem b196_189 {d : Nat} {l0 : Option sm_V} {x1 : Int} {Z : Nat → Nat → Int} {Rf : Nat → Nat → Option Nat} {K : Nat → Nat × Nat} {n z : Nat} {Q : Option sm_V → sm_S → Prop} : sm_wp (d + 1) 196 189 [l0, some (.inl x1)] [] (Z, Rf, K, n, z) Q = (sm_call d 120 [.inl x1, .inl 10, .inl 13] (Z, Rf, K, n, z) (sm_cont (d + 1) 196 197 [l0, some (.inl x1)] [] Q)) := (w_iload_n t196_189 rfl rfl).trans ((w_bipush t196_190 rfl).trans ((w_bipush t196_192 rfl).trans (w_callS t196_194 rfl rfl rfl rfl (Nat.le_of_ble_eq_true rfl) (Nat.le_of_ble_eq_true rfl) rfl)))
set_option maxRecDepth 10000 in
theorem b196_197 {d : Nat} {l0 : Option sm_V} {l1 : Option sm_V} {s0 : Int} {Z : Nat → Nat → Int} {Rf : Nat → Nat → Option Nat} {K : Nat → Nat × Nat} {n z : Nat} {Q : Option sm_V → sm_S → Prop} : sm_wp d 196 197 [l0, l1] [.inl s0] (Z, Rf, K, n, z) Q = (if wr s0 = 0 then sm_wp d 196 216 [l0, l1] [] (Z, Rf, K, n, z) Q else sm_wp d 196 200 [l0, l1] [] (Z, Rf, K, n, z) Q) := w_ifeq t196_197 rfl rfl rfl
set_option maxRecDepth 10000 in
theorem b196_200 {d : Nat} {r0 : Nat} {x1 : Int} {Z : Nat → Nat → Int} {Rf : Nat → Nat → Option Nat} {K : Nat → Nat × Nat} {n z : Nat} {Q : Option sm_V → sm_S → Prop} : sm_wp d 196 200 [some (.inr (some r0)), some (.inl x1)] [] (Z, Rf, K, n, z) Q = ((K r0).1 = 11 ∧ (Rf r0 0).isSome = true ∧ sm_rd (K (((Rf r0 0).getD 0))) (wr ((1985 + x1) - 10)) ∧ sm_wp d 196 217 [some (.inr (some r0)), some (.inl x1)] [.inl (Z (((Rf r0 0).getD 0)) ((wr ((1985 + x1) - 10)).toNat))] (Z, Rf, K, n, z) Q) := (w_aload_n t196_200 rfl rfl).trans ((w_getR t196_201 rfl (by decide)).trans (congrArg (And _) (congrArg (And _) ((w_sipush t196_204 rfl).trans ((w_iload_n t196_207 rfl rfl).trans ((w_iadd t196_208 rfl).trans ((w_bipush t196_209 rfl).trans ((w_isub t196_211 rfl).trans ((w_iald t196_212 rfl rfl).trans (congrArg (And _) (w_goto t196_213 rfl)))))))))))
set_option maxRecDepth 10000 in
theorem b196_216 {d : Nat} {l0 : Option sm_V} {l1 : Option sm_V} {Z : Nat → Nat → Int} {Rf : Nat → Nat → Option Nat} {K : Nat → Nat × Nat} {n z : Nat} {Q : Option sm_V → sm_S → Prop} : sm_wp d 196 216 [l0, l1] [] (Z, Rf, K, n, z) Q = (sm_wp d 196 217 [l0, l1] [.inl ((-1))] (Z, Rf, K, n, z) Q) := w_iconst t196_216 rfl
set_option maxRecDepth 10000 in
theorem b196_217 {d : Nat} {l0 : Option sm_V} {l1 : Option sm_V} {s0 : Int} {Z : Nat → Nat → Int} {Rf : Nat → Nat → Option Nat} {K : Nat → Nat × Nat} {n z : Nat} {Q : Option sm_V → sm_S → Prop} : sm_wp d 196 217 [l0, l1] [.inl s0] (Z, Rf, K, n, z) Q = (Q (some (.inl s0)) (Z, Rf, K, n, z)) := w_iret t196_217
theorem t197_0 : sm_at 197 0 = some (1, .iconst 0, 0, 0, 0) := rfl
theorem t197_1 : sm_at 197 1 = some (1, .istore_n 1, 0, 0, 0) := rfl
theorem t197_2 : sm_at 197 2 = some (1, .iconst 0, 0, 0, 0) := rfl
theorem t197_3 : sm_at 197 3 = some (1, .istore_n 2, 0, 0, 0) := rfl
theorem t197_4 : sm_at 197 4 = some (1, .iload_n 2, 0, 0, 0) := rfl
theorem t197_5 : sm_at 197 5 = some (3, .sipush 242, 0, 0, 0) := rfl
theorem t197_8 : sm_at 197 8 = some (3, .if_icmp .ge 31, 0, 0, 0) := rfl
theorem t197_11 : sm_at 197 11 = some (1, .iload_n 1, 0, 0, 0) := rfl
theorem t197_12 : sm_at 197 12 = some (1, .aload_n 0, 0, 0, 0) := rfl
theorem t197_13 : sm_at 197 13 = some (3, .getfield 7, 11, 0, 0) := rfl
theorem t197_16 : sm_at 197 16 = some (3, .sipush 850, 0, 0, 0) := rfl
theorem t197_19 : sm_at 197 19 = some (1, .iload_n 2, 0, 0, 0) := rfl
theorem t197_20 : sm_at 197 20 = some (1, .iadd, 0, 0, 0) := rfl
theorem t197_21 : sm_at 197 21 = some (1, .iaload, 0, 0, 0) := rfl
theorem t197_22 : sm_at 197 22 = some (1, .iconst (-1), 0, 0, 0) := rfl
theorem t197_23 : sm_at 197 23 = some (3, .if_icmp .eq 7, 0, 0, 0) := rfl
theorem t197_26 : sm_at 197 26 = some (1, .iconst 1, 0, 0, 0) := rfl
theorem t197_27 : sm_at 197 27 = some (3, .goto 4, 0, 0, 0) := rfl
theorem t197_30 : sm_at 197 30 = some (1, .iconst 0, 0, 0, 0) := rfl
theorem t197_31 : sm_at 197 31 = some (1, .iadd, 0, 0, 0) := rfl
theorem t197_32 : sm_at 197 32 = some (1, .istore_n 1, 0, 0, 0) := rfl
theorem t197_33 : sm_at 197 33 = some (3, .iinc 2 1, 0, 0, 0) := rfl
theorem t197_36 : sm_at 197 36 = some (3, .goto (-32), 0, 0, 0) := rfl
theorem t197_39 : sm_at 197 39 = some (1, .iload_n 1, 0, 0, 0) := rfl
theorem t197_40 : sm_at 197 40 = some (1, .ireturn, 0, 0, 0) := rfl
set_option maxRecDepth 10000 in
theorem b197_0 {d : Nat} {l0 : Option sm_V} {l1 : Option sm_V} {l2 : Option sm_V} {Z : Nat → Nat → Int} {Rf : Nat → Nat → Option Nat} {K : Nat → Nat × Nat} {n z : Nat} {Q : Option sm_V → sm_S → Prop} : sm_wp d 197 0 [l0, l1, l2] [] (Z, Rf, K, n, z) Q = (sm_wp d 197 4 [l0, some (.inl 0), some (.inl 0)] [] (Z, Rf, K, n, z) Q) := (w_iconst t197_0 rfl).trans ((w_istore_n t197_1 rfl (Nat.le_of_ble_eq_true rfl) rfl).trans ((w_iconst t197_2 rfl).trans (w_istore_n t197_3 rfl (Nat.le_of_ble_eq_true rfl) rfl)))
set_option maxRecDepth 10000 in
theorem b197_4 {d : Nat} {l0 : Option sm_V} {l1 : Option sm_V} {x2 : Int} {Z : Nat → Nat → Int} {Rf : Nat → Nat → Option Nat} {K : Nat → Nat × Nat} {n z : Nat} {Q : Option sm_V → sm_S → Prop} : sm_wp d 197 4 [l0, l1, some (.inl x2)] [] (Z, Rf, K, n, z) Q = (if (242 : Int) ≤ wr x2 then sm_wp d 197 39 [l0, l1, some (.inl x2)] [] (Z, Rf, K, n, z) Q else sm_wp d 197 11 [l0, l1, some (.inl x2)] [] (Z, Rf, K, n, z) Q) := (w_iload_n t197_4 rfl rfl).trans ((w_sipush t197_5 rfl).trans (w_icge t197_8 rfl wl_242 rfl rfl))
set_option maxRecDepth 10000 in
theorem b197_11 {d : Nat} {r0 : Nat} {x1 : Int} {x2 : Int} {Z : Nat → Nat → Int} {Rf : Nat → Nat → Option Nat} {K : Nat → Nat × Nat} {n z : Nat} {Q : Option sm_V → sm_S → Prop} : sm_wp d 197 11 [some (.inr (some r0)), some (.inl x1), some (.inl x2)] [] (Z, Rf, K, n, z) Q = ((K r0).1 = 11 ∧ (Rf r0 0).isSome = true ∧ sm_rd (K (((Rf r0 0).getD 0))) (wr (850 + x2)) ∧ (if wr (Z (((Rf r0 0).getD 0)) ((wr (850 + x2)).toNat)) = (-1 : Int) then sm_wp d 197 30 [some (.inr (some r0)), some (.inl x1), some (.inl x2)] [.inl x1] (Z, Rf, K, n, z) Q else sm_wp d 197 26 [some (.inr (some r0)), some (.inl x1), some (.inl x2)] [.inl x1] (Z, Rf, K, n, z) Q)) := (w_iload_n t197_11 rfl rfl).trans ((w_aload_n t197_12 rfl rfl).trans ((w_getR t197_13 rfl (by decide)).trans (congrArg (And _) (congrArg (And _) ((w_sipush t197_16 rfl).trans ((w_iload_n t197_19 rfl rfl).trans ((w_iadd t197_20 rfl).trans ((w_iald t197_21 rfl rfl).trans (congrArg (And _) ((w_iconst t197_22 rfl).trans (w_iceq t197_23 rfl wl_m1 rfl rfl)))))))))))
set_option maxRecDepth 10000 in
theorem b197_26 {d : Nat} {l0 : Option sm_V} {l1 : Option sm_V} {l2 : Option sm_V} {s0 : Int} {Z : Nat → Nat → Int} {Rf : Nat → Nat → Option Nat} {K : Nat → Nat × Nat} {n z : Nat} {Q : Option sm_V → sm_S → Prop} : sm_wp d 197 26 [l0, l1, l2] [.inl s0] (Z, Rf, K, n, z) Q = (sm_wp d 197 31 [l0, l1, l2] [.inl 1, .inl s0] (Z, Rf, K, n, z) Q) := (w_iconst t197_26 rfl).trans (w_goto t197_27 rfl)
set_option maxRecDepth 10000 in
theorem b197_30 {d : Nat} {l0 : Option sm_V} {l1 : Option sm_V} {l2 : Option sm_V} {s0 : Int} {Z : Nat → Nat → Int} {Rf : Nat → Nat → Option Nat} {K : Nat → Nat × Nat} {n z : Nat} {Q : Option sm_V → sm_S → Prop} : sm_wp d 197 30 [l0, l1, l2] [.inl s0] (Z, Rf, K, n, z) Q = (sm_wp d 197 31 [l0, l1, l2] [.inl 0, .inl s0] (Z, Rf, K, n, z) Q) := w_iconst t197_30 rfl
set_option maxRecDepth 10000 in
theorem b197_31 {d : Nat} {l0 : Option sm_V} {l1 : Option sm_V} {x2 : Int} {s0 : Int} {s1 : Int} {Z : Nat → Nat → Int} {Rf : Nat → Nat → Option Nat} {K : Nat → Nat × Nat} {n z : Nat} {Q : Option sm_V → sm_S → Prop} : sm_wp d 197 31 [l0, l1, some (.inl x2)] [.inl s1, .inl s0] (Z, Rf, K, n, z) Q = (sm_wp d 197 4 [l0, some (.inl (s0 + s1)), some (.inl (x2 + 1))] [] (Z, Rf, K, n, z) Q) := (w_iadd t197_31 rfl).trans ((w_istore_n t197_32 rfl (Nat.le_of_ble_eq_true rfl) rfl).trans ((w_iinc t197_33 rfl rfl (Nat.le_of_ble_eq_true rfl) rfl).trans (w_goto t197_36 rfl)))
set_option maxRecDepth 10000 in
theorem b197_39 {d : Nat} {l0 : Option sm_V} {x1 : Int} {l2 : Option sm_V} {Z : Nat → Nat → Int} {Rf : Nat → Nat → Option Nat} {K : Nat → Nat × Nat} {n z : Nat} {Q : Option sm_V → sm_S → Prop} : sm_wp d 197 39 [l0, some (.inl x1), l2] [] (Z, Rf, K, n, z) Q = (Q (some (.inl x1)) (Z, Rf, K, n, z)) := (w_iload_n t197_39 rfl rfl).trans (w_iret t197_40)
theorem t198_0 : sm_at 198 0 = some (3, .new 7, 10, 0, 0) := rfl
theorem t198_3 : sm_at 198 3 = some (1, .dup, 0, 0, 0) := rfl
theorem t198_4 : sm_at 198 4 = some (3, .invokespecial 9, 82, 1, 0) := rfl
theorem t198_7 : sm_at 198 7 = some (1, .astore_n 1, 0, 0, 0) := rfl
theorem t198_8 : sm_at 198 8 = some (3, .new 10, 11, 0, 0) := rfl
theorem t198_11 : sm_at 198 11 = some (1, .dup, 0, 0, 0) := rfl
theorem t198_12 : sm_at 198 12 = some (3, .invokespecial 12, 117, 1, 0) := rfl
theorem t198_15 : sm_at 198 15 = some (1, .astore_n 2, 0, 0, 0) := rfl
theorem t198_16 : sm_at 198 16 = some (1, .iconst 0, 0, 0, 0) := rfl
theorem t198_17 : sm_at 198 17 = some (1, .istore_n 3, 0, 0, 0) := rfl
theorem t198_18 : sm_at 198 18 = some (1, .iload_n 3, 0, 0, 0) := rfl
theorem t198_19 : sm_at 198 19 = some (1, .aload_n 0, 0, 0, 0) := rfl
theorem t198_20 : sm_at 198 20 = some (1, .arraylength, 0, 0, 0) := rfl
theorem t198_21 : sm_at 198 21 = some (2, .bipush 6, 0, 0, 0) := rfl
theorem t198_23 : sm_at 198 23 = some (1, .isub, 0, 0, 0) := rfl
theorem t198_24 : sm_at 198 24 = some (3, .if_icmp .gt 1131, 0, 0, 0) := rfl
theorem t198_27 : sm_at 198 27 = some (1, .aload_n 0, 0, 0, 0) := rfl
theorem t198_28 : sm_at 198 28 = some (1, .iload_n 3, 0, 0, 0) := rfl
theorem t198_29 : sm_at 198 29 = some (1, .iaload, 0, 0, 0) := rfl
theorem t198_30 : sm_at 198 30 = some (2, .bipush 31, 0, 0, 0) := rfl
theorem t198_32 : sm_at 198 32 = some (1, .iand, 0, 0, 0) := rfl
theorem t198_33 : sm_at 198 33 = some (131, .tableswitch 1116 0 28 #[131, 154, 187, 230, 253, 276, 289, 312, 371, 404, 467, 530, 553, 576, 599, 612, 625, 658, 711, 744, 787, 820, 863, 906, 939, 998, 1021, 1054, 1093], 0, 0, 0) := rfl
theorem t198_164 : sm_at 198 164 = some (1, .aload_n 1, 0, 0, 0) := rfl
theorem t198_165 : sm_at 198 165 = some (1, .aload_n 0, 0, 0, 0) := rfl
theorem t198_166 : sm_at 198 166 = some (1, .iload_n 3, 0, 0, 0) := rfl
theorem t198_167 : sm_at 198 167 = some (1, .iconst 1, 0, 0, 0) := rfl
theorem t198_168 : sm_at 198 168 = some (1, .iadd, 0, 0, 0) := rfl
theorem t198_169 : sm_at 198 169 = some (1, .iaload, 0, 0, 0) := rfl
theorem t198_170 : sm_at 198 170 = some (3, .invokevirtual 13, 83, 2, 0) := rfl
theorem t198_173 : sm_at 198 173 = some (1, .aload_n 2, 0, 0, 0) := rfl
theorem t198_174 : sm_at 198 174 = some (1, .aload_n 0, 0, 0, 0) := rfl
theorem t198_175 : sm_at 198 175 = some (1, .iload_n 3, 0, 0, 0) := rfl
theorem t198_176 : sm_at 198 176 = some (1, .iconst 1, 0, 0, 0) := rfl
theorem t198_177 : sm_at 198 177 = some (1, .iadd, 0, 0, 0) := rfl
theorem t198_178 : sm_at 198 178 = some (1, .iaload, 0, 0, 0) := rfl
theorem t198_179 : sm_at 198 179 = some (3, .invokevirtual 17, 124, 2, 0) := rfl
theorem t198_182 : sm_at 198 182 = some (3, .if_icmp .eq 967, 0, 0, 0) := rfl
theorem t198_185 : sm_at 198 185 = some (1, .iconst 0, 0, 0, 0) := rfl
theorem t198_186 : sm_at 198 186 = some (1, .ireturn, 1, 0, 0) := rfl
theorem t198_187 : sm_at 198 187 = some (1, .aload_n 1, 0, 0, 0) := rfl
theorem t198_188 : sm_at 198 188 = some (1, .aload_n 0, 0, 0, 0) := rfl
theorem t198_189 : sm_at 198 189 = some (1, .iload_n 3, 0, 0, 0) := rfl
theorem t198_190 : sm_at 198 190 = some (1, .iconst 1, 0, 0, 0) := rfl
theorem t198_191 : sm_at 198 191 = some (1, .iadd, 0, 0, 0) := rfl
theorem t198_192 : sm_at 198 192 = some (1, .iaload, 0, 0, 0) := rfl
theorem t198_193 : sm_at 198 193 = some (1, .aload_n 0, 0, 0, 0) := rfl
theorem t198_194 : sm_at 198 194 = some (1, .iload_n 3, 0, 0, 0) := rfl
theorem t198_195 : sm_at 198 195 = some (1, .iconst 2, 0, 0, 0) := rfl
theorem t198_196 : sm_at 198 196 = some (1, .iadd, 0, 0, 0) := rfl
theorem t198_197 : sm_at 198 197 = some (1, .iaload, 0, 0, 0) := rfl
theorem t198_198 : sm_at 198 198 = some (3, .invokevirtual 18, 84, 3, 0) := rfl
theorem t198_201 : sm_at 198 201 = some (1, .aload_n 2, 0, 0, 0) := rfl
theorem t198_202 : sm_at 198 202 = some (1, .aload_n 0, 0, 0, 0) := rfl
theorem t198_203 : sm_at 198 203 = some (1, .iload_n 3, 0, 0, 0) := rfl
theorem t198_204 : sm_at 198 204 = some (1, .iconst 1, 0, 0, 0) := rfl
theorem t198_205 : sm_at 198 205 = some (1, .iadd, 0, 0, 0) := rfl
theorem t198_206 : sm_at 198 206 = some (1, .iaload, 0, 0, 0) := rfl
theorem t198_207 : sm_at 198 207 = some (1, .aload_n 0, 0, 0, 0) := rfl
theorem t198_208 : sm_at 198 208 = some (1, .iload_n 3, 0, 0, 0) := rfl
theorem t198_209 : sm_at 198 209 = some (1, .iconst 2, 0, 0, 0) := rfl
set_option maxRecDepth 100000 in
theorem t198_210 : sm_at 198 210 = some (1, .iadd, 0, 0, 0) := rfl
set_option maxRecDepth 100000 in
theorem t198_211 : sm_at 198 211 = some (1, .iaload, 0, 0, 0) := rfl
set_option maxRecDepth 100000 in
theorem t198_212 : sm_at 198 212 = some (3, .invokevirtual 22, 126, 3, 0) := rfl
set_option maxRecDepth 100000 in
theorem t198_215 : sm_at 198 215 = some (3, .if_icmp .eq 934, 0, 0, 0) := rfl
set_option maxRecDepth 100000 in
theorem t198_218 : sm_at 198 218 = some (1, .iconst 0, 0, 0, 0) := rfl
set_option maxRecDepth 100000 in
theorem t198_219 : sm_at 198 219 = some (1, .ireturn, 1, 0, 0) := rfl
set_option maxRecDepth 100000 in
theorem t198_220 : sm_at 198 220 = some (1, .aload_n 1, 0, 0, 0) := rfl
set_option maxRecDepth 100000 in
theorem t198_221 : sm_at 198 221 = some (1, .aload_n 0, 0, 0, 0) := rfl
set_option maxRecDepth 100000 in
theorem t198_222 : sm_at 198 222 = some (1, .iload_n 3, 0, 0, 0) := rfl
set_option maxRecDepth 100000 in
theorem t198_223 : sm_at 198 223 = some (1, .iconst 1, 0, 0, 0) := rfl
set_option maxRecDepth 100000 in
theorem t198_224 : sm_at 198 224 = some (1, .iadd, 0, 0, 0) := rfl
set_option maxRecDepth 100000 in
theorem t198_225 : sm_at 198 225 = some (1, .iaload, 0, 0, 0) := rfl
set_option maxRecDepth 100000 in
theorem t198_226 : sm_at 198 226 = some (1, .aload_n 0, 0, 0, 0) := rfl
set_option maxRecDepth 100000 in
theorem t198_227 : sm_at 198 227 = some (1, .iload_n 3, 0, 0, 0) := rfl
set_option maxRecDepth 100000 in
theorem t198_228 : sm_at 198 228 = some (1, .iconst 2, 0, 0, 0) := rfl
set_option maxRecDepth 100000 in
theorem t198_229 : sm_at 198 229 = some (1, .iadd, 0, 0, 0) := rfl
set_option maxRecDepth 100000 in
theorem t198_230 : sm_at 198 230 = some (1, .iaload, 0, 0, 0) := rfl
set_option maxRecDepth 100000 in
theorem t198_231 : sm_at 198 231 = some (1, .aload_n 0, 0, 0, 0) := rfl
set_option maxRecDepth 100000 in
theorem t198_232 : sm_at 198 232 = some (1, .iload_n 3, 0, 0, 0) := rfl
set_option maxRecDepth 100000 in
theorem t198_233 : sm_at 198 233 = some (1, .iconst 3, 0, 0, 0) := rfl
set_option maxRecDepth 100000 in
theorem t198_234 : sm_at 198 234 = some (1, .iadd, 0, 0, 0) := rfl
set_option maxRecDepth 100000 in
theorem t198_235 : sm_at 198 235 = some (1, .iaload, 0, 0, 0) := rfl
set_option maxRecDepth 100000 in
theorem t198_236 : sm_at 198 236 = some (3, .invokevirtual 23, 85, 4, 0) := rfl
set_option maxRecDepth 100000 in
theorem t198_239 : sm_at 198 239 = some (1, .aload_n 2, 0, 0, 0) := rfl
set_option maxRecDepth 100000 in
theorem t198_240 : sm_at 198 240 = some (1, .aload_n 0, 0, 0, 0) := rfl
set_option maxRecDepth 100000 in
theorem t198_241 : sm_at 198 241 = some (1, .iload_n 3, 0, 0, 0) := rfl
set_option maxRecDepth 100000 in
theorem t198_242 : sm_at 198 242 = some (1, .iconst 1, 0, 0, 0) := rfl
set_option maxRecDepth 100000 in
theorem t198_243 : sm_at 198 243 = some (1, .iadd, 0, 0, 0) := rfl
set_option maxRecDepth 100000 in
theorem t198_244 : sm_at 198 244 = some (1, .iaload, 0, 0, 0) := rfl
set_option maxRecDepth 100000 in
theorem t198_245 : sm_at 198 245 = some (1, .aload_n 0, 0, 0, 0) := rfl
set_option maxRecDepth 100000 in
theorem t198_246 : sm_at 198 246 = some (1, .iload_n 3, 0, 0, 0) := rfl
set_option maxRecDepth 100000 in
theorem t198_247 : sm_at 198 247 = some (1, .iconst 2, 0, 0, 0) := rfl
set_option maxRecDepth 100000 in
theorem t198_248 : sm_at 198 248 = some (1, .iadd, 0, 0, 0) := rfl
set_option maxRecDepth 100000 in
theorem t198_249 : sm_at 198 249 = some (1, .iaload, 0, 0, 0) := rfl
set_option maxRecDepth 100000 in
theorem t198_250 : sm_at 198 250 = some (1, .aload_n 0, 0, 0, 0) := rfl
set_option maxRecDepth 100000 in
theorem t198_251 : sm_at 198 251 = some (1, .iload_n 3, 0, 0, 0) := rfl
set_option maxRecDepth 100000 in
theorem t198_252 : sm_at 198 252 = some (1, .iconst 3, 0, 0, 0) := rfl
set_option maxRecDepth 100000 in
theorem t198_253 : sm_at 198 253 = some (1, .iadd, 0, 0, 0) := rfl
set_option maxRecDepth 100000 in
theorem t198_254 : sm_at 198 254 = some (1, .iaload, 0, 0, 0) := rfl
set_option maxRecDepth 100000 in
theorem t198_255 : sm_at 198 255 = some (3, .invokevirtual 27, 127, 4, 0) := rfl
set_option maxRecDepth 100000 in
theorem t198_258 : sm_at 198 258 = some (3, .if_icmp .eq 891, 0, 0, 0) := rfl
set_option maxRecDepth 100000 in
theorem t198_261 : sm_at 198 261 = some (1, .iconst 0, 0, 0, 0) := rfl
set_option maxRecDepth 100000 in
theorem t198_262 : sm_at 198 262 = some (1, .ireturn, 1, 0, 0) := rfl
set_option maxRecDepth 100000 in
theorem t198_263 : sm_at 198 263 = some (1, .aload_n 1, 0, 0, 0) := rfl
set_option maxRecDepth 100000 in
theorem t198_264 : sm_at 198 264 = some (1, .aload_n 0, 0, 0, 0) := rfl
set_option maxRecDepth 100000 in
theorem t198_265 : sm_at 198 265 = some (1, .iload_n 3, 0, 0, 0) := rfl
set_option maxRecDepth 100000 in
theorem t198_266 : sm_at 198 266 = some (1, .iconst 1, 0, 0, 0) := rfl
set_option maxRecDepth 100000 in
theorem t198_267 : sm_at 198 267 = some (1, .iadd, 0, 0, 0) := rfl
set_option maxRecDepth 100000 in
theorem t198_268 : sm_at 198 268 = some (1, .iaload, 0, 0, 0) := rfl
set_option maxRecDepth 100000 in
theorem t198_269 : sm_at 198 269 = some (3, .invokevirtual 28, 86, 2, 0) := rfl
set_option maxRecDepth 100000 in
theorem t198_272 : sm_at 198 272 = some (1, .aload_n 2, 0, 0, 0) := rfl
set_option maxRecDepth 100000 in
theorem t198_273 : sm_at 198 273 = some (1, .aload_n 0, 0, 0, 0) := rfl
set_option maxRecDepth 100000 in
theorem t198_274 : sm_at 198 274 = some (1, .iload_n 3, 0, 0, 0) := rfl
set_option maxRecDepth 100000 in
theorem t198_275 : sm_at 198 275 = some (1, .iconst 1, 0, 0, 0) := rfl
set_option maxRecDepth 100000 in
theorem t198_276 : sm_at 198 276 = some (1, .iadd, 0, 0, 0) := rfl
set_option maxRecDepth 100000 in
theorem t198_277 : sm_at 198 277 = some (1, .iaload, 0, 0, 0) := rfl
set_option maxRecDepth 100000 in
theorem t198_278 : sm_at 198 278 = some (3, .invokevirtual 32, 129, 2, 0) := rfl
set_option maxRecDepth 100000 in
theorem t198_281 : sm_at 198 281 = some (3, .if_icmp .eq 868, 0, 0, 0) := rfl
set_option maxRecDepth 100000 in
theorem t198_284 : sm_at 198 284 = some (1, .iconst 0, 0, 0, 0) := rfl
set_option maxRecDepth 100000 in
theorem t198_285 : sm_at 198 285 = some (1, .ireturn, 1, 0, 0) := rfl
set_option maxRecDepth 100000 in
theorem t198_286 : sm_at 198 286 = some (1, .aload_n 1, 0, 0, 0) := rfl
set_option maxRecDepth 100000 in
theorem t198_287 : sm_at 198 287 = some (1, .aload_n 0, 0, 0, 0) := rfl
set_option maxRecDepth 100000 in
theorem t198_288 : sm_at 198 288 = some (1, .iload_n 3, 0, 0, 0) := rfl
set_option maxRecDepth 100000 in
theorem t198_289 : sm_at 198 289 = some (1, .iconst 1, 0, 0, 0) := rfl
set_option maxRecDepth 100000 in
theorem t198_290 : sm_at 198 290 = some (1, .iadd, 0, 0, 0) := rfl
set_option maxRecDepth 100000 in
theorem t198_291 : sm_at 198 291 = some (1, .iaload, 0, 0, 0) := rfl
set_option maxRecDepth 100000 in
theorem t198_292 : sm_at 198 292 = some (3, .invokevirtual 33, 87, 2, 0) := rfl
set_option maxRecDepth 100000 in
theorem t198_295 : sm_at 198 295 = some (1, .aload_n 2, 0, 0, 0) := rfl
set_option maxRecDepth 100000 in
theorem t198_296 : sm_at 198 296 = some (1, .aload_n 0, 0, 0, 0) := rfl
set_option maxRecDepth 100000 in
theorem t198_297 : sm_at 198 297 = some (1, .iload_n 3, 0, 0, 0) := rfl
set_option maxRecDepth 100000 in
theorem t198_298 : sm_at 198 298 = some (1, .iconst 1, 0, 0, 0) := rfl
set_option maxRecDepth 100000 in
theorem t198_299 : sm_at 198 299 = some (1, .iadd, 0, 0, 0) := rfl
set_option maxRecDepth 100000 in
theorem t198_300 : sm_at 198 300 = some (1, .iaload, 0, 0, 0) := rfl
set_option maxRecDepth 100000 in
theorem t198_301 : sm_at 198 301 = some (3, .invokevirtual 36, 130, 2, 0) := rfl
set_option maxRecDepth 100000 in
theorem t198_304 : sm_at 198 304 = some (3, .if_icmp .eq 845, 0, 0, 0) := rfl
set_option maxRecDepth 100000 in
theorem t198_307 : sm_at 198 307 = some (1, .iconst 0, 0, 0, 0) := rfl
set_option maxRecDepth 100000 in
theorem t198_308 : sm_at 198 308 = some (1, .ireturn, 1, 0, 0) := rfl
set_option maxRecDepth 100000 in
theorem t198_309 : sm_at 198 309 = some (1, .aload_n 1, 0, 0, 0) := rfl
set_option maxRecDepth 100000 in
theorem t198_310 : sm_at 198 310 = some (3, .invokevirtual 37, 88, 1, 0) := rfl
set_option maxRecDepth 100000 in
theorem t198_313 : sm_at 198 313 = some (1, .aload_n 2, 0, 0, 0) := rfl
set_option maxRecDepth 100000 in
theorem t198_314 : sm_at 198 314 = some (3, .invokevirtual 41, 131, 1, 0) := rfl
set_option maxRecDepth 100000 in
theorem t198_317 : sm_at 198 317 = some (3, .if_icmp .eq 832, 0, 0, 0) := rfl
set_option maxRecDepth 100000 in
theorem t198_320 : sm_at 198 320 = some (1, .iconst 0, 0, 0, 0) := rfl
set_option maxRecDepth 100000 in
theorem t198_321 : sm_at 198 321 = some (1, .ireturn, 1, 0, 0) := rfl
set_option maxRecDepth 100000 in
theorem t198_322 : sm_at 198 322 = some (1, .aload_n 1, 0, 0, 0) := rfl
set_option maxRecDepth 100000 in
theorem t198_323 : sm_at 198 323 = some (1, .aload_n 0, 0, 0, 0) := rfl
set_option maxRecDepth 100000 in
theorem t198_324 : sm_at 198 324 = some (1, .iload_n 3, 0, 0, 0) := rfl
set_option maxRecDepth 100000 in
theorem t198_325 : sm_at 198 325 = some (1, .iconst 1, 0, 0, 0) := rfl
set_option maxRecDepth 100000 in
theorem t198_326 : sm_at 198 326 = some (1, .iadd, 0, 0, 0) := rfl
set_option maxRecDepth 100000 in
theorem t198_327 : sm_at 198 327 = some (1, .iaload, 0, 0, 0) := rfl
set_option maxRecDepth 100000 in
theorem t198_328 : sm_at 198 328 = some (3, .invokevirtual 42, 89, 2, 0) := rfl
set_option maxRecDepth 100000 in
theorem t198_331 : sm_at 198 331 = some (1, .aload_n 2, 0, 0, 0) := rfl
set_option maxRecDepth 100000 in
theorem t198_332 : sm_at 198 332 = some (1, .aload_n 0, 0, 0, 0) := rfl
set_option maxRecDepth 100000 in
theorem t198_333 : sm_at 198 333 = some (1, .iload_n 3, 0, 0, 0) := rfl
set_option maxRecDepth 100000 in
theorem t198_334 : sm_at 198 334 = some (1, .iconst 1, 0, 0, 0) := rfl
set_option maxRecDepth 100000 in
theorem t198_335 : sm_at 198 335 = some (1, .iadd, 0, 0, 0) := rfl
set_option maxRecDepth 100000 in
theorem t198_336 : sm_at 198 336 = some (1, .iaload, 0, 0, 0) := rfl
set_option maxRecDepth 100000 in
theorem t198_337 : sm_at 198 337 = some (3, .invokevirtual 45, 132, 2, 0) := rfl
set_option maxRecDepth 100000 in
theorem t198_340 : sm_at 198 340 = some (3, .if_icmp .eq 809, 0, 0, 0) := rfl
set_option maxRecDepth 100000 in
theorem t198_343 : sm_at 198 343 = some (1, .iconst 0, 0, 0, 0) := rfl
set_option maxRecDepth 100000 in
theorem t198_344 : sm_at 198 344 = some (1, .ireturn, 1, 0, 0) := rfl
set_option maxRecDepth 100000 in
theorem t198_345 : sm_at 198 345 = some (1, .aload_n 1, 0, 0, 0) := rfl
set_option maxRecDepth 100000 in
theorem t198_346 : sm_at 198 346 = some (1, .aload_n 0, 0, 0, 0) := rfl
set_option maxRecDepth 100000 in
theorem t198_347 : sm_at 198 347 = some (1, .iload_n 3, 0, 0, 0) := rfl
set_option maxRecDepth 100000 in
theorem t198_348 : sm_at 198 348 = some (1, .iconst 1, 0, 0, 0) := rfl
set_option maxRecDepth 100000 in
theorem t198_349 : sm_at 198 349 = some (1, .iadd, 0, 0, 0) := rfl
set_option maxRecDepth 100000 in
theorem t198_350 : sm_at 198 350 = some (1, .iaload, 0, 0, 0) := rfl
set_option maxRecDepth 100000 in
theorem t198_351 : sm_at 198 351 = some (1, .aload_n 0, 0, 0, 0) := rfl
set_option maxRecDepth 100000 in
theorem t198_352 : sm_at 198 352 = some (1, .iload_n 3, 0, 0, 0) := rfl
set_option maxRecDepth 100000 in
theorem t198_353 : sm_at 198 353 = some (1, .iconst 2, 0, 0, 0) := rfl
set_option maxRecDepth 100000 in
theorem t198_354 : sm_at 198 354 = some (1, .iadd, 0, 0, 0) := rfl
set_option maxRecDepth 100000 in
theorem t198_355 : sm_at 198 355 = some (1, .iaload, 0, 0, 0) := rfl
set_option maxRecDepth 100000 in
theorem t198_356 : sm_at 198 356 = some (1, .aload_n 0, 0, 0, 0) := rfl
set_option maxRecDepth 100000 in
theorem t198_357 : sm_at 198 357 = some (1, .iload_n 3, 0, 0, 0) := rfl
set_option maxRecDepth 100000 in
theorem t198_358 : sm_at 198 358 = some (1, .iconst 3, 0, 0, 0) := rfl
set_option maxRecDepth 100000 in
theorem t198_359 : sm_at 198 359 = some (1, .iadd, 0, 0, 0) := rfl
set_option maxRecDepth 100000 in
theorem t198_360 : sm_at 198 360 = some (1, .iaload, 0, 0, 0) := rfl
set_option maxRecDepth 100000 in
theorem t198_361 : sm_at 198 361 = some (3, .ifCond .eq 7, 0, 0, 0) := rfl
set_option maxRecDepth 100000 in
theorem t198_364 : sm_at 198 364 = some (1, .iconst 1, 0, 0, 0) := rfl
set_option maxRecDepth 100000 in
theorem t198_365 : sm_at 198 365 = some (3, .goto 4, 0, 0, 0) := rfl
set_option maxRecDepth 100000 in
theorem t198_368 : sm_at 198 368 = some (1, .iconst 0, 0, 0, 0) := rfl
set_option maxRecDepth 100000 in
theorem t198_369 : sm_at 198 369 = some (3, .invokevirtual 46, 90, 4, 0) := rfl
set_option maxRecDepth 100000 in
theorem t198_372 : sm_at 198 372 = some (1, .aload_n 2, 0, 0, 0) := rfl
set_option maxRecDepth 100000 in
theorem t198_373 : sm_at 198 373 = some (1, .aload_n 0, 0, 0, 0) := rfl
set_option maxRecDepth 100000 in
theorem t198_374 : sm_at 198 374 = some (1, .iload_n 3, 0, 0, 0) := rfl
set_option maxRecDepth 100000 in
theorem t198_375 : sm_at 198 375 = some (1, .iconst 1, 0, 0, 0) := rfl
set_option maxRecDepth 100000 in
theorem t198_376 : sm_at 198 376 = some (1, .iadd, 0, 0, 0) := rfl
set_option maxRecDepth 100000 in
theorem t198_377 : sm_at 198 377 = some (1, .iaload, 0, 0, 0) := rfl
set_option maxRecDepth 100000 in
theorem t198_378 : sm_at 198 378 = some (1, .aload_n 0, 0, 0, 0) := rfl
set_option maxRecDepth 100000 in
theorem t198_379 : sm_at 198 379 = some (1, .iload_n 3, 0, 0, 0) := rfl
set_option maxRecDepth 100000 in
theorem t198_380 : sm_at 198 380 = some (1, .iconst 2, 0, 0, 0) := rfl
set_option maxRecDepth 100000 in
theorem t198_381 : sm_at 198 381 = some (1, .iadd, 0, 0, 0) := rfl
set_option maxRecDepth 100000 in
theorem t198_382 : sm_at 198 382 = some (1, .iaload, 0, 0, 0) := rfl
set_option maxRecDepth 100000 in
theorem t198_383 : sm_at 198 383 = some (1, .aload_n 0, 0, 0, 0) := rfl
set_option maxRecDepth 100000 in
theorem t198_384 : sm_at 198 384 = some (1, .iload_n 3, 0, 0, 0) := rfl
set_option maxRecDepth 100000 in
theorem t198_385 : sm_at 198 385 = some (1, .iconst 3, 0, 0, 0) := rfl
set_option maxRecDepth 100000 in
theorem t198_386 : sm_at 198 386 = some (1, .iadd, 0, 0, 0) := rfl
set_option maxRecDepth 100000 in
theorem t198_387 : sm_at 198 387 = some (1, .iaload, 0, 0, 0) := rfl
set_option maxRecDepth 100000 in
theorem t198_388 : sm_at 198 388 = some (3, .ifCond .eq 7, 0, 0, 0) := rfl
set_option maxRecDepth 100000 in
theorem t198_391 : sm_at 198 391 = some (1, .iconst 1, 0, 0, 0) := rfl
set_option maxRecDepth 100000 in
theorem t198_392 : sm_at 198 392 = some (3, .goto 4, 0, 0, 0) := rfl
set_option maxRecDepth 100000 in
theorem t198_395 : sm_at 198 395 = some (1, .iconst 0, 0, 0, 0) := rfl
set_option maxRecDepth 100000 in
theorem t198_396 : sm_at 198 396 = some (3, .invokevirtual 50, 133, 4, 0) := rfl
set_option maxRecDepth 100000 in
theorem t198_399 : sm_at 198 399 = some (3, .if_icmp .eq 750, 0, 0, 0) := rfl
set_option maxRecDepth 100000 in
theorem t198_402 : sm_at 198 402 = some (1, .iconst 0, 0, 0, 0) := rfl
set_option maxRecDepth 100000 in
theorem t198_403 : sm_at 198 403 = some (1, .ireturn, 1, 0, 0) := rfl
set_option maxRecDepth 100000 in
theorem t198_404 : sm_at 198 404 = some (1, .aload_n 1, 0, 0, 0) := rfl
set_option maxRecDepth 100000 in
theorem t198_405 : sm_at 198 405 = some (1, .aload_n 0, 0, 0, 0) := rfl
set_option maxRecDepth 100000 in
theorem t198_406 : sm_at 198 406 = some (1, .iload_n 3, 0, 0, 0) := rfl
set_option maxRecDepth 100000 in
theorem t198_407 : sm_at 198 407 = some (1, .iconst 1, 0, 0, 0) := rfl
set_option maxRecDepth 100000 in
theorem t198_408 : sm_at 198 408 = some (1, .iadd, 0, 0, 0) := rfl
set_option maxRecDepth 100000 in
theorem t198_409 : sm_at 198 409 = some (1, .iaload, 0, 0, 0) := rfl
set_option maxRecDepth 100000 in
theorem t198_410 : sm_at 198 410 = some (1, .aload_n 0, 0, 0, 0) := rfl
set_option maxRecDepth 100000 in
theorem t198_411 : sm_at 198 411 = some (1, .iload_n 3, 0, 0, 0) := rfl
set_option maxRecDepth 100000 in
theorem t198_412 : sm_at 198 412 = some (1, .iconst 2, 0, 0, 0) := rfl
set_option maxRecDepth 100000 in
theorem t198_413 : sm_at 198 413 = some (1, .iadd, 0, 0, 0) := rfl
set_option maxRecDepth 100000 in
theorem t198_414 : sm_at 198 414 = some (1, .iaload, 0, 0, 0) := rfl
set_option maxRecDepth 100000 in
theorem t198_415 : sm_at 198 415 = some (3, .invokevirtual 51, 91, 3, 0) := rfl
set_option maxRecDepth 100000 in
theorem t198_418 : sm_at 198 418 = some (1, .aload_n 2, 0, 0, 0) := rfl
set_option maxRecDepth 100000 in
theorem t198_419 : sm_at 198 419 = some (1, .aload_n 0, 0, 0, 0) := rfl
set_option maxRecDepth 100000 in
theorem t198_420 : sm_at 198 420 = some (1, .iload_n 3, 0, 0, 0) := rfl
set_option maxRecDepth 100000 in
theorem t198_421 : sm_at 198 421 = some (1, .iconst 1, 0, 0, 0) := rfl
set_option maxRecDepth 100000 in
theorem t198_422 : sm_at 198 422 = some (1, .iadd, 0, 0, 0) := rfl
set_option maxRecDepth 100000 in
theorem t198_423 : sm_at 198 423 = some (1, .iaload, 0, 0, 0) := rfl
set_option maxRecDepth 100000 in
theorem t198_424 : sm_at 198 424 = some (1, .aload_n 0, 0, 0, 0) := rfl
set_option maxRecDepth 100000 in
theorem t198_425 : sm_at 198 425 = some (1, .iload_n 3, 0, 0, 0) := rfl
set_option maxRecDepth 100000 in
theorem t198_426 : sm_at 198 426 = some (1, .iconst 2, 0, 0, 0) := rfl
set_option maxRecDepth 100000 in
theorem t198_427 : sm_at 198 427 = some (1, .iadd, 0, 0, 0) := rfl
set_option maxRecDepth 100000 in
theorem t198_428 : sm_at 198 428 = some (1, .iaload, 0, 0, 0) := rfl
set_option maxRecDepth 100000 in
theorem t198_429 : sm_at 198 429 = some (3, .invokevirtual 55, 134, 3, 0) := rfl
set_option maxRecDepth 100000 in
theorem t198_432 : sm_at 198 432 = some (3, .if_icmp .eq 717, 0, 0, 0) := rfl
set_option maxRecDepth 100000 in
theorem t198_435 : sm_at 198 435 = some (1, .iconst 0, 0, 0, 0) := rfl
set_option maxRecDepth 100000 in
theorem t198_436 : sm_at 198 436 = some (1, .ireturn, 1, 0, 0) := rfl
set_option maxRecDepth 100000 in
theorem t198_437 : sm_at 198 437 = some (1, .aload_n 1, 0, 0, 0) := rfl
set_option maxRecDepth 100000 in
theorem t198_438 : sm_at 198 438 = some (1, .aload_n 0, 0, 0, 0) := rfl
set_option maxRecDepth 100000 in
theorem t198_439 : sm_at 198 439 = some (1, .iload_n 3, 0, 0, 0) := rfl
set_option maxRecDepth 100000 in
theorem t198_440 : sm_at 198 440 = some (1, .iconst 1, 0, 0, 0) := rfl
set_option maxRecDepth 100000 in
theorem t198_441 : sm_at 198 441 = some (1, .iadd, 0, 0, 0) := rfl
set_option maxRecDepth 100000 in
theorem t198_442 : sm_at 198 442 = some (1, .iaload, 0, 0, 0) := rfl
set_option maxRecDepth 100000 in
theorem t198_443 : sm_at 198 443 = some (1, .aload_n 0, 0, 0, 0) := rfl
set_option maxRecDepth 100000 in
theorem t198_444 : sm_at 198 444 = some (1, .iload_n 3, 0, 0, 0) := rfl
set_option maxRecDepth 100000 in
theorem t198_445 : sm_at 198 445 = some (1, .iconst 2, 0, 0, 0) := rfl
set_option maxRecDepth 100000 in
theorem t198_446 : sm_at 198 446 = some (1, .iadd, 0, 0, 0) := rfl
set_option maxRecDepth 100000 in
theorem t198_447 : sm_at 198 447 = some (1, .iaload, 0, 0, 0) := rfl
set_option maxRecDepth 100000 in
theorem t198_448 : sm_at 198 448 = some (1, .aload_n 0, 0, 0, 0) := rfl
set_option maxRecDepth 100000 in
theorem t198_449 : sm_at 198 449 = some (1, .iload_n 3, 0, 0, 0) := rfl
set_option maxRecDepth 100000 in
theorem t198_450 : sm_at 198 450 = some (1, .iconst 3, 0, 0, 0) := rfl
set_option maxRecDepth 100000 in
theorem t198_451 : sm_at 198 451 = some (1, .iadd, 0, 0, 0) := rfl
set_option maxRecDepth 100000 in
theorem t198_452 : sm_at 198 452 = some (1, .iaload, 0, 0, 0) := rfl
set_option maxRecDepth 100000 in
theorem t198_453 : sm_at 198 453 = some (1, .aload_n 0, 0, 0, 0) := rfl
set_option maxRecDepth 100000 in
theorem t198_454 : sm_at 198 454 = some (1, .iload_n 3, 0, 0, 0) := rfl
set_option maxRecDepth 100000 in
theorem t198_455 : sm_at 198 455 = some (1, .iconst 4, 0, 0, 0) := rfl
set_option maxRecDepth 100000 in
theorem t198_456 : sm_at 198 456 = some (1, .iadd, 0, 0, 0) := rfl
set_option maxRecDepth 100000 in
theorem t198_457 : sm_at 198 457 = some (1, .iaload, 0, 0, 0) := rfl
set_option maxRecDepth 100000 in
theorem t198_458 : sm_at 198 458 = some (1, .aload_n 0, 0, 0, 0) := rfl
set_option maxRecDepth 100000 in
theorem t198_459 : sm_at 198 459 = some (1, .iload_n 3, 0, 0, 0) := rfl
set_option maxRecDepth 100000 in
theorem t198_460 : sm_at 198 460 = some (1, .iconst 5, 0, 0, 0) := rfl
set_option maxRecDepth 100000 in
theorem t198_461 : sm_at 198 461 = some (1, .iadd, 0, 0, 0) := rfl
set_option maxRecDepth 100000 in
theorem t198_462 : sm_at 198 462 = some (1, .iaload, 0, 0, 0) := rfl
set_option maxRecDepth 100000 in
theorem t198_463 : sm_at 198 463 = some (3, .invokevirtual 56, 92, 6, 0) := rfl
set_option maxRecDepth 100000 in
theorem t198_466 : sm_at 198 466 = some (1, .aload_n 2, 0, 0, 0) := rfl
set_option maxRecDepth 100000 in
theorem t198_467 : sm_at 198 467 = some (1, .aload_n 0, 0, 0, 0) := rfl
set_option maxRecDepth 100000 in
theorem t198_468 : sm_at 198 468 = some (1, .iload_n 3, 0, 0, 0) := rfl
set_option maxRecDepth 100000 in
theorem t198_469 : sm_at 198 469 = some (1, .iconst 1, 0, 0, 0) := rfl
set_option maxRecDepth 100000 in
theorem t198_470 : sm_at 198 470 = some (1, .iadd, 0, 0, 0) := rfl
set_option maxRecDepth 100000 in
theorem t198_471 : sm_at 198 471 = some (1, .iaload, 0, 0, 0) := rfl
set_option maxRecDepth 100000 in
theorem t198_472 : sm_at 198 472 = some (1, .aload_n 0, 0, 0, 0) := rfl
set_option maxRecDepth 100000 in
theorem t198_473 : sm_at 198 473 = some (1, .iload_n 3, 0, 0, 0) := rfl
set_option maxRecDepth 100000 in
theorem t198_474 : sm_at 198 474 = some (1, .iconst 2, 0, 0, 0) := rfl
set_option maxRecDepth 100000 in
theorem t198_475 : sm_at 198 475 = some (1, .iadd, 0, 0, 0) := rfl
set_option maxRecDepth 100000 in
theorem t198_476 : sm_at 198 476 = some (1, .iaload, 0, 0, 0) := rfl
set_option maxRecDepth 100000 in
theorem t198_477 : sm_at 198 477 = some (1, .aload_n 0, 0, 0, 0) := rfl
set_option maxRecDepth 100000 in
theorem t198_478 : sm_at 198 478 = some (1, .iload_n 3, 0, 0, 0) := rfl
set_option maxRecDepth 100000 in
theorem t198_479 : sm_at 198 479 = some (1, .iconst 3, 0, 0, 0) := rfl
set_option maxRecDepth 100000 in
theorem t198_480 : sm_at 198 480 = some (1, .iadd, 0, 0, 0) := rfl
set_option maxRecDepth 100000 in
theorem t198_481 : sm_at 198 481 = some (1, .iaload, 0, 0, 0) := rfl
set_option maxRecDepth 100000 in
theorem t198_482 : sm_at 198 482 = some (1, .aload_n 0, 0, 0, 0) := rfl
set_option maxRecDepth 100000 in
theorem t198_483 : sm_at 198 483 = some (1, .iload_n 3, 0, 0, 0) := rfl
set_option maxRecDepth 100000 in
theorem t198_484 : sm_at 198 484 = some (1, .iconst 4, 0, 0, 0) := rfl
set_option maxRecDepth 100000 in
theorem t198_485 : sm_at 198 485 = some (1, .iadd, 0, 0, 0) := rfl
set_option maxRecDepth 100000 in
theorem t198_486 : sm_at 198 486 = some (1, .iaload, 0, 0, 0) := rfl
set_option maxRecDepth 100000 in
theorem t198_487 : sm_at 198 487 = some (1, .aload_n 0, 0, 0, 0) := rfl
set_option maxRecDepth 100000 in
theorem t198_488 : sm_at 198 488 = some (1, .iload_n 3, 0, 0, 0) := rfl
set_option maxRecDepth 100000 in
theorem t198_489 : sm_at 198 489 = some (1, .iconst 5, 0, 0, 0) := rfl
set_option maxRecDepth 100000 in
theorem t198_490 : sm_at 198 490 = some (1, .iadd, 0, 0, 0) := rfl
set_option maxRecDepth 100000 in
theorem t198_491 : sm_at 198 491 = some (1, .iaload, 0, 0, 0) := rfl
set_option maxRecDepth 100000 in
theorem t198_492 : sm_at 198 492 = some (3, .invokevirtual 60, 135, 6, 0) := rfl
set_option maxRecDepth 100000 in
theorem t198_495 : sm_at 198 495 = some (3, .if_icmp .eq 654, 0, 0, 0) := rfl
set_option maxRecDepth 100000 in
theorem t198_498 : sm_at 198 498 = some (1, .iconst 0, 0, 0, 0) := rfl
set_option maxRecDepth 100000 in
theorem t198_499 : sm_at 198 499 = some (1, .ireturn, 1, 0, 0) := rfl
set_option maxRecDepth 100000 in
theorem t198_500 : sm_at 198 500 = some (1, .aload_n 1, 0, 0, 0) := rfl
set_option maxRecDepth 100000 in
theorem t198_501 : sm_at 198 501 = some (1, .aload_n 0, 0, 0, 0) := rfl
set_option maxRecDepth 100000 in
theorem t198_502 : sm_at 198 502 = some (1, .iload_n 3, 0, 0, 0) := rfl
set_option maxRecDepth 100000 in
theorem t198_503 : sm_at 198 503 = some (1, .iconst 1, 0, 0, 0) := rfl
set_option maxRecDepth 100000 in
theorem t198_504 : sm_at 198 504 = some (1, .iadd, 0, 0, 0) := rfl
set_option maxRecDepth 100000 in
theorem t198_505 : sm_at 198 505 = some (1, .iaload, 0, 0, 0) := rfl
set_option maxRecDepth 100000 in
theorem t198_506 : sm_at 198 506 = some (1, .aload_n 0, 0, 0, 0) := rfl
set_option maxRecDepth 100000 in
theorem t198_507 : sm_at 198 507 = some (1, .iload_n 3, 0, 0, 0) := rfl
set_option maxRecDepth 100000 in
theorem t198_508 : sm_at 198 508 = some (1, .iconst 2, 0, 0, 0) := rfl
set_option maxRecDepth 100000 in
theorem t198_509 : sm_at 198 509 = some (1, .iadd, 0, 0, 0) := rfl
set_option maxRecDepth 100000 in
theorem t198_510 : sm_at 198 510 = some (1, .iaload, 0, 0, 0) := rfl
set_option maxRecDepth 100000 in
theorem t198_511 : sm_at 198 511 = some (1, .aload_n 0, 0, 0, 0) := rfl
set_option maxRecDepth 100000 in
theorem t198_512 : sm_at 198 512 = some (1, .iload_n 3, 0, 0, 0) := rfl
set_option maxRecDepth 100000 in
theorem t198_513 : sm_at 198 513 = some (1, .iconst 3, 0, 0, 0) := rfl
set_option maxRecDepth 100000 in
theorem t198_514 : sm_at 198 514 = some (1, .iadd, 0, 0, 0) := rfl
set_option maxRecDepth 100000 in
theorem t198_515 : sm_at 198 515 = some (1, .iaload, 0, 0, 0) := rfl
set_option maxRecDepth 100000 in
theorem t198_516 : sm_at 198 516 = some (1, .aload_n 0, 0, 0, 0) := rfl
set_option maxRecDepth 100000 in
theorem t198_517 : sm_at 198 517 = some (1, .iload_n 3, 0, 0, 0) := rfl
set_option maxRecDepth 100000 in
theorem t198_518 : sm_at 198 518 = some (1, .iconst 4, 0, 0, 0) := rfl
set_option maxRecDepth 100000 in
theorem t198_519 : sm_at 198 519 = some (1, .iadd, 0, 0, 0) := rfl
set_option maxRecDepth 100000 in
theorem t198_520 : sm_at 198 520 = some (1, .iaload, 0, 0, 0) := rfl
set_option maxRecDepth 100000 in
theorem t198_521 : sm_at 198 521 = some (1, .aload_n 0, 0, 0, 0) := rfl
set_option maxRecDepth 100000 in
theorem t198_522 : sm_at 198 522 = some (1, .iload_n 3, 0, 0, 0) := rfl
set_option maxRecDepth 100000 in
theorem t198_523 : sm_at 198 523 = some (1, .iconst 5, 0, 0, 0) := rfl
set_option maxRecDepth 100000 in
theorem t198_524 : sm_at 198 524 = some (1, .iadd, 0, 0, 0) := rfl
set_option maxRecDepth 100000 in
theorem t198_525 : sm_at 198 525 = some (1, .iaload, 0, 0, 0) := rfl
set_option maxRecDepth 100000 in
theorem t198_526 : sm_at 198 526 = some (3, .invokevirtual 61, 93, 6, 0) := rfl
set_option maxRecDepth 100000 in
theorem t198_529 : sm_at 198 529 = some (1, .aload_n 2, 0, 0, 0) := rfl
set_option maxRecDepth 100000 in
theorem t198_530 : sm_at 198 530 = some (1, .aload_n 0, 0, 0, 0) := rfl
set_option maxRecDepth 100000 in
theorem t198_531 : sm_at 198 531 = some (1, .iload_n 3, 0, 0, 0) := rfl
set_option maxRecDepth 100000 in
theorem t198_532 : sm_at 198 532 = some (1, .iconst 1, 0, 0, 0) := rfl
set_option maxRecDepth 100000 in
theorem t198_533 : sm_at 198 533 = some (1, .iadd, 0, 0, 0) := rfl
set_option maxRecDepth 100000 in
theorem t198_534 : sm_at 198 534 = some (1, .iaload, 0, 0, 0) := rfl
set_option maxRecDepth 100000 in
theorem t198_535 : sm_at 198 535 = some (1, .aload_n 0, 0, 0, 0) := rfl
set_option maxRecDepth 100000 in
theorem t198_536 : sm_at 198 536 = some (1, .iload_n 3, 0, 0, 0) := rfl
set_option maxRecDepth 100000 in
theorem t198_537 : sm_at 198 537 = some (1, .iconst 2, 0, 0, 0) := rfl
set_option maxRecDepth 100000 in
theorem t198_538 : sm_at 198 538 = some (1, .iadd, 0, 0, 0) := rfl
set_option maxRecDepth 100000 in
theorem t198_539 : sm_at 198 539 = some (1, .iaload, 0, 0, 0) := rfl
set_option maxRecDepth 100000 in
theorem t198_540 : sm_at 198 540 = some (1, .aload_n 0, 0, 0, 0) := rfl
set_option maxRecDepth 100000 in
theorem t198_541 : sm_at 198 541 = some (1, .iload_n 3, 0, 0, 0) := rfl
set_option maxRecDepth 100000 in
theorem t198_542 : sm_at 198 542 = some (1, .iconst 3, 0, 0, 0) := rfl
set_option maxRecDepth 100000 in
theorem t198_543 : sm_at 198 543 = some (1, .iadd, 0, 0, 0) := rfl
set_option maxRecDepth 100000 in
theorem t198_544 : sm_at 198 544 = some (1, .iaload, 0, 0, 0) := rfl
set_option maxRecDepth 100000 in
theorem t198_545 : sm_at 198 545 = some (1, .aload_n 0, 0, 0, 0) := rfl
set_option maxRecDepth 100000 in
theorem t198_546 : sm_at 198 546 = some (1, .iload_n 3, 0, 0, 0) := rfl
set_option maxRecDepth 100000 in
theorem t198_547 : sm_at 198 547 = some (1, .iconst 4, 0, 0, 0) := rfl
set_option maxRecDepth 100000 in
theorem t198_548 : sm_at 198 548 = some (1, .iadd, 0, 0, 0) := rfl
set_option maxRecDepth 100000 in
theorem t198_549 : sm_at 198 549 = some (1, .iaload, 0, 0, 0) := rfl
set_option maxRecDepth 100000 in
theorem t198_550 : sm_at 198 550 = some (1, .aload_n 0, 0, 0, 0) := rfl
set_option maxRecDepth 100000 in
theorem t198_551 : sm_at 198 551 = some (1, .iload_n 3, 0, 0, 0) := rfl
set_option maxRecDepth 100000 in
theorem t198_552 : sm_at 198 552 = some (1, .iconst 5, 0, 0, 0) := rfl
set_option maxRecDepth 100000 in
theorem t198_553 : sm_at 198 553 = some (1, .iadd, 0, 0, 0) := rfl
set_option maxRecDepth 100000 in
theorem t198_554 : sm_at 198 554 = some (1, .iaload, 0, 0, 0) := rfl
set_option maxRecDepth 100000 in
theorem t198_555 : sm_at 198 555 = some (3, .invokevirtual 64, 136, 6, 0) := rfl
set_option maxRecDepth 100000 in
theorem t198_558 : sm_at 198 558 = some (3, .if_icmp .eq 591, 0, 0, 0) := rfl
set_option maxRecDepth 100000 in
theorem t198_561 : sm_at 198 561 = some (1, .iconst 0, 0, 0, 0) := rfl
set_option maxRecDepth 100000 in
theorem t198_562 : sm_at 198 562 = some (1, .ireturn, 1, 0, 0) := rfl
set_option maxRecDepth 100000 in
theorem t198_563 : sm_at 198 563 = some (1, .aload_n 1, 0, 0, 0) := rfl
set_option maxRecDepth 100000 in
theorem t198_564 : sm_at 198 564 = some (1, .aload_n 0, 0, 0, 0) := rfl
set_option maxRecDepth 100000 in
theorem t198_565 : sm_at 198 565 = some (1, .iload_n 3, 0, 0, 0) := rfl
set_option maxRecDepth 100000 in
theorem t198_566 : sm_at 198 566 = some (1, .iconst 1, 0, 0, 0) := rfl
set_option maxRecDepth 100000 in
theorem t198_567 : sm_at 198 567 = some (1, .iadd, 0, 0, 0) := rfl
set_option maxRecDepth 100000 in
theorem t198_568 : sm_at 198 568 = some (1, .iaload, 0, 0, 0) := rfl
set_option maxRecDepth 100000 in
theorem t198_569 : sm_at 198 569 = some (3, .invokevirtual 65, 94, 2, 0) := rfl
set_option maxRecDepth 100000 in
theorem t198_572 : sm_at 198 572 = some (1, .aload_n 2, 0, 0, 0) := rfl
set_option maxRecDepth 100000 in
theorem t198_573 : sm_at 198 573 = some (1, .aload_n 0, 0, 0, 0) := rfl
set_option maxRecDepth 100000 in
theorem t198_574 : sm_at 198 574 = some (1, .iload_n 3, 0, 0, 0) := rfl
set_option maxRecDepth 100000 in
theorem t198_575 : sm_at 198 575 = some (1, .iconst 1, 0, 0, 0) := rfl
set_option maxRecDepth 100000 in
theorem t198_576 : sm_at 198 576 = some (1, .iadd, 0, 0, 0) := rfl
set_option maxRecDepth 100000 in
theorem t198_577 : sm_at 198 577 = some (1, .iaload, 0, 0, 0) := rfl
set_option maxRecDepth 100000 in
theorem t198_578 : sm_at 198 578 = some (3, .invokevirtual 68, 137, 2, 0) := rfl
set_option maxRecDepth 100000 in
theorem t198_581 : sm_at 198 581 = some (3, .if_icmp .eq 568, 0, 0, 0) := rfl
set_option maxRecDepth 100000 in
theorem t198_584 : sm_at 198 584 = some (1, .iconst 0, 0, 0, 0) := rfl
set_option maxRecDepth 100000 in
theorem t198_585 : sm_at 198 585 = some (1, .ireturn, 1, 0, 0) := rfl
set_option maxRecDepth 100000 in
theorem t198_586 : sm_at 198 586 = some (1, .aload_n 1, 0, 0, 0) := rfl
set_option maxRecDepth 100000 in
theorem t198_587 : sm_at 198 587 = some (1, .aload_n 0, 0, 0, 0) := rfl
set_option maxRecDepth 100000 in
theorem t198_588 : sm_at 198 588 = some (1, .iload_n 3, 0, 0, 0) := rfl
set_option maxRecDepth 100000 in
theorem t198_589 : sm_at 198 589 = some (1, .iconst 1, 0, 0, 0) := rfl
set_option maxRecDepth 100000 in
theorem t198_590 : sm_at 198 590 = some (1, .iadd, 0, 0, 0) := rfl
set_option maxRecDepth 100000 in
theorem t198_591 : sm_at 198 591 = some (1, .iaload, 0, 0, 0) := rfl
set_option maxRecDepth 100000 in
theorem t198_592 : sm_at 198 592 = some (3, .invokevirtual 69, 95, 2, 0) := rfl
set_option maxRecDepth 100000 in
theorem t198_595 : sm_at 198 595 = some (1, .aload_n 2, 0, 0, 0) := rfl
set_option maxRecDepth 100000 in
theorem t198_596 : sm_at 198 596 = some (1, .aload_n 0, 0, 0, 0) := rfl
set_option maxRecDepth 100000 in
theorem t198_597 : sm_at 198 597 = some (1, .iload_n 3, 0, 0, 0) := rfl
set_option maxRecDepth 100000 in
theorem t198_598 : sm_at 198 598 = some (1, .iconst 1, 0, 0, 0) := rfl
set_option maxRecDepth 100000 in
theorem t198_599 : sm_at 198 599 = some (1, .iadd, 0, 0, 0) := rfl
set_option maxRecDepth 100000 in
theorem t198_600 : sm_at 198 600 = some (1, .iaload, 0, 0, 0) := rfl
set_option maxRecDepth 100000 in
theorem t198_601 : sm_at 198 601 = some (3, .invokevirtual 72, 156, 2, 0) := rfl
set_option maxRecDepth 100000 in
theorem t198_604 : sm_at 198 604 = some (3, .if_icmp .eq 545, 0, 0, 0) := rfl
set_option maxRecDepth 100000 in
theorem t198_607 : sm_at 198 607 = some (1, .iconst 0, 0, 0, 0) := rfl
set_option maxRecDepth 100000 in
theorem t198_608 : sm_at 198 608 = some (1, .ireturn, 1, 0, 0) := rfl
set_option maxRecDepth 100000 in
theorem t198_609 : sm_at 198 609 = some (1, .aload_n 1, 0, 0, 0) := rfl
set_option maxRecDepth 100000 in
theorem t198_610 : sm_at 198 610 = some (1, .aload_n 0, 0, 0, 0) := rfl
set_option maxRecDepth 100000 in
theorem t198_611 : sm_at 198 611 = some (1, .iload_n 3, 0, 0, 0) := rfl
set_option maxRecDepth 100000 in
theorem t198_612 : sm_at 198 612 = some (1, .iconst 1, 0, 0, 0) := rfl
set_option maxRecDepth 100000 in
theorem t198_613 : sm_at 198 613 = some (1, .iadd, 0, 0, 0) := rfl
set_option maxRecDepth 100000 in
theorem t198_614 : sm_at 198 614 = some (1, .iaload, 0, 0, 0) := rfl
set_option maxRecDepth 100000 in
theorem t198_615 : sm_at 198 615 = some (3, .invokevirtual 73, 96, 2, 0) := rfl
set_option maxRecDepth 100000 in
theorem t198_618 : sm_at 198 618 = some (1, .aload_n 2, 0, 0, 0) := rfl
set_option maxRecDepth 100000 in
theorem t198_619 : sm_at 198 619 = some (1, .aload_n 0, 0, 0, 0) := rfl
set_option maxRecDepth 100000 in
theorem t198_620 : sm_at 198 620 = some (1, .iload_n 3, 0, 0, 0) := rfl
set_option maxRecDepth 100000 in
theorem t198_621 : sm_at 198 621 = some (1, .iconst 1, 0, 0, 0) := rfl
set_option maxRecDepth 100000 in
theorem t198_622 : sm_at 198 622 = some (1, .iadd, 0, 0, 0) := rfl
set_option maxRecDepth 100000 in
theorem t198_623 : sm_at 198 623 = some (1, .iaload, 0, 0, 0) := rfl
set_option maxRecDepth 100000 in
theorem t198_624 : sm_at 198 624 = some (3, .invokevirtual 76, 157, 2, 0) := rfl
set_option maxRecDepth 100000 in
theorem t198_627 : sm_at 198 627 = some (3, .if_icmp .eq 522, 0, 0, 0) := rfl
set_option maxRecDepth 100000 in
theorem t198_630 : sm_at 198 630 = some (1, .iconst 0, 0, 0, 0) := rfl
set_option maxRecDepth 100000 in
theorem t198_631 : sm_at 198 631 = some (1, .ireturn, 1, 0, 0) := rfl
set_option maxRecDepth 100000 in
theorem t198_632 : sm_at 198 632 = some (1, .aload_n 1, 0, 0, 0) := rfl
set_option maxRecDepth 100000 in
theorem t198_633 : sm_at 198 633 = some (3, .invokevirtual 77, 97, 1, 0) := rfl
set_option maxRecDepth 100000 in
theorem t198_636 : sm_at 198 636 = some (1, .aload_n 2, 0, 0, 0) := rfl
set_option maxRecDepth 100000 in
theorem t198_637 : sm_at 198 637 = some (3, .invokevirtual 81, 175, 1, 0) := rfl
set_option maxRecDepth 100000 in
theorem t198_640 : sm_at 198 640 = some (3, .if_icmp .eq 509, 0, 0, 0) := rfl
set_option maxRecDepth 100000 in
theorem t198_643 : sm_at 198 643 = some (1, .iconst 0, 0, 0, 0) := rfl
set_option maxRecDepth 100000 in
theorem t198_644 : sm_at 198 644 = some (1, .ireturn, 1, 0, 0) := rfl
set_option maxRecDepth 100000 in
theorem t198_645 : sm_at 198 645 = some (1, .aload_n 1, 0, 0, 0) := rfl
set_option maxRecDepth 100000 in
theorem t198_646 : sm_at 198 646 = some (3, .invokevirtual 82, 98, 1, 0) := rfl
set_option maxRecDepth 100000 in
theorem t198_649 : sm_at 198 649 = some (1, .aload_n 2, 0, 0, 0) := rfl
set_option maxRecDepth 100000 in
theorem t198_650 : sm_at 198 650 = some (3, .invokevirtual 85, 176, 1, 0) := rfl
set_option maxRecDepth 100000 in
theorem t198_653 : sm_at 198 653 = some (3, .if_icmp .eq 496, 0, 0, 0) := rfl
set_option maxRecDepth 100000 in
theorem t198_656 : sm_at 198 656 = some (1, .iconst 0, 0, 0, 0) := rfl
set_option maxRecDepth 100000 in
theorem t198_657 : sm_at 198 657 = some (1, .ireturn, 1, 0, 0) := rfl
set_option maxRecDepth 100000 in
theorem t198_658 : sm_at 198 658 = some (1, .aload_n 1, 0, 0, 0) := rfl
set_option maxRecDepth 100000 in
theorem t198_659 : sm_at 198 659 = some (1, .aload_n 0, 0, 0, 0) := rfl
set_option maxRecDepth 100000 in
theorem t198_660 : sm_at 198 660 = some (1, .iload_n 3, 0, 0, 0) := rfl
set_option maxRecDepth 100000 in
theorem t198_661 : sm_at 198 661 = some (1, .iconst 1, 0, 0, 0) := rfl
set_option maxRecDepth 100000 in
theorem t198_662 : sm_at 198 662 = some (1, .iadd, 0, 0, 0) := rfl
set_option maxRecDepth 100000 in
theorem t198_663 : sm_at 198 663 = some (1, .iaload, 0, 0, 0) := rfl
set_option maxRecDepth 100000 in
theorem t198_664 : sm_at 198 664 = some (1, .aload_n 0, 0, 0, 0) := rfl
set_option maxRecDepth 100000 in
theorem t198_665 : sm_at 198 665 = some (1, .iload_n 3, 0, 0, 0) := rfl
set_option maxRecDepth 100000 in
theorem t198_666 : sm_at 198 666 = some (1, .iconst 2, 0, 0, 0) := rfl
set_option maxRecDepth 100000 in
theorem t198_667 : sm_at 198 667 = some (1, .iadd, 0, 0, 0) := rfl
set_option maxRecDepth 100000 in
theorem t198_668 : sm_at 198 668 = some (1, .iaload, 0, 0, 0) := rfl
set_option maxRecDepth 100000 in
theorem t198_669 : sm_at 198 669 = some (3, .invokevirtual 86, 99, 3, 0) := rfl
set_option maxRecDepth 100000 in
theorem t198_672 : sm_at 198 672 = some (1, .aload_n 2, 0, 0, 0) := rfl
set_option maxRecDepth 100000 in
theorem t198_673 : sm_at 198 673 = some (1, .aload_n 0, 0, 0, 0) := rfl
set_option maxRecDepth 100000 in
theorem t198_674 : sm_at 198 674 = some (1, .iload_n 3, 0, 0, 0) := rfl
set_option maxRecDepth 100000 in
theorem t198_675 : sm_at 198 675 = some (1, .iconst 1, 0, 0, 0) := rfl
set_option maxRecDepth 100000 in
theorem t198_676 : sm_at 198 676 = some (1, .iadd, 0, 0, 0) := rfl
set_option maxRecDepth 100000 in
theorem t198_677 : sm_at 198 677 = some (1, .iaload, 0, 0, 0) := rfl
set_option maxRecDepth 100000 in
theorem t198_678 : sm_at 198 678 = some (1, .aload_n 0, 0, 0, 0) := rfl
set_option maxRecDepth 100000 in
theorem t198_679 : sm_at 198 679 = some (1, .iload_n 3, 0, 0, 0) := rfl
set_option maxRecDepth 100000 in
theorem t198_680 : sm_at 198 680 = some (1, .iconst 2, 0, 0, 0) := rfl
set_option maxRecDepth 100000 in
theorem t198_681 : sm_at 198 681 = some (1, .iadd, 0, 0, 0) := rfl
set_option maxRecDepth 100000 in
theorem t198_682 : sm_at 198 682 = some (1, .iaload, 0, 0, 0) := rfl
set_option maxRecDepth 100000 in
theorem t198_683 : sm_at 198 683 = some (3, .invokevirtual 89, 177, 3, 0) := rfl
set_option maxRecDepth 100000 in
theorem t198_686 : sm_at 198 686 = some (3, .if_icmp .eq 463, 0, 0, 0) := rfl
set_option maxRecDepth 100000 in
theorem t198_689 : sm_at 198 689 = some (1, .iconst 0, 0, 0, 0) := rfl
set_option maxRecDepth 100000 in
theorem t198_690 : sm_at 198 690 = some (1, .ireturn, 1, 0, 0) := rfl
set_option maxRecDepth 100000 in
theorem t198_691 : sm_at 198 691 = some (1, .aload_n 1, 0, 0, 0) := rfl
set_option maxRecDepth 100000 in
theorem t198_692 : sm_at 198 692 = some (1, .aload_n 0, 0, 0, 0) := rfl
set_option maxRecDepth 100000 in
theorem t198_693 : sm_at 198 693 = some (1, .iload_n 3, 0, 0, 0) := rfl
set_option maxRecDepth 100000 in
theorem t198_694 : sm_at 198 694 = some (1, .iconst 1, 0, 0, 0) := rfl
set_option maxRecDepth 100000 in
theorem t198_695 : sm_at 198 695 = some (1, .iadd, 0, 0, 0) := rfl
set_option maxRecDepth 100000 in
theorem t198_696 : sm_at 198 696 = some (1, .iaload, 0, 0, 0) := rfl
set_option maxRecDepth 100000 in
theorem t198_697 : sm_at 198 697 = some (1, .aload_n 0, 0, 0, 0) := rfl
set_option maxRecDepth 100000 in
theorem t198_698 : sm_at 198 698 = some (1, .iload_n 3, 0, 0, 0) := rfl
set_option maxRecDepth 100000 in
theorem t198_699 : sm_at 198 699 = some (1, .iconst 2, 0, 0, 0) := rfl
set_option maxRecDepth 100000 in
theorem t198_700 : sm_at 198 700 = some (1, .iadd, 0, 0, 0) := rfl
set_option maxRecDepth 100000 in
theorem t198_701 : sm_at 198 701 = some (1, .iaload, 0, 0, 0) := rfl
set_option maxRecDepth 100000 in
theorem t198_702 : sm_at 198 702 = some (1, .aload_n 0, 0, 0, 0) := rfl
set_option maxRecDepth 100000 in
theorem t198_703 : sm_at 198 703 = some (1, .iload_n 3, 0, 0, 0) := rfl
set_option maxRecDepth 100000 in
theorem t198_704 : sm_at 198 704 = some (1, .iconst 3, 0, 0, 0) := rfl
set_option maxRecDepth 100000 in
theorem t198_705 : sm_at 198 705 = some (1, .iadd, 0, 0, 0) := rfl
set_option maxRecDepth 100000 in
theorem t198_706 : sm_at 198 706 = some (1, .iaload, 0, 0, 0) := rfl
set_option maxRecDepth 100000 in
theorem t198_707 : sm_at 198 707 = some (1, .aload_n 0, 0, 0, 0) := rfl
set_option maxRecDepth 100000 in
theorem t198_708 : sm_at 198 708 = some (1, .iload_n 3, 0, 0, 0) := rfl
set_option maxRecDepth 100000 in
theorem t198_709 : sm_at 198 709 = some (1, .iconst 4, 0, 0, 0) := rfl
set_option maxRecDepth 100000 in
theorem t198_710 : sm_at 198 710 = some (1, .iadd, 0, 0, 0) := rfl
set_option maxRecDepth 100000 in
theorem t198_711 : sm_at 198 711 = some (1, .iaload, 0, 0, 0) := rfl
set_option maxRecDepth 100000 in
theorem t198_712 : sm_at 198 712 = some (3, .invokevirtual 90, 100, 5, 0) := rfl
set_option maxRecDepth 100000 in
theorem t198_715 : sm_at 198 715 = some (1, .aload_n 2, 0, 0, 0) := rfl
set_option maxRecDepth 100000 in
theorem t198_716 : sm_at 198 716 = some (1, .aload_n 0, 0, 0, 0) := rfl
set_option maxRecDepth 100000 in
theorem t198_717 : sm_at 198 717 = some (1, .iload_n 3, 0, 0, 0) := rfl
set_option maxRecDepth 100000 in
theorem t198_718 : sm_at 198 718 = some (1, .iconst 1, 0, 0, 0) := rfl
set_option maxRecDepth 100000 in
theorem t198_719 : sm_at 198 719 = some (1, .iadd, 0, 0, 0) := rfl
set_option maxRecDepth 100000 in
theorem t198_720 : sm_at 198 720 = some (1, .iaload, 0, 0, 0) := rfl
set_option maxRecDepth 100000 in
theorem t198_721 : sm_at 198 721 = some (1, .aload_n 0, 0, 0, 0) := rfl
set_option maxRecDepth 100000 in
theorem t198_722 : sm_at 198 722 = some (1, .iload_n 3, 0, 0, 0) := rfl
set_option maxRecDepth 100000 in
theorem t198_723 : sm_at 198 723 = some (1, .iconst 2, 0, 0, 0) := rfl
set_option maxRecDepth 100000 in
theorem t198_724 : sm_at 198 724 = some (1, .iadd, 0, 0, 0) := rfl
set_option maxRecDepth 100000 in
theorem t198_725 : sm_at 198 725 = some (1, .iaload, 0, 0, 0) := rfl
set_option maxRecDepth 100000 in
theorem t198_726 : sm_at 198 726 = some (1, .aload_n 0, 0, 0, 0) := rfl
set_option maxRecDepth 100000 in
theorem t198_727 : sm_at 198 727 = some (1, .iload_n 3, 0, 0, 0) := rfl
set_option maxRecDepth 100000 in
theorem t198_728 : sm_at 198 728 = some (1, .iconst 3, 0, 0, 0) := rfl
set_option maxRecDepth 100000 in
theorem t198_729 : sm_at 198 729 = some (1, .iadd, 0, 0, 0) := rfl
set_option maxRecDepth 100000 in
theorem t198_730 : sm_at 198 730 = some (1, .iaload, 0, 0, 0) := rfl
set_option maxRecDepth 100000 in
theorem t198_731 : sm_at 198 731 = some (1, .aload_n 0, 0, 0, 0) := rfl
set_option maxRecDepth 100000 in
theorem t198_732 : sm_at 198 732 = some (1, .iload_n 3, 0, 0, 0) := rfl
set_option maxRecDepth 100000 in
theorem t198_733 : sm_at 198 733 = some (1, .iconst 4, 0, 0, 0) := rfl
set_option maxRecDepth 100000 in
theorem t198_734 : sm_at 198 734 = some (1, .iadd, 0, 0, 0) := rfl
set_option maxRecDepth 100000 in
theorem t198_735 : sm_at 198 735 = some (1, .iaload, 0, 0, 0) := rfl
set_option maxRecDepth 100000 in
theorem t198_736 : sm_at 198 736 = some (3, .invokevirtual 94, 178, 5, 0) := rfl
set_option maxRecDepth 100000 in
theorem t198_739 : sm_at 198 739 = some (3, .if_icmp .eq 410, 0, 0, 0) := rfl
set_option maxRecDepth 100000 in
theorem t198_742 : sm_at 198 742 = some (1, .iconst 0, 0, 0, 0) := rfl
set_option maxRecDepth 100000 in
theorem t198_743 : sm_at 198 743 = some (1, .ireturn, 1, 0, 0) := rfl
set_option maxRecDepth 100000 in
theorem t198_744 : sm_at 198 744 = some (1, .aload_n 1, 0, 0, 0) := rfl
set_option maxRecDepth 100000 in
theorem t198_745 : sm_at 198 745 = some (1, .aload_n 0, 0, 0, 0) := rfl
set_option maxRecDepth 100000 in
theorem t198_746 : sm_at 198 746 = some (1, .iload_n 3, 0, 0, 0) := rfl
set_option maxRecDepth 100000 in
theorem t198_747 : sm_at 198 747 = some (1, .iconst 1, 0, 0, 0) := rfl
set_option maxRecDepth 100000 in
theorem t198_748 : sm_at 198 748 = some (1, .iadd, 0, 0, 0) := rfl
set_option maxRecDepth 100000 in
theorem t198_749 : sm_at 198 749 = some (1, .iaload, 0, 0, 0) := rfl
set_option maxRecDepth 100000 in
theorem t198_750 : sm_at 198 750 = some (1, .aload_n 0, 0, 0, 0) := rfl
set_option maxRecDepth 100000 in
theorem t198_751 : sm_at 198 751 = some (1, .iload_n 3, 0, 0, 0) := rfl
set_option maxRecDepth 100000 in
theorem t198_752 : sm_at 198 752 = some (1, .iconst 2, 0, 0, 0) := rfl
set_option maxRecDepth 100000 in
theorem t198_753 : sm_at 198 753 = some (1, .iadd, 0, 0, 0) := rfl
set_option maxRecDepth 100000 in
theorem t198_754 : sm_at 198 754 = some (1, .iaload, 0, 0, 0) := rfl
set_option maxRecDepth 100000 in
theorem t198_755 : sm_at 198 755 = some (3, .invokevirtual 95, 101, 3, 0) := rfl
set_option maxRecDepth 100000 in
theorem t198_758 : sm_at 198 758 = some (1, .aload_n 2, 0, 0, 0) := rfl
set_option maxRecDepth 100000 in
theorem t198_759 : sm_at 198 759 = some (1, .aload_n 0, 0, 0, 0) := rfl
set_option maxRecDepth 100000 in
theorem t198_760 : sm_at 198 760 = some (1, .iload_n 3, 0, 0, 0) := rfl
set_option maxRecDepth 100000 in
theorem t198_761 : sm_at 198 761 = some (1, .iconst 1, 0, 0, 0) := rfl
set_option maxRecDepth 100000 in
theorem t198_762 : sm_at 198 762 = some (1, .iadd, 0, 0, 0) := rfl
set_option maxRecDepth 100000 in
theorem t198_763 : sm_at 198 763 = some (1, .iaload, 0, 0, 0) := rfl
set_option maxRecDepth 100000 in
theorem t198_764 : sm_at 198 764 = some (1, .aload_n 0, 0, 0, 0) := rfl
set_option maxRecDepth 100000 in
theorem t198_765 : sm_at 198 765 = some (1, .iload_n 3, 0, 0, 0) := rfl
set_option maxRecDepth 100000 in
theorem t198_766 : sm_at 198 766 = some (1, .iconst 2, 0, 0, 0) := rfl
set_option maxRecDepth 100000 in
theorem t198_767 : sm_at 198 767 = some (1, .iadd, 0, 0, 0) := rfl
set_option maxRecDepth 100000 in
theorem t198_768 : sm_at 198 768 = some (1, .iaload, 0, 0, 0) := rfl
set_option maxRecDepth 100000 in
theorem t198_769 : sm_at 198 769 = some (3, .invokevirtual 98, 180, 3, 0) := rfl
set_option maxRecDepth 100000 in
theorem t198_772 : sm_at 198 772 = some (3, .if_icmp .eq 377, 0, 0, 0) := rfl
set_option maxRecDepth 100000 in
theorem t198_775 : sm_at 198 775 = some (1, .iconst 0, 0, 0, 0) := rfl
set_option maxRecDepth 100000 in
theorem t198_776 : sm_at 198 776 = some (1, .ireturn, 1, 0, 0) := rfl
set_option maxRecDepth 100000 in
theorem t198_777 : sm_at 198 777 = some (1, .aload_n 1, 0, 0, 0) := rfl
set_option maxRecDepth 100000 in
theorem t198_778 : sm_at 198 778 = some (1, .aload_n 0, 0, 0, 0) := rfl
set_option maxRecDepth 100000 in
theorem t198_779 : sm_at 198 779 = some (1, .iload_n 3, 0, 0, 0) := rfl
set_option maxRecDepth 100000 in
theorem t198_780 : sm_at 198 780 = some (1, .iconst 1, 0, 0, 0) := rfl
set_option maxRecDepth 100000 in
theorem t198_781 : sm_at 198 781 = some (1, .iadd, 0, 0, 0) := rfl
set_option maxRecDepth 100000 in
theorem t198_782 : sm_at 198 782 = some (1, .iaload, 0, 0, 0) := rfl
set_option maxRecDepth 100000 in
theorem t198_783 : sm_at 198 783 = some (1, .aload_n 0, 0, 0, 0) := rfl
set_option maxRecDepth 100000 in
theorem t198_784 : sm_at 198 784 = some (1, .iload_n 3, 0, 0, 0) := rfl
set_option maxRecDepth 100000 in
theorem t198_785 : sm_at 198 785 = some (1, .iconst 2, 0, 0, 0) := rfl
set_option maxRecDepth 100000 in
theorem t198_786 : sm_at 198 786 = some (1, .iadd, 0, 0, 0) := rfl
set_option maxRecDepth 100000 in
theorem t198_787 : sm_at 198 787 = some (1, .iaload, 0, 0, 0) := rfl
set_option maxRecDepth 100000 in
theorem t198_788 : sm_at 198 788 = some (1, .aload_n 0, 0, 0, 0) := rfl
set_option maxRecDepth 100000 in
theorem t198_789 : sm_at 198 789 = some (1, .iload_n 3, 0, 0, 0) := rfl
set_option maxRecDepth 100000 in
theorem t198_790 : sm_at 198 790 = some (1, .iconst 3, 0, 0, 0) := rfl
set_option maxRecDepth 100000 in
theorem t198_791 : sm_at 198 791 = some (1, .iadd, 0, 0, 0) := rfl
set_option maxRecDepth 100000 in
theorem t198_792 : sm_at 198 792 = some (1, .iaload, 0, 0, 0) := rfl
set_option maxRecDepth 100000 in
theorem t198_793 : sm_at 198 793 = some (3, .invokevirtual 99, 102, 4, 0) := rfl
set_option maxRecDepth 100000 in
theorem t198_796 : sm_at 198 796 = some (1, .aload_n 2, 0, 0, 0) := rfl
set_option maxRecDepth 100000 in
theorem t198_797 : sm_at 198 797 = some (1, .aload_n 0, 0, 0, 0) := rfl
set_option maxRecDepth 100000 in
theorem t198_798 : sm_at 198 798 = some (1, .iload_n 3, 0, 0, 0) := rfl
set_option maxRecDepth 100000 in
theorem t198_799 : sm_at 198 799 = some (1, .iconst 1, 0, 0, 0) := rfl
set_option maxRecDepth 100000 in
theorem t198_800 : sm_at 198 800 = some (1, .iadd, 0, 0, 0) := rfl
set_option maxRecDepth 100000 in
theorem t198_801 : sm_at 198 801 = some (1, .iaload, 0, 0, 0) := rfl
set_option maxRecDepth 100000 in
theorem t198_802 : sm_at 198 802 = some (1, .aload_n 0, 0, 0, 0) := rfl
set_option maxRecDepth 100000 in
theorem t198_803 : sm_at 198 803 = some (1, .iload_n 3, 0, 0, 0) := rfl
set_option maxRecDepth 100000 in
theorem t198_804 : sm_at 198 804 = some (1, .iconst 2, 0, 0, 0) := rfl
set_option maxRecDepth 100000 in
theorem t198_805 : sm_at 198 805 = some (1, .iadd, 0, 0, 0) := rfl
set_option maxRecDepth 100000 in
theorem t198_806 : sm_at 198 806 = some (1, .iaload, 0, 0, 0) := rfl
set_option maxRecDepth 100000 in
theorem t198_807 : sm_at 198 807 = some (1, .aload_n 0, 0, 0, 0) := rfl
set_option maxRecDepth 100000 in
theorem t198_808 : sm_at 198 808 = some (1, .iload_n 3, 0, 0, 0) := rfl
set_option maxRecDepth 100000 in
theorem t198_809 : sm_at 198 809 = some (1, .iconst 3, 0, 0, 0) := rfl
set_option maxRecDepth 100000 in
theorem t198_810 : sm_at 198 810 = some (1, .iadd, 0, 0, 0) := rfl
set_option maxRecDepth 100000 in
theorem t198_811 : sm_at 198 811 = some (1, .iaload, 0, 0, 0) := rfl
set_option maxRecDepth 100000 in
theorem t198_812 : sm_at 198 812 = some (3, .invokevirtual 103, 181, 4, 0) := rfl
set_option maxRecDepth 100000 in
theorem t198_815 : sm_at 198 815 = some (3, .if_icmp .eq 334, 0, 0, 0) := rfl
set_option maxRecDepth 100000 in
theorem t198_818 : sm_at 198 818 = some (1, .iconst 0, 0, 0, 0) := rfl
set_option maxRecDepth 100000 in
theorem t198_819 : sm_at 198 819 = some (1, .ireturn, 1, 0, 0) := rfl
set_option maxRecDepth 100000 in
theorem t198_820 : sm_at 198 820 = some (1, .aload_n 1, 0, 0, 0) := rfl
set_option maxRecDepth 100000 in
theorem t198_821 : sm_at 198 821 = some (1, .aload_n 0, 0, 0, 0) := rfl
set_option maxRecDepth 100000 in
theorem t198_822 : sm_at 198 822 = some (1, .iload_n 3, 0, 0, 0) := rfl
set_option maxRecDepth 100000 in
theorem t198_823 : sm_at 198 823 = some (1, .iconst 1, 0, 0, 0) := rfl
set_option maxRecDepth 100000 in
theorem t198_824 : sm_at 198 824 = some (1, .iadd, 0, 0, 0) := rfl
set_option maxRecDepth 100000 in
theorem t198_825 : sm_at 198 825 = some (1, .iaload, 0, 0, 0) := rfl
set_option maxRecDepth 100000 in
theorem t198_826 : sm_at 198 826 = some (1, .aload_n 0, 0, 0, 0) := rfl
set_option maxRecDepth 100000 in
theorem t198_827 : sm_at 198 827 = some (1, .iload_n 3, 0, 0, 0) := rfl
set_option maxRecDepth 100000 in
theorem t198_828 : sm_at 198 828 = some (1, .iconst 2, 0, 0, 0) := rfl
set_option maxRecDepth 100000 in
theorem t198_829 : sm_at 198 829 = some (1, .iadd, 0, 0, 0) := rfl
set_option maxRecDepth 100000 in
theorem t198_830 : sm_at 198 830 = some (1, .iaload, 0, 0, 0) := rfl
set_option maxRecDepth 100000 in
theorem t198_831 : sm_at 198 831 = some (3, .invokevirtual 104, 103, 3, 0) := rfl
set_option maxRecDepth 100000 in
theorem t198_834 : sm_at 198 834 = some (1, .aload_n 2, 0, 0, 0) := rfl
set_option maxRecDepth 100000 in
theorem t198_835 : sm_at 198 835 = some (1, .aload_n 0, 0, 0, 0) := rfl
set_option maxRecDepth 100000 in
theorem t198_836 : sm_at 198 836 = some (1, .iload_n 3, 0, 0, 0) := rfl
set_option maxRecDepth 100000 in
theorem t198_837 : sm_at 198 837 = some (1, .iconst 1, 0, 0, 0) := rfl
set_option maxRecDepth 100000 in
theorem t198_838 : sm_at 198 838 = some (1, .iadd, 0, 0, 0) := rfl
set_option maxRecDepth 100000 in
theorem t198_839 : sm_at 198 839 = some (1, .iaload, 0, 0, 0) := rfl
set_option maxRecDepth 100000 in
theorem t198_840 : sm_at 198 840 = some (1, .aload_n 0, 0, 0, 0) := rfl
set_option maxRecDepth 100000 in
theorem t198_841 : sm_at 198 841 = some (1, .iload_n 3, 0, 0, 0) := rfl
set_option maxRecDepth 100000 in
theorem t198_842 : sm_at 198 842 = some (1, .iconst 2, 0, 0, 0) := rfl
set_option maxRecDepth 100000 in
theorem t198_843 : sm_at 198 843 = some (1, .iadd, 0, 0, 0) := rfl
set_option maxRecDepth 100000 in
theorem t198_844 : sm_at 198 844 = some (1, .iaload, 0, 0, 0) := rfl
set_option maxRecDepth 100000 in
theorem t198_845 : sm_at 198 845 = some (3, .invokevirtual 107, 184, 3, 0) := rfl
set_option maxRecDepth 100000 in
theorem t198_848 : sm_at 198 848 = some (3, .if_icmp .eq 301, 0, 0, 0) := rfl
set_option maxRecDepth 100000 in
theorem t198_851 : sm_at 198 851 = some (1, .iconst 0, 0, 0, 0) := rfl
set_option maxRecDepth 100000 in
theorem t198_852 : sm_at 198 852 = some (1, .ireturn, 1, 0, 0) := rfl
set_option maxRecDepth 100000 in
theorem t198_853 : sm_at 198 853 = some (1, .aload_n 1, 0, 0, 0) := rfl
set_option maxRecDepth 100000 in
theorem t198_854 : sm_at 198 854 = some (1, .aload_n 0, 0, 0, 0) := rfl
set_option maxRecDepth 100000 in
theorem t198_855 : sm_at 198 855 = some (1, .iload_n 3, 0, 0, 0) := rfl
set_option maxRecDepth 100000 in
theorem t198_856 : sm_at 198 856 = some (1, .iconst 1, 0, 0, 0) := rfl
set_option maxRecDepth 100000 in
theorem t198_857 : sm_at 198 857 = some (1, .iadd, 0, 0, 0) := rfl
set_option maxRecDepth 100000 in
theorem t198_858 : sm_at 198 858 = some (1, .iaload, 0, 0, 0) := rfl
set_option maxRecDepth 100000 in
theorem t198_859 : sm_at 198 859 = some (1, .aload_n 0, 0, 0, 0) := rfl
set_option maxRecDepth 100000 in
theorem t198_860 : sm_at 198 860 = some (1, .iload_n 3, 0, 0, 0) := rfl
set_option maxRecDepth 100000 in
theorem t198_861 : sm_at 198 861 = some (1, .iconst 2, 0, 0, 0) := rfl
set_option maxRecDepth 100000 in
theorem t198_862 : sm_at 198 862 = some (1, .iadd, 0, 0, 0) := rfl
set_option maxRecDepth 100000 in
theorem t198_863 : sm_at 198 863 = some (1, .iaload, 0, 0, 0) := rfl
set_option maxRecDepth 100000 in
theorem t198_864 : sm_at 198 864 = some (1, .aload_n 0, 0, 0, 0) := rfl
set_option maxRecDepth 100000 in
theorem t198_865 : sm_at 198 865 = some (1, .iload_n 3, 0, 0, 0) := rfl
set_option maxRecDepth 100000 in
theorem t198_866 : sm_at 198 866 = some (1, .iconst 3, 0, 0, 0) := rfl
set_option maxRecDepth 100000 in
theorem t198_867 : sm_at 198 867 = some (1, .iadd, 0, 0, 0) := rfl
set_option maxRecDepth 100000 in
theorem t198_868 : sm_at 198 868 = some (1, .iaload, 0, 0, 0) := rfl
set_option maxRecDepth 100000 in
theorem t198_869 : sm_at 198 869 = some (3, .invokevirtual 108, 104, 4, 0) := rfl
set_option maxRecDepth 100000 in
theorem t198_872 : sm_at 198 872 = some (1, .aload_n 2, 0, 0, 0) := rfl
set_option maxRecDepth 100000 in
theorem t198_873 : sm_at 198 873 = some (1, .aload_n 0, 0, 0, 0) := rfl
set_option maxRecDepth 100000 in
theorem t198_874 : sm_at 198 874 = some (1, .iload_n 3, 0, 0, 0) := rfl
set_option maxRecDepth 100000 in
theorem t198_875 : sm_at 198 875 = some (1, .iconst 1, 0, 0, 0) := rfl
set_option maxRecDepth 100000 in
theorem t198_876 : sm_at 198 876 = some (1, .iadd, 0, 0, 0) := rfl
set_option maxRecDepth 100000 in
theorem t198_877 : sm_at 198 877 = some (1, .iaload, 0, 0, 0) := rfl
set_option maxRecDepth 100000 in
theorem t198_878 : sm_at 198 878 = some (1, .aload_n 0, 0, 0, 0) := rfl
set_option maxRecDepth 100000 in
theorem t198_879 : sm_at 198 879 = some (1, .iload_n 3, 0, 0, 0) := rfl
set_option maxRecDepth 100000 in
theorem t198_880 : sm_at 198 880 = some (1, .iconst 2, 0, 0, 0) := rfl
set_option maxRecDepth 100000 in
theorem t198_881 : sm_at 198 881 = some (1, .iadd, 0, 0, 0) := rfl
set_option maxRecDepth 100000 in
theorem t198_882 : sm_at 198 882 = some (1, .iaload, 0, 0, 0) := rfl
set_option maxRecDepth 100000 in
theorem t198_883 : sm_at 198 883 = some (1, .aload_n 0, 0, 0, 0) := rfl
set_option maxRecDepth 100000 in
theorem t198_884 : sm_at 198 884 = some (1, .iload_n 3, 0, 0, 0) := rfl
set_option maxRecDepth 100000 in
theorem t198_885 : sm_at 198 885 = some (1, .iconst 3, 0, 0, 0) := rfl
set_option maxRecDepth 100000 in
theorem t198_886 : sm_at 198 886 = some (1, .iadd, 0, 0, 0) := rfl
set_option maxRecDepth 100000 in
theorem t198_887 : sm_at 198 887 = some (1, .iaload, 0, 0, 0) := rfl
set_option maxRecDepth 100000 in
theorem t198_888 : sm_at 198 888 = some (3, .invokevirtual 111, 187, 4, 0) := rfl
set_option maxRecDepth 100000 in
theorem t198_891 : sm_at 198 891 = some (3, .if_icmp .eq 258, 0, 0, 0) := rfl
set_option maxRecDepth 100000 in
theorem t198_894 : sm_at 198 894 = some (1, .iconst 0, 0, 0, 0) := rfl
set_option maxRecDepth 100000 in
theorem t198_895 : sm_at 198 895 = some (1, .ireturn, 1, 0, 0) := rfl
set_option maxRecDepth 100000 in
theorem t198_896 : sm_at 198 896 = some (1, .aload_n 1, 0, 0, 0) := rfl
set_option maxRecDepth 100000 in
theorem t198_897 : sm_at 198 897 = some (1, .aload_n 0, 0, 0, 0) := rfl
set_option maxRecDepth 100000 in
theorem t198_898 : sm_at 198 898 = some (1, .iload_n 3, 0, 0, 0) := rfl
set_option maxRecDepth 100000 in
theorem t198_899 : sm_at 198 899 = some (1, .iconst 1, 0, 0, 0) := rfl
set_option maxRecDepth 100000 in
theorem t198_900 : sm_at 198 900 = some (1, .iadd, 0, 0, 0) := rfl
set_option maxRecDepth 100000 in
theorem t198_901 : sm_at 198 901 = some (1, .iaload, 0, 0, 0) := rfl
set_option maxRecDepth 100000 in
theorem t198_902 : sm_at 198 902 = some (1, .aload_n 0, 0, 0, 0) := rfl
set_option maxRecDepth 100000 in
theorem t198_903 : sm_at 198 903 = some (1, .iload_n 3, 0, 0, 0) := rfl
set_option maxRecDepth 100000 in
theorem t198_904 : sm_at 198 904 = some (1, .iconst 2, 0, 0, 0) := rfl
set_option maxRecDepth 100000 in
theorem t198_905 : sm_at 198 905 = some (1, .iadd, 0, 0, 0) := rfl
set_option maxRecDepth 100000 in
theorem t198_906 : sm_at 198 906 = some (1, .iaload, 0, 0, 0) := rfl
set_option maxRecDepth 100000 in
theorem t198_907 : sm_at 198 907 = some (1, .aload_n 0, 0, 0, 0) := rfl
set_option maxRecDepth 100000 in
theorem t198_908 : sm_at 198 908 = some (1, .iload_n 3, 0, 0, 0) := rfl
set_option maxRecDepth 100000 in
theorem t198_909 : sm_at 198 909 = some (1, .iconst 3, 0, 0, 0) := rfl
set_option maxRecDepth 100000 in
theorem t198_910 : sm_at 198 910 = some (1, .iadd, 0, 0, 0) := rfl
set_option maxRecDepth 100000 in
theorem t198_911 : sm_at 198 911 = some (1, .iaload, 0, 0, 0) := rfl
set_option maxRecDepth 100000 in
theorem t198_912 : sm_at 198 912 = some (3, .invokevirtual 112, 105, 4, 0) := rfl
set_option maxRecDepth 100000 in
theorem t198_915 : sm_at 198 915 = some (1, .aload_n 2, 0, 0, 0) := rfl
set_option maxRecDepth 100000 in
theorem t198_916 : sm_at 198 916 = some (1, .aload_n 0, 0, 0, 0) := rfl
set_option maxRecDepth 100000 in
theorem t198_917 : sm_at 198 917 = some (1, .iload_n 3, 0, 0, 0) := rfl
set_option maxRecDepth 100000 in
theorem t198_918 : sm_at 198 918 = some (1, .iconst 1, 0, 0, 0) := rfl
set_option maxRecDepth 100000 in
theorem t198_919 : sm_at 198 919 = some (1, .iadd, 0, 0, 0) := rfl
set_option maxRecDepth 100000 in
theorem t198_920 : sm_at 198 920 = some (1, .iaload, 0, 0, 0) := rfl
set_option maxRecDepth 100000 in
theorem t198_921 : sm_at 198 921 = some (1, .aload_n 0, 0, 0, 0) := rfl
set_option maxRecDepth 100000 in
theorem t198_922 : sm_at 198 922 = some (1, .iload_n 3, 0, 0, 0) := rfl
set_option maxRecDepth 100000 in
theorem t198_923 : sm_at 198 923 = some (1, .iconst 2, 0, 0, 0) := rfl
set_option maxRecDepth 100000 in
theorem t198_924 : sm_at 198 924 = some (1, .iadd, 0, 0, 0) := rfl
set_option maxRecDepth 100000 in
theorem t198_925 : sm_at 198 925 = some (1, .iaload, 0, 0, 0) := rfl
set_option maxRecDepth 100000 in
theorem t198_926 : sm_at 198 926 = some (1, .aload_n 0, 0, 0, 0) := rfl
set_option maxRecDepth 100000 in
theorem t198_927 : sm_at 198 927 = some (1, .iload_n 3, 0, 0, 0) := rfl
set_option maxRecDepth 100000 in
theorem t198_928 : sm_at 198 928 = some (1, .iconst 3, 0, 0, 0) := rfl
set_option maxRecDepth 100000 in
theorem t198_929 : sm_at 198 929 = some (1, .iadd, 0, 0, 0) := rfl
set_option maxRecDepth 100000 in
theorem t198_930 : sm_at 198 930 = some (1, .iaload, 0, 0, 0) := rfl
set_option maxRecDepth 100000 in
theorem t198_931 : sm_at 198 931 = some (3, .invokevirtual 115, 188, 4, 0) := rfl
set_option maxRecDepth 100000 in
theorem t198_934 : sm_at 198 934 = some (3, .if_icmp .eq 215, 0, 0, 0) := rfl
set_option maxRecDepth 100000 in
theorem t198_937 : sm_at 198 937 = some (1, .iconst 0, 0, 0, 0) := rfl
set_option maxRecDepth 100000 in
theorem t198_938 : sm_at 198 938 = some (1, .ireturn, 1, 0, 0) := rfl
set_option maxRecDepth 100000 in
theorem t198_939 : sm_at 198 939 = some (1, .aload_n 1, 0, 0, 0) := rfl
set_option maxRecDepth 100000 in
theorem t198_940 : sm_at 198 940 = some (1, .aload_n 0, 0, 0, 0) := rfl
set_option maxRecDepth 100000 in
theorem t198_941 : sm_at 198 941 = some (1, .iload_n 3, 0, 0, 0) := rfl
set_option maxRecDepth 100000 in
theorem t198_942 : sm_at 198 942 = some (1, .iconst 1, 0, 0, 0) := rfl
set_option maxRecDepth 100000 in
theorem t198_943 : sm_at 198 943 = some (1, .iadd, 0, 0, 0) := rfl
set_option maxRecDepth 100000 in
theorem t198_944 : sm_at 198 944 = some (1, .iaload, 0, 0, 0) := rfl
set_option maxRecDepth 100000 in
theorem t198_945 : sm_at 198 945 = some (1, .aload_n 0, 0, 0, 0) := rfl
set_option maxRecDepth 100000 in
theorem t198_946 : sm_at 198 946 = some (1, .iload_n 3, 0, 0, 0) := rfl
set_option maxRecDepth 100000 in
theorem t198_947 : sm_at 198 947 = some (1, .iconst 2, 0, 0, 0) := rfl
set_option maxRecDepth 100000 in
theorem t198_948 : sm_at 198 948 = some (1, .iadd, 0, 0, 0) := rfl
set_option maxRecDepth 100000 in
theorem t198_949 : sm_at 198 949 = some (1, .iaload, 0, 0, 0) := rfl
set_option maxRecDepth 100000 in
theorem t198_950 : sm_at 198 950 = some (3, .invokevirtual 116, 106, 3, 0) := rfl
set_option maxRecDepth 100000 in
theorem t198_953 : sm_at 198 953 = some (1, .aload_n 2, 0, 0, 0) := rfl
set_option maxRecDepth 100000 in
theorem t198_954 : sm_at 198 954 = some (1, .aload_n 0, 0, 0, 0) := rfl
set_option maxRecDepth 100000 in
theorem t198_955 : sm_at 198 955 = some (1, .iload_n 3, 0, 0, 0) := rfl
set_option maxRecDepth 100000 in
theorem t198_956 : sm_at 198 956 = some (1, .iconst 1, 0, 0, 0) := rfl
set_option maxRecDepth 100000 in
theorem t198_957 : sm_at 198 957 = some (1, .iadd, 0, 0, 0) := rfl
set_option maxRecDepth 100000 in
theorem t198_958 : sm_at 198 958 = some (1, .iaload, 0, 0, 0) := rfl
set_option maxRecDepth 100000 in
theorem t198_959 : sm_at 198 959 = some (1, .aload_n 0, 0, 0, 0) := rfl
set_option maxRecDepth 100000 in
theorem t198_960 : sm_at 198 960 = some (1, .iload_n 3, 0, 0, 0) := rfl
set_option maxRecDepth 100000 in
theorem t198_961 : sm_at 198 961 = some (1, .iconst 2, 0, 0, 0) := rfl
set_option maxRecDepth 100000 in
theorem t198_962 : sm_at 198 962 = some (1, .iadd, 0, 0, 0) := rfl
set_option maxRecDepth 100000 in
theorem t198_963 : sm_at 198 963 = some (1, .iaload, 0, 0, 0) := rfl
set_option maxRecDepth 100000 in
theorem t198_964 : sm_at 198 964 = some (3, .invokevirtual 119, 190, 3, 0) := rfl
set_option maxRecDepth 100000 in
theorem t198_967 : sm_at 198 967 = some (3, .if_icmp .eq 182, 0, 0, 0) := rfl
set_option maxRecDepth 100000 in
theorem t198_970 : sm_at 198 970 = some (1, .iconst 0, 0, 0, 0) := rfl
set_option maxRecDepth 100000 in
theorem t198_971 : sm_at 198 971 = some (1, .ireturn, 1, 0, 0) := rfl
set_option maxRecDepth 100000 in
theorem t198_972 : sm_at 198 972 = some (1, .aload_n 1, 0, 0, 0) := rfl
set_option maxRecDepth 100000 in
theorem t198_973 : sm_at 198 973 = some (1, .aload_n 0, 0, 0, 0) := rfl
set_option maxRecDepth 100000 in
theorem t198_974 : sm_at 198 974 = some (1, .iload_n 3, 0, 0, 0) := rfl
set_option maxRecDepth 100000 in
theorem t198_975 : sm_at 198 975 = some (1, .iconst 1, 0, 0, 0) := rfl
set_option maxRecDepth 100000 in
theorem t198_976 : sm_at 198 976 = some (1, .iadd, 0, 0, 0) := rfl
set_option maxRecDepth 100000 in
theorem t198_977 : sm_at 198 977 = some (1, .iaload, 0, 0, 0) := rfl
set_option maxRecDepth 100000 in
theorem t198_978 : sm_at 198 978 = some (1, .aload_n 0, 0, 0, 0) := rfl
set_option maxRecDepth 100000 in
theorem t198_979 : sm_at 198 979 = some (1, .iload_n 3, 0, 0, 0) := rfl
set_option maxRecDepth 100000 in
theorem t198_980 : sm_at 198 980 = some (1, .iconst 2, 0, 0, 0) := rfl
set_option maxRecDepth 100000 in
theorem t198_981 : sm_at 198 981 = some (1, .iadd, 0, 0, 0) := rfl
set_option maxRecDepth 100000 in
theorem t198_982 : sm_at 198 982 = some (1, .iaload, 0, 0, 0) := rfl
set_option maxRecDepth 100000 in
theorem t198_983 : sm_at 198 983 = some (1, .aload_n 0, 0, 0, 0) := rfl
set_option maxRecDepth 100000 in
theorem t198_984 : sm_at 198 984 = some (1, .iload_n 3, 0, 0, 0) := rfl
set_option maxRecDepth 100000 in
theorem t198_985 : sm_at 198 985 = some (1, .iconst 3, 0, 0, 0) := rfl
set_option maxRecDepth 100000 in
theorem t198_986 : sm_at 198 986 = some (1, .iadd, 0, 0, 0) := rfl
set_option maxRecDepth 100000 in
theorem t198_987 : sm_at 198 987 = some (1, .iaload, 0, 0, 0) := rfl
set_option maxRecDepth 100000 in
theorem t198_988 : sm_at 198 988 = some (3, .ifCond .eq 7, 0, 0, 0) := rfl
set_option maxRecDepth 100000 in
theorem t198_991 : sm_at 198 991 = some (1, .iconst 1, 0, 0, 0) := rfl
set_option maxRecDepth 100000 in
theorem t198_992 : sm_at 198 992 = some (3, .goto 4, 0, 0, 0) := rfl
set_option maxRecDepth 100000 in
theorem t198_995 : sm_at 198 995 = some (1, .iconst 0, 0, 0, 0) := rfl
set_option maxRecDepth 100000 in
theorem t198_996 : sm_at 198 996 = some (3, .invokevirtual 120, 107, 4, 0) := rfl
set_option maxRecDepth 100000 in
theorem t198_999 : sm_at 198 999 = some (1, .aload_n 2, 0, 0, 0) := rfl
set_option maxRecDepth 100000 in
theorem t198_1000 : sm_at 198 1000 = some (1, .aload_n 0, 0, 0, 0) := rfl
set_option maxRecDepth 100000 in
theorem t198_1001 : sm_at 198 1001 = some (1, .iload_n 3, 0, 0, 0) := rfl
set_option maxRecDepth 100000 in
theorem t198_1002 : sm_at 198 1002 = some (1, .iconst 1, 0, 0, 0) := rfl
set_option maxRecDepth 100000 in
theorem t198_1003 : sm_at 198 1003 = some (1, .iadd, 0, 0, 0) := rfl
set_option maxRecDepth 100000 in
theorem t198_1004 : sm_at 198 1004 = some (1, .iaload, 0, 0, 0) := rfl
set_option maxRecDepth 100000 in
theorem t198_1005 : sm_at 198 1005 = some (1, .aload_n 0, 0, 0, 0) := rfl
set_option maxRecDepth 100000 in
theorem t198_1006 : sm_at 198 1006 = some (1, .iload_n 3, 0, 0, 0) := rfl
set_option maxRecDepth 100000 in
theorem t198_1007 : sm_at 198 1007 = some (1, .iconst 2, 0, 0, 0) := rfl
set_option maxRecDepth 100000 in
theorem t198_1008 : sm_at 198 1008 = some (1, .iadd, 0, 0, 0) := rfl
set_option maxRecDepth 100000 in
theorem t198_1009 : sm_at 198 1009 = some (1, .iaload, 0, 0, 0) := rfl
set_option maxRecDepth 100000 in
theorem t198_1010 : sm_at 198 1010 = some (1, .aload_n 0, 0, 0, 0) := rfl
set_option maxRecDepth 100000 in
theorem t198_1011 : sm_at 198 1011 = some (1, .iload_n 3, 0, 0, 0) := rfl
set_option maxRecDepth 100000 in
theorem t198_1012 : sm_at 198 1012 = some (1, .iconst 3, 0, 0, 0) := rfl
set_option maxRecDepth 100000 in
theorem t198_1013 : sm_at 198 1013 = some (1, .iadd, 0, 0, 0) := rfl
set_option maxRecDepth 100000 in
theorem t198_1014 : sm_at 198 1014 = some (1, .iaload, 0, 0, 0) := rfl
set_option maxRecDepth 100000 in
theorem t198_1015 : sm_at 198 1015 = some (3, .ifCond .eq 7, 0, 0, 0) := rfl
set_option maxRecDepth 100000 in
theorem t198_1018 : sm_at 198 1018 = some (1, .iconst 1, 0, 0, 0) := rfl
set_option maxRecDepth 100000 in
theorem t198_1019 : sm_at 198 1019 = some (3, .goto 4, 0, 0, 0) := rfl
set_option maxRecDepth 100000 in
theorem t198_1022 : sm_at 198 1022 = some (1, .iconst 0, 0, 0, 0) := rfl
set_option maxRecDepth 100000 in
theorem t198_1023 : sm_at 198 1023 = some (3, .invokevirtual 123, 191, 4, 0) := rfl
set_option maxRecDepth 100000 in
theorem t198_1026 : sm_at 198 1026 = some (3, .if_icmp .eq 123, 0, 0, 0) := rfl
set_option maxRecDepth 100000 in
theorem t198_1029 : sm_at 198 1029 = some (1, .iconst 0, 0, 0, 0) := rfl
set_option maxRecDepth 100000 in
theorem t198_1030 : sm_at 198 1030 = some (1, .ireturn, 1, 0, 0) := rfl
set_option maxRecDepth 100000 in
theorem t198_1031 : sm_at 198 1031 = some (1, .aload_n 1, 0, 0, 0) := rfl
set_option maxRecDepth 100000 in
theorem t198_1032 : sm_at 198 1032 = some (1, .aload_n 0, 0, 0, 0) := rfl
set_option maxRecDepth 100000 in
theorem t198_1033 : sm_at 198 1033 = some (1, .iload_n 3, 0, 0, 0) := rfl
set_option maxRecDepth 100000 in
theorem t198_1034 : sm_at 198 1034 = some (1, .iconst 1, 0, 0, 0) := rfl
set_option maxRecDepth 100000 in
theorem t198_1035 : sm_at 198 1035 = some (1, .iadd, 0, 0, 0) := rfl
set_option maxRecDepth 100000 in
theorem t198_1036 : sm_at 198 1036 = some (1, .iaload, 0, 0, 0) := rfl
set_option maxRecDepth 100000 in
theorem t198_1037 : sm_at 198 1037 = some (3, .invokevirtual 124, 108, 2, 0) := rfl
set_option maxRecDepth 100000 in
theorem t198_1040 : sm_at 198 1040 = some (1, .aload_n 2, 0, 0, 0) := rfl
set_option maxRecDepth 100000 in
theorem t198_1041 : sm_at 198 1041 = some (1, .aload_n 0, 0, 0, 0) := rfl
set_option maxRecDepth 100000 in
theorem t198_1042 : sm_at 198 1042 = some (1, .iload_n 3, 0, 0, 0) := rfl
set_option maxRecDepth 100000 in
theorem t198_1043 : sm_at 198 1043 = some (1, .iconst 1, 0, 0, 0) := rfl
set_option maxRecDepth 100000 in
theorem t198_1044 : sm_at 198 1044 = some (1, .iadd, 0, 0, 0) := rfl
set_option maxRecDepth 100000 in
theorem t198_1045 : sm_at 198 1045 = some (1, .iaload, 0, 0, 0) := rfl
set_option maxRecDepth 100000 in
theorem t198_1046 : sm_at 198 1046 = some (3, .invokevirtual 127, 192, 2, 0) := rfl
set_option maxRecDepth 100000 in
theorem t198_1049 : sm_at 198 1049 = some (3, .if_icmp .eq 100, 0, 0, 0) := rfl
set_option maxRecDepth 100000 in
theorem t198_1052 : sm_at 198 1052 = some (1, .iconst 0, 0, 0, 0) := rfl
set_option maxRecDepth 100000 in
theorem t198_1053 : sm_at 198 1053 = some (1, .ireturn, 1, 0, 0) := rfl
set_option maxRecDepth 100000 in
theorem t198_1054 : sm_at 198 1054 = some (1, .aload_n 1, 0, 0, 0) := rfl
set_option maxRecDepth 100000 in
theorem t198_1055 : sm_at 198 1055 = some (1, .aload_n 0, 0, 0, 0) := rfl
set_option maxRecDepth 100000 in
theorem t198_1056 : sm_at 198 1056 = some (1, .iload_n 3, 0, 0, 0) := rfl
set_option maxRecDepth 100000 in
theorem t198_1057 : sm_at 198 1057 = some (1, .iconst 1, 0, 0, 0) := rfl
set_option maxRecDepth 100000 in
theorem t198_1058 : sm_at 198 1058 = some (1, .iadd, 0, 0, 0) := rfl
set_option maxRecDepth 100000 in
theorem t198_1059 : sm_at 198 1059 = some (1, .iaload, 0, 0, 0) := rfl
set_option maxRecDepth 100000 in
theorem t198_1060 : sm_at 198 1060 = some (1, .aload_n 0, 0, 0, 0) := rfl
set_option maxRecDepth 100000 in
theorem t198_1061 : sm_at 198 1061 = some (1, .iload_n 3, 0, 0, 0) := rfl
set_option maxRecDepth 100000 in
theorem t198_1062 : sm_at 198 1062 = some (1, .iconst 2, 0, 0, 0) := rfl
set_option maxRecDepth 100000 in
theorem t198_1063 : sm_at 198 1063 = some (1, .iadd, 0, 0, 0) := rfl
set_option maxRecDepth 100000 in
theorem t198_1064 : sm_at 198 1064 = some (1, .iaload, 0, 0, 0) := rfl
set_option maxRecDepth 100000 in
theorem t198_1065 : sm_at 198 1065 = some (3, .invokevirtual 128, 109, 3, 0) := rfl
set_option maxRecDepth 100000 in
theorem t198_1068 : sm_at 198 1068 = some (1, .aload_n 2, 0, 0, 0) := rfl
set_option maxRecDepth 100000 in
theorem t198_1069 : sm_at 198 1069 = some (1, .aload_n 0, 0, 0, 0) := rfl
set_option maxRecDepth 100000 in
theorem t198_1070 : sm_at 198 1070 = some (1, .iload_n 3, 0, 0, 0) := rfl
set_option maxRecDepth 100000 in
theorem t198_1071 : sm_at 198 1071 = some (1, .iconst 1, 0, 0, 0) := rfl
set_option maxRecDepth 100000 in
theorem t198_1072 : sm_at 198 1072 = some (1, .iadd, 0, 0, 0) := rfl
set_option maxRecDepth 100000 in
theorem t198_1073 : sm_at 198 1073 = some (1, .iaload, 0, 0, 0) := rfl
set_option maxRecDepth 100000 in
theorem t198_1074 : sm_at 198 1074 = some (1, .aload_n 0, 0, 0, 0) := rfl
set_option maxRecDepth 100000 in
theorem t198_1075 : sm_at 198 1075 = some (1, .iload_n 3, 0, 0, 0) := rfl
set_option maxRecDepth 100000 in
theorem t198_1076 : sm_at 198 1076 = some (1, .iconst 2, 0, 0, 0) := rfl
set_option maxRecDepth 100000 in
theorem t198_1077 : sm_at 198 1077 = some (1, .iadd, 0, 0, 0) := rfl
set_option maxRecDepth 100000 in
theorem t198_1078 : sm_at 198 1078 = some (1, .iaload, 0, 0, 0) := rfl
set_option maxRecDepth 100000 in
theorem t198_1079 : sm_at 198 1079 = some (3, .invokevirtual 131, 194, 3, 0) := rfl
set_option maxRecDepth 100000 in
theorem t198_1082 : sm_at 198 1082 = some (3, .if_icmp .eq 67, 0, 0, 0) := rfl
set_option maxRecDepth 100000 in
theorem t198_1085 : sm_at 198 1085 = some (1, .iconst 0, 0, 0, 0) := rfl
set_option maxRecDepth 100000 in
theorem t198_1086 : sm_at 198 1086 = some (1, .ireturn, 1, 0, 0) := rfl
set_option maxRecDepth 100000 in
theorem t198_1087 : sm_at 198 1087 = some (1, .aload_n 1, 0, 0, 0) := rfl
set_option maxRecDepth 100000 in
theorem t198_1088 : sm_at 198 1088 = some (1, .aload_n 0, 0, 0, 0) := rfl
set_option maxRecDepth 100000 in
theorem t198_1089 : sm_at 198 1089 = some (1, .iload_n 3, 0, 0, 0) := rfl
set_option maxRecDepth 100000 in
theorem t198_1090 : sm_at 198 1090 = some (1, .iconst 1, 0, 0, 0) := rfl
set_option maxRecDepth 100000 in
theorem t198_1091 : sm_at 198 1091 = some (1, .iadd, 0, 0, 0) := rfl
set_option maxRecDepth 100000 in
theorem t198_1092 : sm_at 198 1092 = some (1, .iaload, 0, 0, 0) := rfl
set_option maxRecDepth 100000 in
theorem t198_1093 : sm_at 198 1093 = some (3, .ifCond .eq 7, 0, 0, 0) := rfl
set_option maxRecDepth 100000 in
theorem t198_1096 : sm_at 198 1096 = some (1, .iconst 1, 0, 0, 0) := rfl
set_option maxRecDepth 100000 in
theorem t198_1097 : sm_at 198 1097 = some (3, .goto 4, 0, 0, 0) := rfl
set_option maxRecDepth 100000 in
theorem t198_1100 : sm_at 198 1100 = some (1, .iconst 0, 0, 0, 0) := rfl
set_option maxRecDepth 100000 in
theorem t198_1101 : sm_at 198 1101 = some (3, .invokevirtual 132, 110, 2, 0) := rfl
set_option maxRecDepth 100000 in
theorem t198_1104 : sm_at 198 1104 = some (1, .aload_n 2, 0, 0, 0) := rfl
set_option maxRecDepth 100000 in
theorem t198_1105 : sm_at 198 1105 = some (1, .aload_n 0, 0, 0, 0) := rfl
set_option maxRecDepth 100000 in
theorem t198_1106 : sm_at 198 1106 = some (1, .iload_n 3, 0, 0, 0) := rfl
set_option maxRecDepth 100000 in
theorem t198_1107 : sm_at 198 1107 = some (1, .iconst 1, 0, 0, 0) := rfl
set_option maxRecDepth 100000 in
theorem t198_1108 : sm_at 198 1108 = some (1, .iadd, 0, 0, 0) := rfl
set_option maxRecDepth 100000 in
theorem t198_1109 : sm_at 198 1109 = some (1, .iaload, 0, 0, 0) := rfl
set_option maxRecDepth 100000 in
theorem t198_1110 : sm_at 198 1110 = some (3, .ifCond .eq 7, 0, 0, 0) := rfl
set_option maxRecDepth 100000 in
theorem t198_1113 : sm_at 198 1113 = some (1, .iconst 1, 0, 0, 0) := rfl
set_option maxRecDepth 100000 in
theorem t198_1114 : sm_at 198 1114 = some (3, .goto 4, 0, 0, 0) := rfl
set_option maxRecDepth 100000 in
theorem t198_1117 : sm_at 198 1117 = some (1, .iconst 0, 0, 0, 0) := rfl
set_option maxRecDepth 100000 in
theorem t198_1118 : sm_at 198 1118 = some (3, .invokevirtual 136, 195, 2, 0) := rfl
set_option maxRecDepth 100000 in
theorem t198_1121 : sm_at 198 1121 = some (3, .if_icmp .eq 28, 0, 0, 0) := rfl
set_option maxRecDepth 100000 in
theorem t198_1124 : sm_at 198 1124 = some (1, .iconst 0, 0, 0, 0) := rfl
set_option maxRecDepth 100000 in
theorem t198_1125 : sm_at 198 1125 = some (1, .ireturn, 1, 0, 0) := rfl
set_option maxRecDepth 100000 in
theorem t198_1126 : sm_at 198 1126 = some (1, .aload_n 1, 0, 0, 0) := rfl
set_option maxRecDepth 100000 in
theorem t198_1127 : sm_at 198 1127 = some (1, .aload_n 0, 0, 0, 0) := rfl
set_option maxRecDepth 100000 in
theorem t198_1128 : sm_at 198 1128 = some (1, .iload_n 3, 0, 0, 0) := rfl
set_option maxRecDepth 100000 in
theorem t198_1129 : sm_at 198 1129 = some (1, .iconst 1, 0, 0, 0) := rfl
set_option maxRecDepth 100000 in
theorem t198_1130 : sm_at 198 1130 = some (1, .iadd, 0, 0, 0) := rfl
set_option maxRecDepth 100000 in
theorem t198_1131 : sm_at 198 1131 = some (1, .iaload, 0, 0, 0) := rfl
set_option maxRecDepth 100000 in
theorem t198_1132 : sm_at 198 1132 = some (3, .invokevirtual 137, 111, 2, 0) := rfl
set_option maxRecDepth 100000 in
theorem t198_1135 : sm_at 198 1135 = some (1, .aload_n 2, 0, 0, 0) := rfl
set_option maxRecDepth 100000 in
theorem t198_1136 : sm_at 198 1136 = some (1, .aload_n 0, 0, 0, 0) := rfl
set_option maxRecDepth 100000 in
theorem t198_1137 : sm_at 198 1137 = some (1, .iload_n 3, 0, 0, 0) := rfl
set_option maxRecDepth 100000 in
theorem t198_1138 : sm_at 198 1138 = some (1, .iconst 1, 0, 0, 0) := rfl
set_option maxRecDepth 100000 in
theorem t198_1139 : sm_at 198 1139 = some (1, .iadd, 0, 0, 0) := rfl
set_option maxRecDepth 100000 in
theorem t198_1140 : sm_at 198 1140 = some (1, .iaload, 0, 0, 0) := rfl
set_option maxRecDepth 100000 in
theorem t198_1141 : sm_at 198 1141 = some (3, .invokevirtual 140, 196, 2, 0) := rfl
set_option maxRecDepth 100000 in
theorem t198_1144 : sm_at 198 1144 = some (3, .if_icmp .eq 5, 0, 0, 0) := rfl
set_option maxRecDepth 100000 in
theorem t198_1147 : sm_at 198 1147 = some (1, .iconst 0, 0, 0, 0) := rfl
set_option maxRecDepth 100000 in
theorem t198_1148 : sm_at 198 1148 = some (1, .ireturn, 1, 0, 0) := rfl
set_option maxRecDepth 100000 in
theorem t198_1149 : sm_at 198 1149 = some (3, .iinc 3 6, 0, 0, 0) := rfl
set_option maxRecDepth 100000 in
theorem t198_1152 : sm_at 198 1152 = some (3, .goto (-1134), 0, 0, 0) := rfl
set_option maxRecDepth 100000 in
theorem t198_1155 : sm_at 198 1155 = some (1, .iconst 1, 0, 0, 0) := rfl
set_option maxRecDepth 100000 in
theorem t198_1156 : sm_at 198 1156 = some (1, .ireturn, 1, 0, 0) := rfl
set_option maxRecDepth 10000 in
theorem b198_0 {d : Nat} {l0 : Option sm_V} {l1 : Option sm_V} {l2 : Option sm_V} {l3 : Option sm_V} {Z : Nat → Nat → Int} {Rf : Nat → Nat → Option Nat} {K : Nat → Nat × Nat} {n z : Nat} {Q : Option sm_V → sm_S → Prop} : sm_wp (d + 1) 198 0 [l0, l1, l2, l3] [] (Z, Rf, K, n, z) Q = (n < 1000000 ∧ ((sm_k K n (10, 13)) n).1 = 10 ∧ sm_call d 82 [.inr (some n)] (sm_r Z n (fun _ => 0), sm_r Rf n (fun _ => none), sm_k K n (10, 13), n + 1, z + 13) (sm_cont (d + 1) 198 7 [l0, l1, l2, l3] [.inr (some n)] Q)) := (w_new t198_0 rfl (by decide) rfl).trans (congrArg (And _) ((w_dup t198_3 rfl).trans (w_callV t198_4 rfl rfl rfl rfl (Nat.le_of_ble_eq_true rfl) (Nat.le_of_ble_eq_true rfl) rfl (by decide))))
set_option maxRecDepth 10000 in
theorem b198_7 {d : Nat} {l0 : Option sm_V} {l1 : Option sm_V} {l2 : Option sm_V} {l3 : Option sm_V} {qs0 : Option Nat} {Z : Nat → Nat → Int} {Rf : Nat → Nat → Option Nat} {K : Nat → Nat × Nat} {n z : Nat} {Q : Option sm_V → sm_S → Prop} : sm_wp (d + 1) 198 7 [l0, l1, l2, l3] [.inr qs0] (Z, Rf, K, n, z) Q = (n < 1000000 ∧ ((sm_k K n (11, 37)) n).1 = 11 ∧ sm_call d 117 [.inr (some n)] (sm_r Z n (fun _ => 0), sm_r Rf n (fun _ => none), sm_k K n (11, 37), n + 1, z + 37) (sm_cont (d + 1) 198 15 [l0, some (.inr qs0), l2, l3] [.inr (some n)] Q)) := (w_astore_n t198_7 rfl (Nat.le_of_ble_eq_true rfl) rfl).trans ((w_new t198_8 rfl (by decide) rfl).trans (congrArg (And _) ((w_dup t198_11 rfl).trans (w_callV t198_12 rfl rfl rfl rfl (Nat.le_of_ble_eq_true rfl) (Nat.le_of_ble_eq_true rfl) rfl (by decide)))))
set_option maxRecDepth 10000 in
theorem b198_15 {d : Nat} {l0 : Option sm_V} {l1 : Option sm_V} {l2 : Option sm_V} {l3 : Option sm_V} {qs0 : Option Nat} {Z : Nat → Nat → Int} {Rf : Nat → Nat → Option Nat} {K : Nat → Nat × Nat} {n z : Nat} {Q : Option sm_V → sm_S → Prop} : sm_wp d 198 15 [l0, l1, l2, l3] [.inr qs0] (Z, Rf, K, n, z) Q = (sm_wp d 198 18 [l0, l1, some (.inr qs0), some (.inl 0)] [] (Z, Rf, K, n, z) Q) := (w_astore_n t198_15 rfl (Nat.le_of_ble_eq_true rfl) rfl).trans ((w_iconst t198_16 rfl).trans (w_istore_n t198_17 rfl (Nat.le_of_ble_eq_true rfl) rfl))
set_option maxRecDepth 10000 in
theorem b198_18 {d : Nat} {r0 : Nat} {l1 : Option sm_V} {l2 : Option sm_V} {x3 : Int} {Z : Nat → Nat → Int} {Rf : Nat → Nat → Option Nat} {K : Nat → Nat × Nat} {n z : Nat} {Q : Option sm_V → sm_S → Prop} : sm_wp d 198 18 [some (.inr (some r0)), l1, l2, some (.inl x3)] [] (Z, Rf, K, n, z) Q = (((K r0).1 = 100 ∨ (K r0).1 = 101 ∨ (K r0).1 = 102 ∨ (K r0).1 = 104) ∧ (if wr ((((K r0).2 : Int)) - 6) < wr x3 then sm_wp d 198 1155 [some (.inr (some r0)), l1, l2, some (.inl x3)] [] (Z, Rf, K, n, z) Q else sm_wp d 198 27 [some (.inr (some r0)), l1, l2, some (.inl x3)] [] (Z, Rf, K, n, z) Q)) := (w_iload_n t198_18 rfl rfl).trans ((w_aload_n t198_19 rfl rfl).trans ((w_alen t198_20 rfl).trans (congrArg (And _) ((w_bipush t198_21 rfl).trans ((w_isub t198_23 rfl).trans (w_icgt t198_24 rfl rfl rfl rfl))))))
set_option maxRecDepth 10000 in
theorem b198_27 {d : Nat} {r0 : Nat} {l1 : Option sm_V} {l2 : Option sm_V} {x3 : Int} {Z : Nat → Nat → Int} {Rf : Nat → Nat → Option Nat} {K : Nat → Nat × Nat} {n z : Nat} {Q : Option sm_V → sm_S → Prop} : sm_wp d 198 27 [some (.inr (some r0)), l1, l2, some (.inl x3)] [] (Z, Rf, K, n, z) Q = (sm_rd (K r0) (wr x3) ∧ sm_wp d 198 (sm_sel (wr (sm_and (Z r0 ((wr x3).toNat)) 31)) 1149 [(0, 164), (1, 187), (2, 220), (3, 263), (4, 286), (5, 309), (6, 322), (7, 345), (8, 404), (9, 437), (10, 500), (11, 563), (12, 586), (13, 609), (14, 632), (15, 645), (16, 658), (17, 691), (18, 744), (19, 777), (20, 820), (21, 853), (22, 896), (23, 939), (24, 972), (25, 1031), (26, 1054), (27, 1087), (28, 1126)]) [some (.inr (some r0)), l1, l2, some (.inl x3)] [] (Z, Rf, K, n, z) Q) := (w_aload_n t198_27 rfl rfl).trans ((w_iload_n t198_28 rfl rfl).trans ((w_iald t198_29 rfl rfl).trans (congrArg (And _) ((w_bipush t198_30 rfl).trans ((w_iand t198_32 rfl).trans (w_tsw t198_33 rfl rfl rfl (by decide)))))))
set_option maxRecDepth 10000 in
theorem b198_164 {d : Nat} {r0 : Nat} {r1 : Nat} {l2 : Option sm_V} {x3 : Int} {Z : Nat → Nat → Int} {Rf : Nat → Nat → Option Nat} {K : Nat → Nat × Nat} {n z : Nat} {Q : Option sm_V → sm_S → Prop} : sm_wp (d + 1) 198 164 [some (.inr (some r0)), some (.inr (some r1)), l2, some (.inl x3)] [] (Z, Rf, K, n, z) Q = (sm_rd (K r0) (wr (x3 + 1)) ∧ (K r1).1 = 10 ∧ sm_call d 83 [.inr (some r1), .inl (Z r0 ((wr (x3 + 1)).toNat))] (Z, Rf, K, n, z) (sm_cont (d + 1) 198 173 [some (.inr (some r0)), some (.inr (some r1)), l2, some (.inl x3)] [] Q)) := (w_aload_n t198_164 rfl rfl).trans ((w_aload_n t198_165 rfl rfl).trans ((w_iload_n t198_166 rfl rfl).trans ((w_iconst t198_167 rfl).trans ((w_iadd t198_168 rfl).trans ((w_iald t198_169 rfl rfl).trans (congrArg (And _) (w_callV t198_170 rfl rfl rfl rfl (Nat.le_of_ble_eq_true rfl) (Nat.le_of_ble_eq_true rfl) rfl (by decide))))))))
set_option maxRecDepth 10000 in
theorem b198_173 {d : Nat} {r0 : Nat} {l1 : Option sm_V} {r2 : Nat} {x3 : Int} {s0 : Int} {Z : Nat → Nat → Int} {Rf : Nat → Nat → Option Nat} {K : Nat → Nat × Nat} {n z : Nat} {Q : Option sm_V → sm_S → Prop} : sm_wp (d + 1) 198 173 [some (.inr (some r0)), l1, some (.inr (some r2)), some (.inl x3)] [.inl s0] (Z, Rf, K, n, z) Q = (sm_rd (K r0) (wr (x3 + 1)) ∧ (K r2).1 = 11 ∧ sm_call d 124 [.inr (some r2), .inl (Z r0 ((wr (x3 + 1)).toNat))] (Z, Rf, K, n, z) (sm_cont (d + 1) 198 182 [some (.inr (some r0)), l1, some (.inr (some r2)), some (.inl x3)] [.inl s0] Q)) := (w_aload_n t198_173 rfl rfl).trans ((w_aload_n t198_174 rfl rfl).trans ((w_iload_n t198_175 rfl rfl).trans ((w_iconst t198_176 rfl).trans ((w_iadd t198_177 rfl).trans ((w_iald t198_178 rfl rfl).trans (congrArg (And _) (w_callV t198_179 rfl rfl rfl rfl (Nat.le_of_ble_eq_true rfl) (Nat.le_of_ble_eq_true rfl) rfl (by decide))))))))
set_option maxRecDepth 10000 in
theorem b198_182 {d : Nat} {l0 : Option sm_V} {l1 : Option sm_V} {l2 : Option sm_V} {l3 : Option sm_V} {s0 : Int} {s1 : Int} {Z : Nat → Nat → Int} {Rf : Nat → Nat → Option Nat} {K : Nat → Nat × Nat} {n z : Nat} {Q : Option sm_V → sm_S → Prop} : sm_wp d 198 182 [l0, l1, l2, l3] [.inl s1, .inl s0] (Z, Rf, K, n, z) Q = (if wr s0 = wr s1 then sm_wp d 198 1149 [l0, l1, l2, l3] [] (Z, Rf, K, n, z) Q else sm_wp d 198 185 [l0, l1, l2, l3] [] (Z, Rf, K, n, z) Q) := w_iceq t198_182 rfl rfl rfl rfl
set_option maxRecDepth 10000 in
theorem b198_185 {d : Nat} {l0 : Option sm_V} {l1 : Option sm_V} {l2 : Option sm_V} {l3 : Option sm_V} {Z : Nat → Nat → Int} {Rf : Nat → Nat → Option Nat} {K : Nat → Nat × Nat} {n z : Nat} {Q : Option sm_V → sm_S → Prop} : sm_wp d 198 185 [l0, l1, l2, l3] [] (Z, Rf, K, n, z) Q = (((0 : Int) = 0 ∨ (0 : Int) = 1) ∧ Q (some (.inl 0)) (Z, Rf, K, n, z)) := (w_iconst t198_185 rfl).trans (w_zret t198_186 wl_0)
set_option maxRecDepth 10000 in
theorem b198_187 {d : Nat} {r0 : Nat} {r1 : Nat} {l2 : Option sm_V} {x3 : Int} {Z : Nat → Nat → Int} {Rf : Nat → Nat → Option Nat} {K : Nat → Nat × Nat} {n z : Nat} {Q : Option sm_V → sm_S → Prop} : sm_wp (d + 1) 198 187 [some (.inr (some r0)), some (.inr (some r1)), l2, some (.inl x3)] [] (Z, Rf, K, n, z) Q = (sm_rd (K r0) (wr (x3 + 1)) ∧ sm_rd (K r0) (wr (x3 + 2)) ∧ (K r1).1 = 10 ∧ sm_call d 84 [.inr (some r1), .inl (Z r0 ((wr (x3 + 1)).toNat)), .inl (Z r0 ((wr (x3 + 2)).toNat))] (Z, Rf, K, n, z) (sm_cont (d + 1) 198 201 [some (.inr (some r0)), some (.inr (some r1)), l2, some (.inl x3)] [] Q)) := (w_aload_n t198_187 rfl rfl).trans ((w_aload_n t198_188 rfl rfl).trans ((w_iload_n t198_189 rfl rfl).trans ((w_iconst t198_190 rfl).trans ((w_iadd t198_191 rfl).trans ((w_iald t198_192 rfl rfl).trans (congrArg (And _) ((w_aload_n t198_193 rfl rfl).trans ((w_iload_n t198_194 rfl rfl).trans ((w_iconst t198_195 rfl).trans ((w_iadd t198_196 rfl).trans ((w_iald t198_197 rfl rfl).trans (congrArg (And _) (w_callV t198_198 rfl rfl rfl rfl (Nat.le_of_ble_eq_true rfl) (Nat.le_of_ble_eq_true rfl) rfl (by decide))))))))))))))
set_option maxRecDepth 10000 in
theorem b198_201 {d : Nat} {r0 : Nat} {l1 : Option sm_V} {r2 : Nat} {x3 : Int} {s0 : Int} {Z : Nat → Nat → Int} {Rf : Nat → Nat → Option Nat} {K : Nat → Nat × Nat} {n z : Nat} {Q : Option sm_V → sm_S → Prop} : sm_wp (d + 1) 198 201 [some (.inr (some r0)), l1, some (.inr (some r2)), some (.inl x3)] [.inl s0] (Z, Rf, K, n, z) Q = (sm_rd (K r0) (wr (x3 + 1)) ∧ sm_rd (K r0) (wr (x3 + 2)) ∧ (K r2).1 = 11 ∧ sm_call d 126 [.inr (some r2), .inl (Z r0 ((wr (x3 + 1)).toNat)), .inl (Z r0 ((wr (x3 + 2)).toNat))] (Z, Rf, K, n, z) (sm_cont (d + 1) 198 215 [some (.inr (some r0)), l1, some (.inr (some r2)), some (.inl x3)] [.inl s0] Q)) := (w_aload_n t198_201 rfl rfl).trans ((w_aload_n t198_202 rfl rfl).trans ((w_iload_n t198_203 rfl rfl).trans ((w_iconst t198_204 rfl).trans ((w_iadd t198_205 rfl).trans ((w_iald t198_206 rfl rfl).trans (congrArg (And _) ((w_aload_n t198_207 rfl rfl).trans ((w_iload_n t198_208 rfl rfl).trans ((w_iconst t198_209 rfl).trans ((w_iadd t198_210 rfl).trans ((w_iald t198_211 rfl rfl).trans (congrArg (And _) (w_callV t198_212 rfl rfl rfl rfl (Nat.le_of_ble_eq_true rfl) (Nat.le_of_ble_eq_true rfl) rfl (by decide))))))))))))))
set_option maxRecDepth 10000 in
theorem b198_215 {d : Nat} {l0 : Option sm_V} {l1 : Option sm_V} {l2 : Option sm_V} {l3 : Option sm_V} {s0 : Int} {s1 : Int} {Z : Nat → Nat → Int} {Rf : Nat → Nat → Option Nat} {K : Nat → Nat × Nat} {n z : Nat} {Q : Option sm_V → sm_S → Prop} : sm_wp d 198 215 [l0, l1, l2, l3] [.inl s1, .inl s0] (Z, Rf, K, n, z) Q = (if wr s0 = wr s1 then sm_wp d 198 1149 [l0, l1, l2, l3] [] (Z, Rf, K, n, z) Q else sm_wp d 198 218 [l0, l1, l2, l3] [] (Z, Rf, K, n, z) Q) := w_iceq t198_215 rfl rfl rfl rfl
set_option maxRecDepth 10000 in
theorem b198_218 {d : Nat} {l0 : Option sm_V} {l1 : Option sm_V} {l2 : Option sm_V} {l3 : Option sm_V} {Z : Nat → Nat → Int} {Rf : Nat → Nat → Option Nat} {K : Nat → Nat × Nat} {n z : Nat} {Q : Option sm_V → sm_S → Prop} : sm_wp d 198 218 [l0, l1, l2, l3] [] (Z, Rf, K, n, z) Q = (((0 : Int) = 0 ∨ (0 : Int) = 1) ∧ Q (some (.inl 0)) (Z, Rf, K, n, z)) := (w_iconst t198_218 rfl).trans (w_zret t198_219 wl_0)
set_option maxRecDepth 10000 in
theorem b198_220 {d : Nat} {r0 : Nat} {r1 : Nat} {l2 : Option sm_V} {x3 : Int} {Z : Nat → Nat → Int} {Rf : Nat → Nat → Option Nat} {K : Nat → Nat × Nat} {n z : Nat} {Q : Option sm_V → sm_S → Prop} : sm_wp (d + 1) 198 220 [some (.inr (some r0)), some (.inr (some r1)), l2, some (.inl x3)] [] (Z, Rf, K, n, z) Q = (sm_rd (K r0) (wr (x3 + 1)) ∧ sm_rd (K r0) (wr (x3 + 2)) ∧ sm_rd (K r0) (wr (x3 + 3)) ∧ (K r1).1 = 10 ∧ sm_call d 85 [.inr (some r1), .inl (Z r0 ((wr (x3 + 1)).toNat)), .inl (Z r0 ((wr (x3 + 2)).toNat)), .inl (Z r0 ((wr (x3 + 3)).toNat))] (Z, Rf, K, n, z) (sm_cont (d + 1) 198 239 [some (.inr (some r0)), some (.inr (some r1)), l2, some (.inl x3)] [] Q)) := (w_aload_n t198_220 rfl rfl).trans ((w_aload_n t198_221 rfl rfl).trans ((w_iload_n t198_222 rfl rfl).trans ((w_iconst t198_223 rfl).trans ((w_iadd t198_224 rfl).trans ((w_iald t198_225 rfl rfl).trans (congrArg (And _) ((w_aload_n t198_226 rfl rfl).trans ((w_iload_n t198_227 rfl rfl).trans ((w_iconst t198_228 rfl).trans ((w_iadd t198_229 rfl).trans ((w_iald t198_230 rfl rfl).trans (congrArg (And _) ((w_aload_n t198_231 rfl rfl).trans ((w_iload_n t198_232 rfl rfl).trans ((w_iconst t198_233 rfl).trans ((w_iadd t198_234 rfl).trans ((w_iald t198_235 rfl rfl).trans (congrArg (And _) (w_callV t198_236 rfl rfl rfl rfl (Nat.le_of_ble_eq_true rfl) (Nat.le_of_ble_eq_true rfl) rfl (by decide))))))))))))))))))))
set_option maxRecDepth 10000 in
theorem b198_239 {d : Nat} {r0 : Nat} {l1 : Option sm_V} {r2 : Nat} {x3 : Int} {s0 : Int} {Z : Nat → Nat → Int} {Rf : Nat → Nat → Option Nat} {K : Nat → Nat × Nat} {n z : Nat} {Q : Option sm_V → sm_S → Prop} : sm_wp (d + 1) 198 239 [some (.inr (some r0)), l1, some (.inr (some r2)), some (.inl x3)] [.inl s0] (Z, Rf, K, n, z) Q = (sm_rd (K r0) (wr (x3 + 1)) ∧ sm_rd (K r0) (wr (x3 + 2)) ∧ sm_rd (K r0) (wr (x3 + 3)) ∧ (K r2).1 = 11 ∧ sm_call d 127 [.inr (some r2), .inl (Z r0 ((wr (x3 + 1)).toNat)), .inl (Z r0 ((wr (x3 + 2)).toNat)), .inl (Z r0 ((wr (x3 + 3)).toNat))] (Z, Rf, K, n, z) (sm_cont (d + 1) 198 258 [some (.inr (some r0)), l1, some (.inr (some r2)), some (.inl x3)] [.inl s0] Q)) := (w_aload_n t198_239 rfl rfl).trans ((w_aload_n t198_240 rfl rfl).trans ((w_iload_n t198_241 rfl rfl).trans ((w_iconst t198_242 rfl).trans ((w_iadd t198_243 rfl).trans ((w_iald t198_244 rfl rfl).trans (congrArg (And _) ((w_aload_n t198_245 rfl rfl).trans ((w_iload_n t198_246 rfl rfl).trans ((w_iconst t198_247 rfl).trans ((w_iadd t198_248 rfl).trans ((w_iald t198_249 rfl rfl).trans (congrArg (And _) ((w_aload_n t198_250 rfl rfl).trans ((w_iload_n t198_251 rfl rfl).trans ((w_iconst t198_252 rfl).trans ((w_iadd t198_253 rfl).trans ((w_iald t198_254 rfl rfl).trans (congrArg (And _) (w_callV t198_255 rfl rfl rfl rfl (Nat.le_of_ble_eq_true rfl) (Nat.le_of_ble_eq_true rfl) rfl (by decide))))))))))))))))))))
set_option maxRecDepth 10000 in
theorem b198_258 {d : Nat} {l0 : Option sm_V} {l1 : Option sm_V} {l2 : Option sm_V} {l3 : Option sm_V} {s0 : Int} {s1 : Int} {Z : Nat → Nat → Int} {Rf : Nat → Nat → Option Nat} {K : Nat → Nat × Nat} {n z : Nat} {Q : Option sm_V → sm_S → Prop} : sm_wp d 198 258 [l0, l1, l2, l3] [.inl s1, .inl s0] (Z, Rf, K, n, z) Q = (if wr s0 = wr s1 then sm_wp d 198 1149 [l0, l1, l2, l3] [] (Z, Rf, K, n, z) Q else sm_wp d 198 261 [l0, l1, l2, l3] [] (Z, Rf, K, n, z) Q) := w_iceq t198_258 rfl rfl rfl rfl
set_option maxRecDepth 10000 in
theorem b198_261 {d : Nat} {l0 : Option sm_V} {l1 : Option sm_V} {l2 : Option sm_V} {l3 : Option sm_V} {Z : Nat → Nat → Int} {Rf : Nat → Nat → Option Nat} {K : Nat → Nat × Nat} {n z : Nat} {Q : Option sm_V → sm_S → Prop} : sm_wp d 198 261 [l0, l1, l2, l3] [] (Z, Rf, K, n, z) Q = (((0 : Int) = 0 ∨ (0 : Int) = 1) ∧ Q (some (.inl 0)) (Z, Rf, K, n, z)) := (w_iconst t198_261 rfl).trans (w_zret t198_262 wl_0)
set_option maxRecDepth 10000 in
theorem b198_263 {d : Nat} {r0 : Nat} {r1 : Nat} {l2 : Option sm_V} {x3 : Int} {Z : Nat → Nat → Int} {Rf : Nat → Nat → Option Nat} {K : Nat → Nat × Nat} {n z : Nat} {Q : Option sm_V → sm_S → Prop} : sm_wp (d + 1) 198 263 [some (.inr (some r0)), some (.inr (some r1)), l2, some (.inl x3)] [] (Z, Rf, K, n, z) Q = (sm_rd (K r0) (wr (x3 + 1)) ∧ (K r1).1 = 10 ∧ sm_call d 86 [.inr (some r1), .inl (Z r0 ((wr (x3 + 1)).toNat))] (Z, Rf, K, n, z) (sm_cont (d + 1) 198 272 [some (.inr (some r0)), some (.inr (some r1)), l2, some (.inl x3)] [] Q)) := (w_aload_n t198_263 rfl rfl).trans ((w_aload_n t198_264 rfl rfl).trans ((w_iload_n t198_265 rfl rfl).trans ((w_iconst t198_266 rfl).trans ((w_iadd t198_267 rfl).trans ((w_iald t198_268 rfl rfl).trans (congrArg (And _) (w_callV t198_269 rfl rfl rfl rfl (Nat.le_of_ble_eq_true rfl) (Nat.le_of_ble_eq_true rfl) rfl (by decide))))))))
set_option maxRecDepth 10000 in
theorem b198_272 {d : Nat} {r0 : Nat} {l1 : Option sm_V} {r2 : Nat} {x3 : Int} {s0 : Int} {Z : Nat → Nat → Int} {Rf : Nat → Nat → Option Nat} {K : Nat → Nat × Nat} {n z : Nat} {Q : Option sm_V → sm_S → Prop} : sm_wp (d + 1) 198 272 [some (.inr (some r0)), l1, some (.inr (some r2)), some (.inl x3)] [.inl s0] (Z, Rf, K, n, z) Q = (sm_rd (K r0) (wr (x3 + 1)) ∧ (K r2).1 = 11 ∧ sm_call d 129 [.inr (some r2), .inl (Z r0 ((wr (x3 + 1)).toNat))] (Z, Rf, K, n, z) (sm_cont (d + 1) 198 281 [some (.inr (some r0)), l1, some (.inr (some r2)), some (.inl x3)] [.inl s0] Q)) := (w_aload_n t198_272 rfl rfl).trans ((w_aload_n t198_273 rfl rfl).trans ((w_iload_n t198_274 rfl rfl).trans ((w_iconst t198_275 rfl).trans ((w_iadd t198_276 rfl).trans ((w_iald t198_277 rfl rfl).trans (congrArg (And _) (w_callV t198_278 rfl rfl rfl rfl (Nat.le_of_ble_eq_true rfl) (Nat.le_of_ble_eq_true rfl) rfl (by decide))))))))
set_option maxRecDepth 10000 in
theorem b198_281 {d : Nat} {l0 : Option sm_V} {l1 : Option sm_V} {l2 : Option sm_V} {l3 : Option sm_V} {s0 : Int} {s1 : Int} {Z : Nat → Nat → Int} {Rf : Nat → Nat → Option Nat} {K : Nat → Nat × Nat} {n z : Nat} {Q : Option sm_V → sm_S → Prop} : sm_wp d 198 281 [l0, l1, l2, l3] [.inl s1, .inl s0] (Z, Rf, K, n, z) Q = (if wr s0 = wr s1 then sm_wp d 198 1149 [l0, l1, l2, l3] [] (Z, Rf, K, n, z) Q else sm_wp d 198 284 [l0, l1, l2, l3] [] (Z, Rf, K, n, z) Q) := w_iceq t198_281 rfl rfl rfl rfl
set_option maxRecDepth 10000 in
theorem b198_284 {d : Nat} {l0 : Option sm_V} {l1 : Option sm_V} {l2 : Option sm_V} {l3 : Option sm_V} {Z : Nat → Nat → Int} {Rf : Nat → Nat → Option Nat} {K : Nat → Nat × Nat} {n z : Nat} {Q : Option sm_V → sm_S → Prop} : sm_wp d 198 284 [l0, l1, l2, l3] [] (Z, Rf, K, n, z) Q = (((0 : Int) = 0 ∨ (0 : Int) = 1) ∧ Q (some (.inl 0)) (Z, Rf, K, n, z)) := (w_iconst t198_284 rfl).trans (w_zret t198_285 wl_0)
set_option maxRecDepth 10000 in
theorem b198_286 {d : Nat} {r0 : Nat} {r1 : Nat} {l2 : Option sm_V} {x3 : Int} {Z : Nat → Nat → Int} {Rf : Nat → Nat → Option Nat} {K : Nat → Nat × Nat} {n z : Nat} {Q : Option sm_V → sm_S → Prop} : sm_wp (d + 1) 198 286 [some (.inr (some r0)), some (.inr (some r1)), l2, some (.inl x3)] [] (Z, Rf, K, n, z) Q = (sm_rd (K r0) (wr (x3 + 1)) ∧ (K r1).1 = 10 ∧ sm_call d 87 [.inr (some r1), .inl (Z r0 ((wr (x3 + 1)).toNat))] (Z, Rf, K, n, z) (sm_cont (d + 1) 198 295 [some (.inr (some r0)), some (.inr (some r1)), l2, some (.inl x3)] [] Q)) := (w_aload_n t198_286 rfl rfl).trans ((w_aload_n t198_287 rfl rfl).trans ((w_iload_n t198_288 rfl rfl).trans ((w_iconst t198_289 rfl).trans ((w_iadd t198_290 rfl).trans ((w_iald t198_291 rfl rfl).trans (congrArg (And _) (w_callV t198_292 rfl rfl rfl rfl (Nat.le_of_ble_eq_true rfl) (Nat.le_of_ble_eq_true rfl) rfl (by decide))))))))
set_option maxRecDepth 10000 in
theorem b198_295 {d : Nat} {r0 : Nat} {l1 : Option sm_V} {r2 : Nat} {x3 : Int} {s0 : Int} {Z : Nat → Nat → Int} {Rf : Nat → Nat → Option Nat} {K : Nat → Nat × Nat} {n z : Nat} {Q : Option sm_V → sm_S → Prop} : sm_wp (d + 1) 198 295 [some (.inr (some r0)), l1, some (.inr (some r2)), some (.inl x3)] [.inl s0] (Z, Rf, K, n, z) Q = (sm_rd (K r0) (wr (x3 + 1)) ∧ (K r2).1 = 11 ∧ sm_call d 130 [.inr (some r2), .inl (Z r0 ((wr (x3 + 1)).toNat))] (Z, Rf, K, n, z) (sm_cont (d + 1) 198 304 [some (.inr (some r0)), l1, some (.inr (some r2)), some (.inl x3)] [.inl s0] Q)) := (w_aload_n t198_295 rfl rfl).trans ((w_aload_n t198_296 rfl rfl).trans ((w_iload_n t198_297 rfl rfl).trans ((w_iconst t198_298 rfl).trans ((w_iadd t198_299 rfl).trans ((w_iald t198_300 rfl rfl).trans (congrArg (And _) (w_callV t198_301 rfl rfl rfl rfl (Nat.le_of_ble_eq_true rfl) (Nat.le_of_ble_eq_true rfl) rfl (by decide))))))))
set_option maxRecDepth 10000 in
theorem b198_304 {d : Nat} {l0 : Option sm_V} {l1 : Option sm_V} {l2 : Option sm_V} {l3 : Option sm_V} {s0 : Int} {s1 : Int} {Z : Nat → Nat → Int} {Rf : Nat → Nat → Option Nat} {K : Nat → Nat × Nat} {n z : Nat} {Q : Option sm_V → sm_S → Prop} : sm_wp d 198 304 [l0, l1, l2, l3] [.inl s1, .inl s0] (Z, Rf, K, n, z) Q = (if wr s0 = wr s1 then sm_wp d 198 1149 [l0, l1, l2, l3] [] (Z, Rf, K, n, z) Q else sm_wp d 198 307 [l0, l1, l2, l3] [] (Z, Rf, K, n, z) Q) := w_iceq t198_304 rfl rfl rfl rfl
set_option maxRecDepth 10000 in
theorem b198_307 {d : Nat} {l0 : Option sm_V} {l1 : Option sm_V} {l2 : Option sm_V} {l3 : Option sm_V} {Z : Nat → Nat → Int} {Rf : Nat → Nat → Option Nat} {K : Nat → Nat × Nat} {n z : Nat} {Q : Option sm_V → sm_S → Prop} : sm_wp d 198 307 [l0, l1, l2, l3] [] (Z, Rf, K, n, z) Q = (((0 : Int) = 0 ∨ (0 : Int) = 1) ∧ Q (some (.inl 0)) (Z, Rf, K, n, z)) := (w_iconst t198_307 rfl).trans (w_zret t198_308 wl_0)
set_option maxRecDepth 10000 in
theorem b198_309 {d : Nat} {l0 : Option sm_V} {r1 : Nat} {l2 : Option sm_V} {l3 : Option sm_V} {Z : Nat → Nat → Int} {Rf : Nat → Nat → Option Nat} {K : Nat → Nat × Nat} {n z : Nat} {Q : Option sm_V → sm_S → Prop} : sm_wp (d + 1) 198 309 [l0, some (.inr (some r1)), l2, l3] [] (Z, Rf, K, n, z) Q = ((K r1).1 = 10 ∧ sm_call d 88 [.inr (some r1)] (Z, Rf, K, n, z) (sm_cont (d + 1) 198 313 [l0, some (.inr (some r1)), l2, l3] [] Q)) := (w_aload_n t198_309 rfl rfl).trans (w_callV t198_310 rfl rfl rfl rfl (Nat.le_of_ble_eq_true rfl) (Nat.le_of_ble_eq_true rfl) rfl (by decide))
set_option maxRecDepth 10000 in
theorem b198_313 {d : Nat} {l0 : Option sm_V} {l1 : Option sm_V} {r2 : Nat} {l3 : Option sm_V} {s0 : Int} {Z : Nat → Nat → Int} {Rf : Nat → Nat → Option Nat} {K : Nat → Nat × Nat} {n z : Nat} {Q : Option sm_V → sm_S → Prop} : sm_wp (d + 1) 198 313 [l0, l1, some (.inr (some r2)), l3] [.inl s0] (Z, Rf, K, n, z) Q = ((K r2).1 = 11 ∧ sm_call d 131 [.inr (some r2)] (Z, Rf, K, n, z) (sm_cont (d + 1) 198 317 [l0, l1, some (.inr (some r2)), l3] [.inl s0] Q)) := (w_aload_n t198_313 rfl rfl).trans (w_callV t198_314 rfl rfl rfl rfl (Nat.le_of_ble_eq_true rfl) (Nat.le_of_ble_eq_true rfl) rfl (by decide))
set_option maxRecDepth 10000 in
theorem b198_317 {d : Nat} {l0 : Option sm_V} {l1 : Option sm_V} {l2 : Option sm_V} {l3 : Option sm_V} {s0 : Int} {s1 : Int} {Z : Nat → Nat → Int} {Rf : Nat → Nat → Option Nat} {K : Nat → Nat × Nat} {n z : Nat} {Q : Option sm_V → sm_S → Prop} : sm_wp d 198 317 [l0, l1, l2, l3] [.inl s1, .inl s0] (Z, Rf, K, n, z) Q = (if wr s0 = wr s1 then sm_wp d 198 1149 [l0, l1, l2, l3] [] (Z, Rf, K, n, z) Q else sm_wp d 198 320 [l0, l1, l2, l3] [] (Z, Rf, K, n, z) Q) := w_iceq t198_317 rfl rfl rfl rfl
set_option maxRecDepth 10000 in
theorem b198_320 {d : Nat} {l0 : Option sm_V} {l1 : Option sm_V} {l2 : Option sm_V} {l3 : Option sm_V} {Z : Nat → Nat → Int} {Rf : Nat → Nat → Option Nat} {K : Nat → Nat × Nat} {n z : Nat} {Q : Option sm_V → sm_S → Prop} : sm_wp d 198 320 [l0, l1, l2, l3] [] (Z, Rf, K, n, z) Q = (((0 : Int) = 0 ∨ (0 : Int) = 1) ∧ Q (some (.inl 0)) (Z, Rf, K, n, z)) := (w_iconst t198_320 rfl).trans (w_zret t198_321 wl_0)
set_option maxRecDepth 10000 in
theorem b198_322 {d : Nat} {r0 : Nat} {r1 : Nat} {l2 : Option sm_V} {x3 : Int} {Z : Nat → Nat → Int} {Rf : Nat → Nat → Option Nat} {K : Nat → Nat × Nat} {n z : Nat} {Q : Option sm_V → sm_S → Prop} : sm_wp (d + 1) 198 322 [some (.inr (some r0)), some (.inr (some r1)), l2, some (.inl x3)] [] (Z, Rf, K, n, z) Q = (sm_rd (K r0) (wr (x3 + 1)) ∧ (K r1).1 = 10 ∧ sm_call d 89 [.inr (some r1), .inl (Z r0 ((wr (x3 + 1)).toNat))] (Z, Rf, K, n, z) (sm_cont (d + 1) 198 331 [some (.inr (some r0)), some (.inr (some r1)), l2, some (.inl x3)] [] Q)) := (w_aload_n t198_322 rfl rfl).trans ((w_aload_n t198_323 rfl rfl).trans ((w_iload_n t198_324 rfl rfl).trans ((w_iconst t198_325 rfl).trans ((w_iadd t198_326 rfl).trans ((w_iald t198_327 rfl rfl).trans (congrArg (And _) (w_callV t198_328 rfl rfl rfl rfl (Nat.le_of_ble_eq_true rfl) (Nat.le_of_ble_eq_true rfl) rfl (by decide))))))))
set_option maxRecDepth 10000 in
theorem b198_331 {d : Nat} {r0 : Nat} {l1 : Option sm_V} {r2 : Nat} {x3 : Int} {s0 : Int} {Z : Nat → Nat → Int} {Rf : Nat → Nat → Option Nat} {K : Nat → Nat × Nat} {n z : Nat} {Q : Option sm_V → sm_S → Prop} : sm_wp (d + 1) 198 331 [some (.inr (some r0)), l1, some (.inr (some r2)), some (.inl x3)] [.inl s0] (Z, Rf, K, n, z) Q = (sm_rd (K r0) (wr (x3 + 1)) ∧ (K r2).1 = 11 ∧ sm_call d 132 [.inr (some r2), .inl (Z r0 ((wr (x3 + 1)).toNat))] (Z, Rf, K, n, z) (sm_cont (d + 1) 198 340 [some (.inr (some r0)), l1, some (.inr (some r2)), some (.inl x3)] [.inl s0] Q)) := (w_aload_n t198_331 rfl rfl).trans ((w_aload_n t198_332 rfl rfl).trans ((w_iload_n t198_333 rfl rfl).trans ((w_iconst t198_334 rfl).trans ((w_iadd t198_335 rfl).trans ((w_iald t198_336 rfl rfl).trans (congrArg (And _) (w_callV t198_337 rfl rfl rfl rfl (Nat.le_of_ble_eq_true rfl) (Nat.le_of_ble_eq_true rfl) rfl (by decide))))))))
set_option maxRecDepth 10000 in
theorem b198_340 {d : Nat} {l0 : Option sm_V} {l1 : Option sm_V} {l2 : Option sm_V} {l3 : Option sm_V} {s0 : Int} {s1 : Int} {Z : Nat → Nat → Int} {Rf : Nat → Nat → Option Nat} {K : Nat → Nat × Nat} {n z : Nat} {Q : Option sm_V → sm_S → Prop} : sm_wp d 198 340 [l0, l1, l2, l3] [.inl s1, .inl s0] (Z, Rf, K, n, z) Q = (if wr s0 = wr s1 then sm_wp d 198 1149 [l0, l1, l2, l3] [] (Z, Rf, K, n, z) Q else sm_wp d 198 343 [l0, l1, l2, l3] [] (Z, Rf, K, n, z) Q) := w_iceq t198_340 rfl rfl rfl rfl
set_option maxRecDepth 10000 in
theorem b198_343 {d : Nat} {l0 : Option sm_V} {l1 : Option sm_V} {l2 : Option sm_V} {l3 : Option sm_V} {Z : Nat → Nat → Int} {Rf : Nat → Nat → Option Nat} {K : Nat → Nat × Nat} {n z : Nat} {Q : Option sm_V → sm_S → Prop} : sm_wp d 198 343 [l0, l1, l2, l3] [] (Z, Rf, K, n, z) Q = (((0 : Int) = 0 ∨ (0 : Int) = 1) ∧ Q (some (.inl 0)) (Z, Rf, K, n, z)) := (w_iconst t198_343 rfl).trans (w_zret t198_344 wl_0)
set_option maxRecDepth 10000 in
theorem b198_345 {d : Nat} {r0 : Nat} {q1 : Option Nat} {l2 : Option sm_V} {x3 : Int} {Z : Nat → Nat → Int} {Rf : Nat → Nat → Option Nat} {K : Nat → Nat × Nat} {n z : Nat} {Q : Option sm_V → sm_S → Prop} : sm_wp d 198 345 [some (.inr (some r0)), some (.inr q1), l2, some (.inl x3)] [] (Z, Rf, K, n, z) Q = (sm_rd (K r0) (wr (x3 + 1)) ∧ sm_rd (K r0) (wr (x3 + 2)) ∧ sm_rd (K r0) (wr (x3 + 3)) ∧ (if wr (Z r0 ((wr (x3 + 3)).toNat)) = 0 then sm_wp d 198 368 [some (.inr (some r0)), some (.inr q1), l2, some (.inl x3)] [.inl (Z r0 ((wr (x3 + 2)).toNat)), .inl (Z r0 ((wr (x3 + 1)).toNat)), .inr q1] (Z, Rf, K, n, z) Q else sm_wp d 198 364 [some (.inr (some r0)), some (.inr q1), l2, some (.inl x3)] [.inl (Z r0 ((wr (x3 + 2)).toNat)), .inl (Z r0 ((wr (x3 + 1)).toNat)), .inr q1] (Z, Rf, K, n, z) Q)) := (w_aload_n t198_345 rfl rfl).trans ((w_aload_n t198_346 rfl rfl).trans ((w_iload_n t198_347 rfl rfl).trans ((w_iconst t198_348 rfl).trans ((w_iadd t198_349 rfl).trans ((w_iald t198_350 rfl rfl).trans (congrArg (And _) ((w_aload_n t198_351 rfl rfl).trans ((w_iload_n t198_352 rfl rfl).trans ((w_iconst t198_353 rfl).trans ((w_iadd t198_354 rfl).trans ((w_iald t198_355 rfl rfl).trans (congrArg (And _) ((w_aload_n t198_356 rfl rfl).trans ((w_iload_n t198_357 rfl rfl).trans ((w_iconst t198_358 rfl).trans ((w_iadd t198_359 rfl).trans ((w_iald t198_360 rfl rfl).trans (congrArg (And _) (w_ifeq t198_361 rfl rfl rfl)))))))))))))))))))
set_option maxRecDepth 10000 in
theorem b198_364 {d : Nat} {l0 : Option sm_V} {l1 : Option sm_V} {l2 : Option sm_V} {l3 : Option sm_V} {qs0 : Option Nat} {s1 : Int} {s2 : Int} {Z : Nat → Nat → Int} {Rf : Nat → Nat → Option Nat} {K : Nat → Nat × Nat} {n z : Nat} {Q : Option sm_V → sm_S → Prop} : sm_wp d 198 364 [l0, l1, l2, l3] [.inl s2, .inl s1, .inr qs0] (Z, Rf, K, n, z) Q = (sm_wp d 198 369 [l0, l1, l2, l3] [.inl 1, .inl s2, .inl s1, .inr qs0] (Z, Rf, K, n, z) Q) := (w_iconst t198_364 rfl).trans (w_goto t198_365 rfl)
set_option maxRecDepth 10000 in
theorem b198_368 {d : Nat} {l0 : Option sm_V} {l1 : Option sm_V} {l2 : Option sm_V} {l3 : Option sm_V} {qs0 : Option Nat} {s1 : Int} {s2 : Int} {Z : Nat → Nat → Int} {Rf : Nat → Nat → Option Nat} {K : Nat → Nat × Nat} {n z : Nat} {Q : Option sm_V → sm_S → Prop} : sm_wp d 198 368 [l0, l1, l2, l3] [.inl s2, .inl s1, .inr qs0] (Z, Rf, K, n, z) Q = (sm_wp d 198 369 [l0, l1, l2, l3] [.inl 0, .inl s2, .inl s1, .inr qs0] (Z, Rf, K, n, z) Q) := w_iconst t198_368 rfl
set_option maxRecDepth 10000 in
theorem b198_369 {d : Nat} {l0 : Option sm_V} {l1 : Option sm_V} {l2 : Option sm_V} {l3 : Option sm_V} {rs0 : Nat} {s1 : Int} {s2 : Int} {s3 : Int} {Z : Nat → Nat → Int} {Rf : Nat → Nat → Option Nat} {K : Nat → Nat × Nat} {n z : Nat} {Q : Option sm_V → sm_S → Prop} : sm_wp (d + 1) 198 369 [l0, l1, l2, l3] [.inl s3, .inl s2, .inl s1, .inr (some rs0)] (Z, Rf, K, n, z) Q = ((K rs0).1 = 10 ∧ sm_call d 90 [.inr (some rs0), .inl s1, .inl s2, .inl s3] (Z, Rf, K, n, z) (sm_cont (d + 1) 198 372 [l0, l1, l2, l3] [] Q)) := w_callV t198_369 rfl rfl rfl rfl (Nat.le_of_ble_eq_true rfl) (Nat.le_of_ble_eq_true rfl) rfl (by decide)
set_option maxRecDepth 10000 in
theorem b198_372 {d : Nat} {r0 : Nat} {l1 : Option sm_V} {q2 : Option Nat} {x3 : Int} {s0 : Int} {Z : Nat → Nat → Int} {Rf : Nat → Nat → Option Nat} {K : Nat → Nat × Nat} {n z : Nat} {Q : Option sm_V → sm_S → Prop} : sm_wp d 198 372 [some (.inr (some r0)), l1, some (.inr q2), some (.inl x3)] [.inl s0] (Z, Rf, K, n, z) Q = (sm_rd (K r0) (wr (x3 + 1)) ∧ sm_rd (K r0) (wr (x3 + 2)) ∧ sm_rd (K r0) (wr (x3 + 3)) ∧ (if wr (Z r0 ((wr (x3 + 3)).toNat)) = 0 then sm_wp d 198 395 [some (.inr (some r0)), l1, some (.inr q2), some (.inl x3)] [.inl (Z r0 ((wr (x3 + 2)).toNat)), .inl (Z r0 ((wr (x3 + 1)).toNat)), .inr q2, .inl s0] (Z, Rf, K, n, z) Q else sm_wp d 198 391 [some (.inr (some r0)), l1, some (.inr q2), some (.inl x3)] [.inl (Z r0 ((wr (x3 + 2)).toNat)), .inl (Z r0 ((wr (x3 + 1)).toNat)), .inr q2, .inl s0] (Z, Rf, K, n, z) Q)) := (w_aload_n t198_372 rfl rfl).trans ((w_aload_n t198_373 rfl rfl).trans ((w_iload_n t198_374 rfl rfl).trans ((w_iconst t198_375 rfl).trans ((w_iadd t198_376 rfl).trans ((w_iald t198_377 rfl rfl).trans (congrArg (And _) ((w_aload_n t198_378 rfl rfl).trans ((w_iload_n t198_379 rfl rfl).trans ((w_iconst t198_380 rfl).trans ((w_iadd t198_381 rfl).trans ((w_iald t198_382 rfl rfl).trans (congrArg (And _) ((w_aload_n t198_383 rfl rfl).trans ((w_iload_n t198_384 rfl rfl).trans ((w_iconst t198_385 rfl).trans ((w_iadd t198_386 rfl).trans ((w_iald t198_387 rfl rfl).trans (congrArg (And _) (w_ifeq t198_388 rfl rfl rfl)))))))))))))))))))
set_option maxRecDepth 10000 in
theorem b198_391 {d : Nat} {l0 : Option sm_V} {l1 : Option sm_V} {l2 : Option sm_V} {l3 : Option sm_V} {s0 : Int} {qs1 : Option Nat} {s2 : Int} {s3 : Int} {Z : Nat → Nat → Int} {Rf : Nat → Nat → Option Nat} {K : Nat → Nat × Nat} {n z : Nat} {Q : Option sm_V → sm_S → Prop} : sm_wp d 198 391 [l0, l1, l2, l3] [.inl s3, .inl s2, .inr qs1, .inl s0] (Z, Rf, K, n, z) Q = (sm_wp d 198 396 [l0, l1, l2, l3] [.inl 1, .inl s3, .inl s2, .inr qs1, .inl s0] (Z, Rf, K, n, z) Q) := (w_iconst t198_391 rfl).trans (w_goto t198_392 rfl)
set_option maxRecDepth 10000 in
theorem b198_395 {d : Nat} {l0 : Option sm_V} {l1 : Option sm_V} {l2 : Option sm_V} {l3 : Option sm_V} {s0 : Int} {qs1 : Option Nat} {s2 : Int} {s3 : Int} {Z : Nat → Nat → Int} {Rf : Nat → Nat → Option Nat} {K : Nat → Nat × Nat} {n z : Nat} {Q : Option sm_V → sm_S → Prop} : sm_wp d 198 395 [l0, l1, l2, l3] [.inl s3, .inl s2, .inr qs1, .inl s0] (Z, Rf, K, n, z) Q = (sm_wp d 198 396 [l0, l1, l2, l3] [.inl 0, .inl s3, .inl s2, .inr qs1, .inl s0] (Z, Rf, K, n, z) Q) := w_iconst t198_395 rfl
set_option maxRecDepth 10000 in
theorem b198_396 {d : Nat} {l0 : Option sm_V} {l1 : Option sm_V} {l2 : Option sm_V} {l3 : Option sm_V} {s0 : Int} {rs1 : Nat} {s2 : Int} {s3 : Int} {s4 : Int} {Z : Nat → Nat → Int} {Rf : Nat → Nat → Option Nat} {K : Nat → Nat × Nat} {n z : Nat} {Q : Option sm_V → sm_S → Prop} : sm_wp (d + 1) 198 396 [l0, l1, l2, l3] [.inl s4, .inl s3, .inl s2, .inr (some rs1), .inl s0] (Z, Rf, K, n, z) Q = ((K rs1).1 = 11 ∧ sm_call d 133 [.inr (some rs1), .inl s2, .inl s3, .inl s4] (Z, Rf, K, n, z) (sm_cont (d + 1) 198 399 [l0, l1, l2, l3] [.inl s0] Q)) := w_callV t198_396 rfl rfl rfl rfl (Nat.le_of_ble_eq_true rfl) (Nat.le_of_ble_eq_true rfl) rfl (by decide)
set_option maxRecDepth 10000 in
theorem b198_399 {d : Nat} {l0 : Option sm_V} {l1 : Option sm_V} {l2 : Option sm_V} {l3 : Option sm_V} {s0 : Int} {s1 : Int} {Z : Nat → Nat → Int} {Rf : Nat → Nat → Option Nat} {K : Nat → Nat × Nat} {n z : Nat} {Q : Option sm_V → sm_S → Prop} : sm_wp d 198 399 [l0, l1, l2, l3] [.inl s1, .inl s0] (Z, Rf, K, n, z) Q = (if wr s0 = wr s1 then sm_wp d 198 1149 [l0, l1, l2, l3] [] (Z, Rf, K, n, z) Q else sm_wp d 198 402 [l0, l1, l2, l3] [] (Z, Rf, K, n, z) Q) := w_iceq t198_399 rfl rfl rfl rfl
set_option maxRecDepth 10000 in
theorem b198_402 {d : Nat} {l0 : Option sm_V} {l1 : Option sm_V} {l2 : Option sm_V} {l3 : Option sm_V} {Z : Nat → Nat → Int} {Rf : Nat → Nat → Option Nat} {K : Nat → Nat × Nat} {n z : Nat} {Q : Option sm_V → sm_S → Prop} : sm_wp d 198 402 [l0, l1, l2, l3] [] (Z, Rf, K, n, z) Q = (((0 : Int) = 0 ∨ (0 : Int) = 1) ∧ Q (some (.inl 0)) (Z, Rf, K, n, z)) := (w_iconst t198_402 rfl).trans (w_zret t198_403 wl_0)
set_option maxRecDepth 10000 in
theorem b198_404 {d : Nat} {r0 : Nat} {r1 : Nat} {l2 : Option sm_V} {x3 : Int} {Z : Nat → Nat → Int} {Rf : Nat → Nat → Option Nat} {K : Nat → Nat × Nat} {n z : Nat} {Q : Option sm_V → sm_S → Prop} : sm_wp (d + 1) 198 404 [some (.inr (some r0)), some (.inr (some r1)), l2, some (.inl x3)] [] (Z, Rf, K, n, z) Q = (sm_rd (K r0) (wr (x3 + 1)) ∧ sm_rd (K r0) (wr (x3 + 2)) ∧ (K r1).1 = 10 ∧ sm_call d 91 [.inr (some r1), .inl (Z r0 ((wr (x3 + 1)).toNat)), .inl (Z r0 ((wr (x3 + 2)).toNat))] (Z, Rf, K, n, z) (sm_cont (d + 1) 198 418 [some (.inr (some r0)), some (.inr (some r1)), l2, some (.inl x3)] [] Q)) := (w_aload_n t198_404 rfl rfl).trans ((w_aload_n t198_405 rfl rfl).trans ((w_iload_n t198_406 rfl rfl).trans ((w_iconst t198_407 rfl).trans ((w_iadd t198_408 rfl).trans ((w_iald t198_409 rfl rfl).trans (congrArg (And _) ((w_aload_n t198_410 rfl rfl).trans ((w_iload_n t198_411 rfl rfl).trans ((w_iconst t198_412 rfl).trans ((w_iadd t198_413 rfl).trans ((w_iald t198_414 rfl rfl).trans (congrArg (And _) (w_callV t198_415 rfl rfl rfl rfl (Nat.le_of_ble_eq_true rfl) (Nat.le_of_ble_eq_true rfl) rfl (by decide))))))))))))))
set_option maxRecDepth 10000 in
theorem b198_418 {d : Nat} {r0 : Nat} {l1 : Option sm_V} {r2 : Nat} {x3 : Int} {s0 : Int} {Z : Nat → Nat → Int} {Rf : Nat → Nat → Option Nat} {K : Nat → Nat × Nat} {n z : Nat} {Q : Option sm_V → sm_S → Prop} : sm_wp (d + 1) 198 418 [some (.inr (some r0)), l1, some (.inr (some r2)), some (.inl x3)] [.inl s0] (Z, Rf, K, n, z) Q = (sm_rd (K r0) (wr (x3 + 1)) ∧ sm_rd (K r0) (wr (x3 + 2)) ∧ (K r2).1 = 11 ∧ sm_call d 134 [.inr (some r2), .inl (Z r0 ((wr (x3 + 1)).toNat)), .inl (Z r0 ((wr (x3 + 2)).toNat))] (Z, Rf, K, n, z) (sm_cont (d + 1) 198 432 [some (.inr (some r0)), l1, some (.inr (some r2)), some (.inl x3)] [.inl s0] Q)) := (w_aload_n t198_418 rfl rfl).trans ((w_aload_n t198_419 rfl rfl).trans ((w_iload_n t198_420 rfl rfl).trans ((w_iconst t198_421 rfl).trans ((w_iadd t198_422 rfl).trans ((w_iald t198_423 rfl rfl).trans (congrArg (And _) ((w_aload_n t198_424 rfl rfl).trans ((w_iload_n t198_425 rfl rfl).trans ((w_iconst t198_426 rfl).trans ((w_iadd t198_427 rfl).trans ((w_iald t198_428 rfl rfl).trans (congrArg (And _) (w_callV t198_429 rfl rfl rfl rfl (Nat.le_of_ble_eq_true rfl) (Nat.le_of_ble_eq_true rfl) rfl (by decide))))))))))))))
set_option maxRecDepth 10000 in
theorem b198_432 {d : Nat} {l0 : Option sm_V} {l1 : Option sm_V} {l2 : Option sm_V} {l3 : Option sm_V} {s0 : Int} {s1 : Int} {Z : Nat → Nat → Int} {Rf : Nat → Nat → Option Nat} {K : Nat → Nat × Nat} {n z : Nat} {Q : Option sm_V → sm_S → Prop} : sm_wp d 198 432 [l0, l1, l2, l3] [.inl s1, .inl s0] (Z, Rf, K, n, z) Q = (if wr s0 = wr s1 then sm_wp d 198 1149 [l0, l1, l2, l3] [] (Z, Rf, K, n, z) Q else sm_wp d 198 435 [l0, l1, l2, l3] [] (Z, Rf, K, n, z) Q) := w_iceq t198_432 rfl rfl rfl rfl
set_option maxRecDepth 10000 in
theorem b198_435 {d : Nat} {l0 : Option sm_V} {l1 : Option sm_V} {l2 : Option sm_V} {l3 : Option sm_V} {Z : Nat → Nat → Int} {Rf : Nat → Nat → Option Nat} {K : Nat → Nat × Nat} {n z : Nat} {Q : Option sm_V → sm_S → Prop} : sm_wp d 198 435 [l0, l1, l2, l3] [] (Z, Rf, K, n, z) Q = (((0 : Int) = 0 ∨ (0 : Int) = 1) ∧ Q (some (.inl 0)) (Z, Rf, K, n, z)) := (w_iconst t198_435 rfl).trans (w_zret t198_436 wl_0)
set_option maxRecDepth 10000 in
theorem b198_437 {d : Nat} {r0 : Nat} {r1 : Nat} {l2 : Option sm_V} {x3 : Int} {Z : Nat → Nat → Int} {Rf : Nat → Nat → Option Nat} {K : Nat → Nat × Nat} {n z : Nat} {Q : Option sm_V → sm_S → Prop} : sm_wp (d + 1) 198 437 [some (.inr (some r0)), some (.inr (some r1)), l2, some (.inl x3)] [] (Z, Rf, K, n, z) Q = (sm_rd (K r0) (wr (x3 + 1)) ∧ sm_rd (K r0) (wr (x3 + 2)) ∧ sm_rd (K r0) (wr (x3 + 3)) ∧ sm_rd (K r0) (wr (x3 + 4)) ∧ sm_rd (K r0) (wr (x3 + 5)) ∧ (K r1).1 = 10 ∧ sm_call d 92 [.inr (some r1), .inl (Z r0 ((wr (x3 + 1)).toNat)), .inl (Z r0 ((wr (x3 + 2)).toNat)), .inl (Z r0 ((wr (x3 + 3)).toNat)), .inl (Z r0 ((wr (x3 + 4)).toNat)), .inl (Z r0 ((wr (x3 + 5)).toNat))] (Z, Rf, K, n, z) (sm_cont (d + 1) 198 466 [some (.inr (some r0)), some (.inr (some r1)), l2, some (.inl x3)] [] Q)) := (w_aload_n t198_437 rfl rfl).trans ((w_aload_n t198_438 rfl rfl).trans ((w_iload_n t198_439 rfl rfl).trans ((w_iconst t198_440 rfl).trans ((w_iadd t198_441 rfl).trans ((w_iald t198_442 rfl rfl).trans (congrArg (And _) ((w_aload_n t198_443 rfl rfl).trans ((w_iload_n t198_444 rfl rfl).trans ((w_iconst t198_445 rfl).trans ((w_iadd t198_446 rfl).trans ((w_iald t198_447 rfl rfl).trans (congrArg (And _) ((w_aload_n t198_448 rfl rfl).trans ((w_iload_n t198_449 rfl rfl).trans ((w_iconst t198_450 rfl).trans ((w_iadd t198_451 rfl).trans ((w_iald t198_452 rfl rfl).trans (congrArg (And _) ((w_aload_n t198_453 rfl rfl).trans ((w_iload_n t198_454 rfl rfl).trans ((w_iconst t198_455 rfl).trans ((w_iadd t198_456 rfl).trans ((w_iald t198_457 rfl rfl).trans (congrArg (And _) ((w_aload_n t198_458 rfl rfl).trans ((w_iload_n t198_459 rfl rfl).trans ((w_iconst t198_460 rfl).trans ((w_iadd t198_461 rfl).trans ((w_iald t198_462 rfl rfl).trans (congrArg (And _) (w_callV t198_463 rfl rfl rfl rfl (Nat.le_of_ble_eq_true rfl) (Nat.le_of_ble_eq_true rfl) rfl (by decide))))))))))))))))))))))))))))))))
set_option maxRecDepth 10000 in
theorem b198_466 {d : Nat} {r0 : Nat} {l1 : Option sm_V} {r2 : Nat} {x3 : Int} {s0 : Int} {Z : Nat → Nat → Int} {Rf : Nat → Nat → Option Nat} {K : Nat → Nat × Nat} {n z : Nat} {Q : Option sm_V → sm_S → Prop} : sm_wp (d + 1) 198 466 [some (.inr (some r0)), l1, some (.inr (some r2)), some (.inl x3)] [.inl s0] (Z, Rf, K, n, z) Q = (sm_rd (K r0) (wr (x3 + 1)) ∧ sm_rd (K r0) (wr (x3 + 2)) ∧ sm_rd (K r0) (wr (x3 + 3)) ∧ sm_rd (K r0) (wr (x3 + 4)) ∧ sm_rd (K r0) (wr (x3 + 5)) ∧ (K r2).1 = 11 ∧ sm_call d 135 [.inr (some r2), .inl (Z r0 ((wr (x3 + 1)).toNat)), .inl (Z r0 ((wr (x3 + 2)).toNat)), .inl (Z r0 ((wr (x3 + 3)).toNat)), .inl (Z r0 ((wr (x3 + 4)).toNat)), .inl (Z r0 ((wr (x3 + 5)).toNat))] (Z, Rf, K, n, z) (sm_cont (d + 1) 198 495 [some (.inr (some r0)), l1, some (.inr (some r2)), some (.inl x3)] [.inl s0] Q)) := (w_aload_n t198_466 rfl rfl).trans ((w_aload_n t198_467 rfl rfl).trans ((w_iload_n t198_468 rfl rfl).trans ((w_iconst t198_469 rfl).trans ((w_iadd t198_470 rfl).trans ((w_iald t198_471 rfl rfl).trans (congrArg (And _) ((w_aload_n t198_472 rfl rfl).trans ((w_iload_n t198_473 rfl rfl).trans ((w_iconst t198_474 rfl).trans ((w_iadd t198_475 rfl).trans ((w_iald t198_476 rfl rfl).trans (congrArg (And _) ((w_aload_n t198_477 rfl rfl).trans ((w_iload_n t198_478 rfl rfl).trans ((w_iconst t198_479 rfl).trans ((w_iadd t198_480 rfl).trans ((w_iald t198_481 rfl rfl).trans (congrArg (And _) ((w_aload_n t198_482 rfl rfl).trans ((w_iload_n t198_483 rfl rfl).trans ((w_iconst t198_484 rfl).trans ((w_iadd t198_485 rfl).trans ((w_iald t198_486 rfl rfl).trans (congrArg (And _) ((w_aload_n t198_487 rfl rfl).trans ((w_iload_n t198_488 rfl rfl).trans ((w_iconst t198_489 rfl).trans ((w_iadd t198_490 rfl).trans ((w_iald t198_491 rfl rfl).trans (congrArg (And _) (w_callV t198_492 rfl rfl rfl rfl (Nat.le_of_ble_eq_true rfl) (Nat.le_of_ble_eq_true rfl) rfl (by decide))))))))))))))))))))))))))))))))
set_option maxRecDepth 10000 in
theorem b198_495 {d : Nat} {l0 : Option sm_V} {l1 : Option sm_V} {l2 : Option sm_V} {l3 : Option sm_V} {s0 : Int} {s1 : Int} {Z : Nat → Nat → Int} {Rf : Nat → Nat → Option Nat} {K : Nat → Nat × Nat} {n z : Nat} {Q : Option sm_V → sm_S → Prop} : sm_wp d 198 495 [l0, l1, l2, l3] [.inl s1, .inl s0] (Z, Rf, K, n, z) Q = (if wr s0 = wr s1 then sm_wp d 198 1149 [l0, l1, l2, l3] [] (Z, Rf, K, n, z) Q else sm_wp d 198 498 [l0, l1, l2, l3] [] (Z, Rf, K, n, z) Q) := w_iceq t198_495 rfl rfl rfl rfl
set_option maxRecDepth 10000 in
theorem b198_498 {d : Nat} {l0 : Option sm_V} {l1 : Option sm_V} {l2 : Option sm_V} {l3 : Option sm_V} {Z : Nat → Nat → Int} {Rf : Nat → Nat → Option Nat} {K : Nat → Nat × Nat} {n z : Nat} {Q : Option sm_V → sm_S → Prop} : sm_wp d 198 498 [l0, l1, l2, l3] [] (Z, Rf, K, n, z) Q = (((0 : Int) = 0 ∨ (0 : Int) = 1) ∧ Q (some (.inl 0)) (Z, Rf, K, n, z)) := (w_iconst t198_498 rfl).trans (w_zret t198_499 wl_0)
set_option maxRecDepth 10000 in
theorem b198_500 {d : Nat} {r0 : Nat} {r1 : Nat} {l2 : Option sm_V} {x3 : Int} {Z : Nat → Nat → Int} {Rf : Nat → Nat → Option Nat} {K : Nat → Nat × Nat} {n z : Nat} {Q : Option sm_V → sm_S → Prop} : sm_wp (d + 1) 198 500 [some (.inr (some r0)), some (.inr (some r1)), l2, some (.inl x3)] [] (Z, Rf, K, n, z) Q = (sm_rd (K r0) (wr (x3 + 1)) ∧ sm_rd (K r0) (wr (x3 + 2)) ∧ sm_rd (K r0) (wr (x3 + 3)) ∧ sm_rd (K r0) (wr (x3 + 4)) ∧ sm_rd (K r0) (wr (x3 + 5)) ∧ (K r1).1 = 10 ∧ sm_call d 93 [.inr (some r1), .inl (Z r0 ((wr (x3 + 1)).toNat)), .inl (Z r0 ((wr (x3 + 2)).toNat)), .inl (Z r0 ((wr (x3 + 3)).toNat)), .inl (Z r0 ((wr (x3 + 4)).toNat)), .inl (Z r0 ((wr (x3 + 5)).toNat))] (Z, Rf, K, n, z) (sm_cont (d + 1) 198 529 [some (.inr (some r0)), some (.inr (some r1)), l2, some (.inl x3)] [] Q)) := (w_aload_n t198_500 rfl rfl).trans ((w_aload_n t198_501 rfl rfl).trans ((w_iload_n t198_502 rfl rfl).trans ((w_iconst t198_503 rfl).trans ((w_iadd t198_504 rfl).trans ((w_iald t198_505 rfl rfl).trans (congrArg (And _) ((w_aload_n t198_506 rfl rfl).trans ((w_iload_n t198_507 rfl rfl).trans ((w_iconst t198_508 rfl).trans ((w_iadd t198_509 rfl).trans ((w_iald t198_510 rfl rfl).trans (congrArg (And _) ((w_aload_n t198_511 rfl rfl).trans ((w_iload_n t198_512 rfl rfl).trans ((w_iconst t198_513 rfl).trans ((w_iadd t198_514 rfl).trans ((w_iald t198_515 rfl rfl).trans (congrArg (And _) ((w_aload_n t198_516 rfl rfl).trans ((w_iload_n t198_517 rfl rfl).trans ((w_iconst t198_518 rfl).trans ((w_iadd t198_519 rfl).trans ((w_iald t198_520 rfl rfl).trans (congrArg (And _) ((w_aload_n t198_521 rfl rfl).trans ((w_iload_n t198_522 rfl rfl).trans ((w_iconst t198_523 rfl).trans ((w_iadd t198_524 rfl).trans ((w_iald t198_525 rfl rfl).trans (congrArg (And _) (w_callV t198_526 rfl rfl rfl rfl (Nat.le_of_ble_eq_true rfl) (Nat.le_of_ble_eq_true rfl) rfl (by decide))))))))))))))))))))))))))))))))
set_option maxRecDepth 10000 in
theorem b198_529 {d : Nat} {r0 : Nat} {l1 : Option sm_V} {r2 : Nat} {x3 : Int} {s0 : Int} {Z : Nat → Nat → Int} {Rf : Nat → Nat → Option Nat} {K : Nat → Nat × Nat} {n z : Nat} {Q : Option sm_V → sm_S → Prop} : sm_wp (d + 1) 198 529 [some (.inr (some r0)), l1, some (.inr (some r2)), some (.inl x3)] [.inl s0] (Z, Rf, K, n, z) Q = (sm_rd (K r0) (wr (x3 + 1)) ∧ sm_rd (K r0) (wr (x3 + 2)) ∧ sm_rd (K r0) (wr (x3 + 3)) ∧ sm_rd (K r0) (wr (x3 + 4)) ∧ sm_rd (K r0) (wr (x3 + 5)) ∧ (K r2).1 = 11 ∧ sm_call d 136 [.inr (some r2), .inl (Z r0 ((wr (x3 + 1)).toNat)), .inl (Z r0 ((wr (x3 + 2)).toNat)), .inl (Z r0 ((wr (x3 + 3)).toNat)), .inl (Z r0 ((wr (x3 + 4)).toNat)), .inl (Z r0 ((wr (x3 + 5)).toNat))] (Z, Rf, K, n, z) (sm_cont (d + 1) 198 558 [some (.inr (some r0)), l1, some (.inr (some r2)), some (.inl x3)] [.inl s0] Q)) := (w_aload_n t198_529 rfl rfl).trans ((w_aload_n t198_530 rfl rfl).trans ((w_iload_n t198_531 rfl rfl).trans ((w_iconst t198_532 rfl).trans ((w_iadd t198_533 rfl).trans ((w_iald t198_534 rfl rfl).trans (congrArg (And _) ((w_aload_n t198_535 rfl rfl).trans ((w_iload_n t198_536 rfl rfl).trans ((w_iconst t198_537 rfl).trans ((w_iadd t198_538 rfl).trans ((w_iald t198_539 rfl rfl).trans (congrArg (And _) ((w_aload_n t198_540 rfl rfl).trans ((w_iload_n t198_541 rfl rfl).trans ((w_iconst t198_542 rfl).trans ((w_iadd t198_543 rfl).trans ((w_iald t198_544 rfl rfl).trans (congrArg (And _) ((w_aload_n t198_545 rfl rfl).trans ((w_iload_n t198_546 rfl rfl).trans ((w_iconst t198_547 rfl).trans ((w_iadd t198_548 rfl).trans ((w_iald t198_549 rfl rfl).trans (congrArg (And _) ((w_aload_n t198_550 rfl rfl).trans ((w_iload_n t198_551 rfl rfl).trans ((w_iconst t198_552 rfl).trans ((w_iadd t198_553 rfl).trans ((w_iald t198_554 rfl rfl).trans (congrArg (And _) (w_callV t198_555 rfl rfl rfl rfl (Nat.le_of_ble_eq_true rfl) (Nat.le_of_ble_eq_true rfl) rfl (by decide))))))))))))))))))))))))))))))))
set_option maxRecDepth 10000 in
theorem b198_558 {d : Nat} {l0 : Option sm_V} {l1 : Option sm_V} {l2 : Option sm_V} {l3 : Option sm_V} {s0 : Int} {s1 : Int} {Z : Nat → Nat → Int} {Rf : Nat → Nat → Option Nat} {K : Nat → Nat × Nat} {n z : Nat} {Q : Option sm_V → sm_S → Prop} : sm_wp d 198 558 [l0, l1, l2, l3] [.inl s1, .inl s0] (Z, Rf, K, n, z) Q = (if wr s0 = wr s1 then sm_wp d 198 1149 [l0, l1, l2, l3] [] (Z, Rf, K, n, z) Q else sm_wp d 198 561 [l0, l1, l2, l3] [] (Z, Rf, K, n, z) Q) := w_iceq t198_558 rfl rfl rfl rfl
set_option maxRecDepth 10000 in
theorem b198_561 {d : Nat} {l0 : Option sm_V} {l1 : Option sm_V} {l2 : Option sm_V} {l3 : Option sm_V} {Z : Nat → Nat → Int} {Rf : Nat → Nat → Option Nat} {K : Nat → Nat × Nat} {n z : Nat} {Q : Option sm_V → sm_S → Prop} : sm_wp d 198 561 [l0, l1, l2, l3] [] (Z, Rf, K, n, z) Q = (((0 : Int) = 0 ∨ (0 : Int) = 1) ∧ Q (some (.inl 0)) (Z, Rf, K, n, z)) := (w_iconst t198_561 rfl).trans (w_zret t198_562 wl_0)
set_option maxRecDepth 10000 in
theorem b198_563 {d : Nat} {r0 : Nat} {r1 : Nat} {l2 : Option sm_V} {x3 : Int} {Z : Nat → Nat → Int} {Rf : Nat → Nat → Option Nat} {K : Nat → Nat × Nat} {n z : Nat} {Q : Option sm_V → sm_S → Prop} : sm_wp (d + 1) 198 563 [some (.inr (some r0)), some (.inr (some r1)), l2, some (.inl x3)] [] (Z, Rf, K, n, z) Q = (sm_rd (K r0) (wr (x3 + 1)) ∧ (K r1).1 = 10 ∧ sm_call d 94 [.inr (some r1), .inl (Z r0 ((wr (x3 + 1)).toNat))] (Z, Rf, K, n, z) (sm_cont (d + 1) 198 572 [some (.inr (some r0)), some (.inr (some r1)), l2, some (.inl x3)] [] Q)) := (w_aload_n t198_563 rfl rfl).trans ((w_aload_n t198_564 rfl rfl).trans ((w_iload_n t198_565 rfl rfl).trans ((w_iconst t198_566 rfl).trans ((w_iadd t198_567 rfl).trans ((w_iald t198_568 rfl rfl).trans (congrArg (And _) (w_callV t198_569 rfl rfl rfl rfl (Nat.le_of_ble_eq_true rfl) (Nat.le_of_ble_eq_true rfl) rfl (by decide))))))))
set_option maxRecDepth 10000 in
theorem b198_572 {d : Nat} {r0 : Nat} {l1 : Option sm_V} {r2 : Nat} {x3 : Int} {s0 : Int} {Z : Nat → Nat → Int} {Rf : Nat → Nat → Option Nat} {K : Nat → Nat × Nat} {n z : Nat} {Q : Option sm_V → sm_S → Prop} : sm_wp (d + 1) 198 572 [some (.inr (some r0)), l1, some (.inr (some r2)), some (.inl x3)] [.inl s0] (Z, Rf, K, n, z) Q = (sm_rd (K r0) (wr (x3 + 1)) ∧ (K r2).1 = 11 ∧ sm_call d 137 [.inr (some r2), .inl (Z r0 ((wr (x3 + 1)).toNat))] (Z, Rf, K, n, z) (sm_cont (d + 1) 198 581 [some (.inr (some r0)), l1, some (.inr (some r2)), some (.inl x3)] [.inl s0] Q)) := (w_aload_n t198_572 rfl rfl).trans ((w_aload_n t198_573 rfl rfl).trans ((w_iload_n t198_574 rfl rfl).trans ((w_iconst t198_575 rfl).trans ((w_iadd t198_576 rfl).trans ((w_iald t198_577 rfl rfl).trans (congrArg (And _) (w_callV t198_578 rfl rfl rfl rfl (Nat.le_of_ble_eq_true rfl) (Nat.le_of_ble_eq_true rfl) rfl (by decide))))))))
set_option maxRecDepth 10000 in
theorem b198_581 {d : Nat} {l0 : Option sm_V} {l1 : Option sm_V} {l2 : Option sm_V} {l3 : Option sm_V} {s0 : Int} {s1 : Int} {Z : Nat → Nat → Int} {Rf : Nat → Nat → Option Nat} {K : Nat → Nat × Nat} {n z : Nat} {Q : Option sm_V → sm_S → Prop} : sm_wp d 198 581 [l0, l1, l2, l3] [.inl s1, .inl s0] (Z, Rf, K, n, z) Q = (if wr s0 = wr s1 then sm_wp d 198 1149 [l0, l1, l2, l3] [] (Z, Rf, K, n, z) Q else sm_wp d 198 584 [l0, l1, l2, l3] [] (Z, Rf, K, n, z) Q) := w_iceq t198_581 rfl rfl rfl rfl
set_option maxRecDepth 10000 in
theorem b198_584 {d : Nat} {l0 : Option sm_V} {l1 : Option sm_V} {l2 : Option sm_V} {l3 : Option sm_V} {Z : Nat → Nat → Int} {Rf : Nat → Nat → Option Nat} {K : Nat → Nat × Nat} {n z : Nat} {Q : Option sm_V → sm_S → Prop} : sm_wp d 198 584 [l0, l1, l2, l3] [] (Z, Rf, K, n, z) Q = (((0 : Int) = 0 ∨ (0 : Int) = 1) ∧ Q (some (.inl 0)) (Z, Rf, K, n, z)) := (w_iconst t198_584 rfl).trans (w_zret t198_585 wl_0)
set_option maxRecDepth 10000 in
theorem b198_586 {d : Nat} {r0 : Nat} {r1 : Nat} {l2 : Option sm_V} {x3 : Int} {Z : Nat → Nat → Int} {Rf : Nat → Nat → Option Nat} {K : Nat → Nat × Nat} {n z : Nat} {Q : Option sm_V → sm_S → Prop} : sm_wp (d + 1) 198 586 [some (.inr (some r0)), some (.inr (some r1)), l2, some (.inl x3)] [] (Z, Rf, K, n, z) Q = (sm_rd (K r0) (wr (x3 + 1)) ∧ (K r1).1 = 10 ∧ sm_call d 95 [.inr (some r1), .inl (Z r0 ((wr (x3 + 1)).toNat))] (Z, Rf, K, n, z) (sm_cont (d + 1) 198 595 [some (.inr (some r0)), some (.inr (some r1)), l2, some (.inl x3)] [] Q)) := (w_aload_n t198_586 rfl rfl).trans ((w_aload_n t198_587 rfl rfl).trans ((w_iload_n t198_588 rfl rfl).trans ((w_iconst t198_589 rfl).trans ((w_iadd t198_590 rfl).trans ((w_iald t198_591 rfl rfl).trans (congrArg (And _) (w_callV t198_592 rfl rfl rfl rfl (Nat.le_of_ble_eq_true rfl) (Nat.le_of_ble_eq_true rfl) rfl (by decide))))))))
set_option maxRecDepth 10000 in
theorem b198_595 {d : Nat} {r0 : Nat} {l1 : Option sm_V} {r2 : Nat} {x3 : Int} {s0 : Int} {Z : Nat → Nat → Int} {Rf : Nat → Nat → Option Nat} {K : Nat → Nat × Nat} {n z : Nat} {Q : Option sm_V → sm_S → Prop} : sm_wp (d + 1) 198 595 [some (.inr (some r0)), l1, some (.inr (some r2)), some (.inl x3)] [.inl s0] (Z, Rf, K, n, z) Q = (sm_rd (K r0) (wr (x3 + 1)) ∧ (K r2).1 = 11 ∧ sm_call d 156 [.inr (some r2), .inl (Z r0 ((wr (x3 + 1)).toNat))] (Z, Rf, K, n, z) (sm_cont (d + 1) 198 604 [some (.inr (some r0)), l1, some (.inr (some r2)), some (.inl x3)] [.inl s0] Q)) := (w_aload_n t198_595 rfl rfl).trans ((w_aload_n t198_596 rfl rfl).trans ((w_iload_n t198_597 rfl rfl).trans ((w_iconst t198_598 rfl).trans ((w_iadd t198_599 rfl).trans ((w_iald t198_600 rfl rfl).trans (congrArg (And _) (w_callV t198_601 rfl rfl rfl rfl (Nat.le_of_ble_eq_true rfl) (Nat.le_of_ble_eq_true rfl) rfl (by decide))))))))
set_option maxRecDepth 10000 in
theorem b198_604 {d : Nat} {l0 : Option sm_V} {l1 : Option sm_V} {l2 : Option sm_V} {l3 : Option sm_V} {s0 : Int} {s1 : Int} {Z : Nat → Nat → Int} {Rf : Nat → Nat → Option Nat} {K : Nat → Nat × Nat} {n z : Nat} {Q : Option sm_V → sm_S → Prop} : sm_wp d 198 604 [l0, l1, l2, l3] [.inl s1, .inl s0] (Z, Rf, K, n, z) Q = (if wr s0 = wr s1 then sm_wp d 198 1149 [l0, l1, l2, l3] [] (Z, Rf, K, n, z) Q else sm_wp d 198 607 [l0, l1, l2, l3] [] (Z, Rf, K, n, z) Q) := w_iceq t198_604 rfl rfl rfl rfl
set_option maxRecDepth 10000 in
theorem b198_607 {d : Nat} {l0 : Option sm_V} {l1 : Option sm_V} {l2 : Option sm_V} {l3 : Option sm_V} {Z : Nat → Nat → Int} {Rf : Nat → Nat → Option Nat} {K : Nat → Nat × Nat} {n z : Nat} {Q : Option sm_V → sm_S → Prop} : sm_wp d 198 607 [l0, l1, l2, l3] [] (Z, Rf, K, n, z) Q = (((0 : Int) = 0 ∨ (0 : Int) = 1) ∧ Q (some (.inl 0)) (Z, Rf, K, n, z)) := (w_iconst t198_607 rfl).trans (w_zret t198_608 wl_0)
set_option maxRecDepth 10000 in
theorem b198_609 {d : Nat} {r0 : Nat} {r1 : Nat} {l2 : Option sm_V} {x3 : Int} {Z : Nat → Nat → Int} {Rf : Nat → Nat → Option Nat} {K : Nat → Nat × Nat} {n z : Nat} {Q : Option sm_V → sm_S → Prop} : sm_wp (d + 1) 198 609 [some (.inr (some r0)), some (.inr (some r1)), l2, some (.inl x3)] [] (Z, Rf, K, n, z) Q = (sm_rd (K r0) (wr (x3 + 1)) ∧ (K r1).1 = 10 ∧ sm_call d 96 [.inr (some r1), .inl (Z r0 ((wr (x3 + 1)).toNat))] (Z, Rf, K, n, z) (sm_cont (d + 1) 198 618 [some (.inr (some r0)), some (.inr (some r1)), l2, some (.inl x3)] [] Q)) := (w_aload_n t198_609 rfl rfl).trans ((w_aload_n t198_610 rfl rfl).trans ((w_iload_n t198_611 rfl rfl).trans ((w_iconst t198_612 rfl).trans ((w_iadd t198_613 rfl).trans ((w_iald t198_614 rfl rfl).trans (congrArg (And _) (w_callV t198_615 rfl rfl rfl rfl (Nat.le_of_ble_eq_true rfl) (Nat.le_of_ble_eq_true rfl) rfl (by decide))))))))
set_option maxRecDepth 10000 in
theorem b198_618 {d : Nat} {r0 : Nat} {l1 : Option sm_V} {r2 : Nat} {x3 : Int} {s0 : Int} {Z : Nat → Nat → Int} {Rf : Nat → Nat → Option Nat} {K : Nat → Nat × Nat} {n z : Nat} {Q : Option sm_V → sm_S → Prop} : sm_wp (d + 1) 198 618 [some (.inr (some r0)), l1, some (.inr (some r2)), some (.inl x3)] [.inl s0] (Z, Rf, K, n, z) Q = (sm_rd (K r0) (wr (x3 + 1)) ∧ (K r2).1 = 11 ∧ sm_call d 157 [.inr (some r2), .inl (Z r0 ((wr (x3 + 1)).toNat))] (Z, Rf, K, n, z) (sm_cont (d + 1) 198 627 [some (.inr (some r0)), l1, some (.inr (some r2)), some (.inl x3)] [.inl s0] Q)) := (w_aload_n t198_618 rfl rfl).trans ((w_aload_n t198_619 rfl rfl).trans ((w_iload_n t198_620 rfl rfl).trans ((w_iconst t198_621 rfl).trans ((w_iadd t198_622 rfl).trans ((w_iald t198_623 rfl rfl).trans (congrArg (And _) (w_callV t198_624 rfl rfl rfl rfl (Nat.le_of_ble_eq_true rfl) (Nat.le_of_ble_eq_true rfl) rfl (by decide))))))))
set_option maxRecDepth 10000 in
theorem b198_627 {d : Nat} {l0 : Option sm_V} {l1 : Option sm_V} {l2 : Option sm_V} {l3 : Option sm_V} {s0 : Int} {s1 : Int} {Z : Nat → Nat → Int} {Rf : Nat → Nat → Option Nat} {K : Nat → Nat × Nat} {n z : Nat} {Q : Option sm_V → sm_S → Prop} : sm_wp d 198 627 [l0, l1, l2, l3] [.inl s1, .inl s0] (Z, Rf, K, n, z) Q = (if wr s0 = wr s1 then sm_wp d 198 1149 [l0, l1, l2, l3] [] (Z, Rf, K, n, z) Q else sm_wp d 198 630 [l0, l1, l2, l3] [] (Z, Rf, K, n, z) Q) := w_iceq t198_627 rfl rfl rfl rfl
set_option maxRecDepth 10000 in
theorem b198_630 {d : Nat} {l0 : Option sm_V} {l1 : Option sm_V} {l2 : Option sm_V} {l3 : Option sm_V} {Z : Nat → Nat → Int} {Rf : Nat → Nat → Option Nat} {K : Nat → Nat × Nat} {n z : Nat} {Q : Option sm_V → sm_S → Prop} : sm_wp d 198 630 [l0, l1, l2, l3] [] (Z, Rf, K, n, z) Q = (((0 : Int) = 0 ∨ (0 : Int) = 1) ∧ Q (some (.inl 0)) (Z, Rf, K, n, z)) := (w_iconst t198_630 rfl).trans (w_zret t198_631 wl_0)
set_option maxRecDepth 10000 in
theorem b198_632 {d : Nat} {l0 : Option sm_V} {r1 : Nat} {l2 : Option sm_V} {l3 : Option sm_V} {Z : Nat → Nat → Int} {Rf : Nat → Nat → Option Nat} {K : Nat → Nat × Nat} {n z : Nat} {Q : Option sm_V → sm_S → Prop} : sm_wp (d + 1) 198 632 [l0, some (.inr (some r1)), l2, l3] [] (Z, Rf, K, n, z) Q = ((K r1).1 = 10 ∧ sm_call d 97 [.inr (some r1)] (Z, Rf, K, n, z) (sm_cont (d + 1) 198 636 [l0, some (.inr (some r1)), l2, l3] [] Q)) := (w_aload_n t198_632 rfl rfl).trans (w_callV t198_633 rfl rfl rfl rfl (Nat.le_of_ble_eq_true rfl) (Nat.le_of_ble_eq_true rfl) rfl (by decide))
set_option maxRecDepth 10000 in
theorem b198_636 {d : Nat} {l0 : Option sm_V} {l1 : Option sm_V} {r2 : Nat} {l3 : Option sm_V} {s0 : Int} {Z : Nat → Nat → Int} {Rf : Nat → Nat → Option Nat} {K : Nat → Nat × Nat} {n z : Nat} {Q : Option sm_V → sm_S → Prop} : sm_wp (d + 1) 198 636 [l0, l1, some (.inr (some r2)), l3] [.inl s0] (Z, Rf, K, n, z) Q = ((K r2).1 = 11 ∧ sm_call d 175 [.inr (some r2)] (Z, Rf, K, n, z) (sm_cont (d + 1) 198 640 [l0, l1, some (.inr (some r2)), l3] [.inl s0] Q)) := (w_aload_n t198_636 rfl rfl).trans (w_callV t198_637 rfl rfl rfl rfl (Nat.le_of_ble_eq_true rfl) (Nat.le_of_ble_eq_true rfl) rfl (by decide))
set_option maxRecDepth 10000 in
theorem b198_640 {d : Nat} {l0 : Option sm_V} {l1 : Option sm_V} {l2 : Option sm_V} {l3 : Option sm_V} {s0 : Int} {s1 : Int} {Z : Nat → Nat → Int} {Rf : Nat → Nat → Option Nat} {K : Nat → Nat × Nat} {n z : Nat} {Q : Option sm_V → sm_S → Prop} : sm_wp d 198 640 [l0, l1, l2, l3] [.inl s1, .inl s0] (Z, Rf, K, n, z) Q = (if wr s0 = wr s1 then sm_wp d 198 1149 [l0, l1, l2, l3] [] (Z, Rf, K, n, z) Q else sm_wp d 198 643 [l0, l1, l2, l3] [] (Z, Rf, K, n, z) Q) := w_iceq t198_640 rfl rfl rfl rfl
set_option maxRecDepth 10000 in
theorem b198_643 {d : Nat} {l0 : Option sm_V} {l1 : Option sm_V} {l2 : Option sm_V} {l3 : Option sm_V} {Z : Nat → Nat → Int} {Rf : Nat → Nat → Option Nat} {K : Nat → Nat × Nat} {n z : Nat} {Q : Option sm_V → sm_S → Prop} : sm_wp d 198 643 [l0, l1, l2, l3] [] (Z, Rf, K, n, z) Q = (((0 : Int) = 0 ∨ (0 : Int) = 1) ∧ Q (some (.inl 0)) (Z, Rf, K, n, z)) := (w_iconst t198_643 rfl).trans (w_zret t198_644 wl_0)
set_option maxRecDepth 10000 in
theorem b198_645 {d : Nat} {l0 : Option sm_V} {r1 : Nat} {l2 : Option sm_V} {l3 : Option sm_V} {Z : Nat → Nat → Int} {Rf : Nat → Nat → Option Nat} {K : Nat → Nat × Nat} {n z : Nat} {Q : Option sm_V → sm_S → Prop} : sm_wp (d + 1) 198 645 [l0, some (.inr (some r1)), l2, l3] [] (Z, Rf, K, n, z) Q = ((K r1).1 = 10 ∧ sm_call d 98 [.inr (some r1)] (Z, Rf, K, n, z) (sm_cont (d + 1) 198 649 [l0, some (.inr (some r1)), l2, l3] [] Q)) := (w_aload_n t198_645 rfl rfl).trans (w_callV t198_646 rfl rfl rfl rfl (Nat.le_of_ble_eq_true rfl) (Nat.le_of_ble_eq_true rfl) rfl (by decide))
set_option maxRecDepth 10000 in
theorem b198_649 {d : Nat} {l0 : Option sm_V} {l1 : Option sm_V} {r2 : Nat} {l3 : Option sm_V} {s0 : Int} {Z : Nat → Nat → Int} {Rf : Nat → Nat → Option Nat} {K : Nat → Nat × Nat} {n z : Nat} {Q : Option sm_V → sm_S → Prop} : sm_wp (d + 1) 198 649 [l0, l1, some (.inr (some r2)), l3] [.inl s0] (Z, Rf, K, n, z) Q = ((K r2).1 = 11 ∧ sm_call d 176 [.inr (some r2)] (Z, Rf, K, n, z) (sm_cont (d + 1) 198 653 [l0, l1, some (.inr (some r2)), l3] [.inl s0] Q)) := (w_aload_n t198_649 rfl rfl).trans (w_callV t198_650 rfl rfl rfl rfl (Nat.le_of_ble_eq_true rfl) (Nat.le_of_ble_eq_true rfl) rfl (by decide))
set_option maxRecDepth 10000 in
theorem b198_653 {d : Nat} {l0 : Option sm_V} {l1 : Option sm_V} {l2 : Option sm_V} {l3 : Option sm_V} {s0 : Int} {s1 : Int} {Z : Nat → Nat → Int} {Rf : Nat → Nat → Option Nat} {K : Nat → Nat × Nat} {n z : Nat} {Q : Option sm_V → sm_S → Prop} : sm_wp d 198 653 [l0, l1, l2, l3] [.inl s1, .inl s0] (Z, Rf, K, n, z) Q = (if wr s0 = wr s1 then sm_wp d 198 1149 [l0, l1, l2, l3] [] (Z, Rf, K, n, z) Q else sm_wp d 198 656 [l0, l1, l2, l3] [] (Z, Rf, K, n, z) Q) := w_iceq t198_653 rfl rfl rfl rfl
set_option maxRecDepth 10000 in
theorem b198_656 {d : Nat} {l0 : Option sm_V} {l1 : Option sm_V} {l2 : Option sm_V} {l3 : Option sm_V} {Z : Nat → Nat → Int} {Rf : Nat → Nat → Option Nat} {K : Nat → Nat × Nat} {n z : Nat} {Q : Option sm_V → sm_S → Prop} : sm_wp d 198 656 [l0, l1, l2, l3] [] (Z, Rf, K, n, z) Q = (((0 : Int) = 0 ∨ (0 : Int) = 1) ∧ Q (some (.inl 0)) (Z, Rf, K, n, z)) := (w_iconst t198_656 rfl).trans (w_zret t198_657 wl_0)
set_option maxRecDepth 10000 in
theorem b198_658 {d : Nat} {r0 : Nat} {r1 : Nat} {l2 : Option sm_V} {x3 : Int} {Z : Nat → Nat → Int} {Rf : Nat → Nat → Option Nat} {K : Nat → Nat × Nat} {n z : Nat} {Q : Option sm_V → sm_S → Prop} : sm_wp (d + 1) 198 658 [some (.inr (some r0)), some (.inr (some r1)), l2, some (.inl x3)] [] (Z, Rf, K, n, z) Q = (sm_rd (K r0) (wr (x3 + 1)) ∧ sm_rd (K r0) (wr (x3 + 2)) ∧ (K r1).1 = 10 ∧ sm_call d 99 [.inr (some r1), .inl (Z r0 ((wr (x3 + 1)).toNat)), .inl (Z r0 ((wr (x3 + 2)).toNat))] (Z, Rf, K, n, z) (sm_cont (d + 1) 198 672 [some (.inr (some r0)), some (.inr (some r1)), l2, some (.inl x3)] [] Q)) := (w_aload_n t198_658 rfl rfl).trans ((w_aload_n t198_659 rfl rfl).trans ((w_iload_n t198_660 rfl rfl).trans ((w_iconst t198_661 rfl).trans ((w_iadd t198_662 rfl).trans ((w_iald t198_663 rfl rfl).trans (congrArg (And _) ((w_aload_n t198_664 rfl rfl).trans ((w_iload_n t198_665 rfl rfl).trans ((w_iconst t198_666 rfl).trans ((w_iadd t198_667 rfl).trans ((w_iald t198_668 rfl rfl).trans (congrArg (And _) (w_callV t198_669 rfl rfl rfl rfl (Nat.le_of_ble_eq_true rfl) (Nat.le_of_ble_eq_true rfl) rfl (by decide))))))))))))))
set_option maxRecDepth 10000 in
theorem b198_672 {d : Nat} {r0 : Nat} {l1 : Option sm_V} {r2 : Nat} {x3 : Int} {s0 : Int} {Z : Nat → Nat → Int} {Rf : Nat → Nat → Option Nat} {K : Nat → Nat × Nat} {n z : Nat} {Q : Option sm_V → sm_S → Prop} : sm_wp (d + 1) 198 672 [some (.inr (some r0)), l1, some (.inr (some r2)), some (.inl x3)] [.inl s0] (Z, Rf, K, n, z) Q = (sm_rd (K r0) (wr (x3 + 1)) ∧ sm_rd (K r0) (wr (x3 + 2)) ∧ (K r2).1 = 11 ∧ sm_call d 177 [.inr (some r2), .inl (Z r0 ((wr (x3 + 1)).toNat)), .inl (Z r0 ((wr (x3 + 2)).toNat))] (Z, Rf, K, n, z) (sm_cont (d + 1) 198 686 [some (.inr (some r0)), l1, some (.inr (some r2)), some (.inl x3)] [.inl s0] Q)) := (w_aload_n t198_672 rfl rfl).trans ((w_aload_n t198_673 rfl rfl).trans ((w_iload_n t198_674 rfl rfl).trans ((w_iconst t198_675 rfl).trans ((w_iadd t198_676 rfl).trans ((w_iald t198_677 rfl rfl).trans (congrArg (And _) ((w_aload_n t198_678 rfl rfl).trans ((w_iload_n t198_679 rfl rfl).trans ((w_iconst t198_680 rfl).trans ((w_iadd t198_681 rfl).trans ((w_iald t198_682 rfl rfl).trans (congrArg (And _) (w_callV t198_683 rfl rfl rfl rfl (Nat.le_of_ble_eq_true rfl) (Nat.le_of_ble_eq_true rfl) rfl (by decide))))))))))))))
set_option maxRecDepth 10000 in
theorem b198_686 {d : Nat} {l0 : Option sm_V} {l1 : Option sm_V} {l2 : Option sm_V} {l3 : Option sm_V} {s0 : Int} {s1 : Int} {Z : Nat → Nat → Int} {Rf : Nat → Nat → Option Nat} {K : Nat → Nat × Nat} {n z : Nat} {Q : Option sm_V → sm_S → Prop} : sm_wp d 198 686 [l0, l1, l2, l3] [.inl s1, .inl s0] (Z, Rf, K, n, z) Q = (if wr s0 = wr s1 then sm_wp d 198 1149 [l0, l1, l2, l3] [] (Z, Rf, K, n, z) Q else sm_wp d 198 689 [l0, l1, l2, l3] [] (Z, Rf, K, n, z) Q) := w_iceq t198_686 rfl rfl rfl rfl
set_option maxRecDepth 10000 in
theorem b198_689 {d : Nat} {l0 : Option sm_V} {l1 : Option sm_V} {l2 : Option sm_V} {l3 : Option sm_V} {Z : Nat → Nat → Int} {Rf : Nat → Nat → Option Nat} {K : Nat → Nat × Nat} {n z : Nat} {Q : Option sm_V → sm_S → Prop} : sm_wp d 198 689 [l0, l1, l2, l3] [] (Z, Rf, K, n, z) Q = (((0 : Int) = 0 ∨ (0 : Int) = 1) ∧ Q (some (.inl 0)) (Z, Rf, K, n, z)) := (w_iconst t198_689 rfl).trans (w_zret t198_690 wl_0)
set_option maxRecDepth 10000 in
theorem b198_691 {d : Nat} {r0 : Nat} {r1 : Nat} {l2 : Option sm_V} {x3 : Int} {Z : Nat → Nat → Int} {Rf : Nat → Nat → Option Nat} {K : Nat → Nat × Nat} {n z : Nat} {Q : Option sm_V → sm_S → Prop} : sm_wp (d + 1) 198 691 [some (.inr (some r0)), some (.inr (some r1)), l2, some (.inl x3)] [] (Z, Rf, K, n, z) Q = (sm_rd (K r0) (wr (x3 + 1)) ∧ sm_rd (K r0) (wr (x3 + 2)) ∧ sm_rd (K r0) (wr (x3 + 3)) ∧ sm_rd (K r0) (wr (x3 + 4)) ∧ (K r1).1 = 10 ∧ sm_call d 100 [.inr (some r1), .inl (Z r0 ((wr (x3 + 1)).toNat)), .inl (Z r0 ((wr (x3 + 2)).toNat)), .inl (Z r0 ((wr (x3 + 3)).toNat)), .inl (Z r0 ((wr (x3 + 4)).toNat))] (Z, Rf, K, n, z) (sm_cont (d + 1) 198 715 [some (.inr (some r0)), some (.inr (some r1)), l2, some (.inl x3)] [] Q)) := (w_aload_n t198_691 rfl rfl).trans ((w_aload_n t198_692 rfl rfl).trans ((w_iload_n t198_693 rfl rfl).trans ((w_iconst t198_694 rfl).trans ((w_iadd t198_695 rfl).trans ((w_iald t198_696 rfl rfl).trans (congrArg (And _) ((w_aload_n t198_697 rfl rfl).trans ((w_iload_n t198_698 rfl rfl).trans ((w_iconst t198_699 rfl).trans ((w_iadd t198_700 rfl).trans ((w_iald t198_701 rfl rfl).trans (congrArg (And _) ((w_aload_n t198_702 rfl rfl).trans ((w_iload_n t198_703 rfl rfl).trans ((w_iconst t198_704 rfl).trans ((w_iadd t198_705 rfl).trans ((w_iald t198_706 rfl rfl).trans (congrArg (And _) ((w_aload_n t198_707 rfl rfl).trans ((w_iload_n t198_708 rfl rfl).trans ((w_iconst t198_709 rfl).trans ((w_iadd t198_710 rfl).trans ((w_iald t198_711 rfl rfl).trans (congrArg (And _) (w_callV t198_712 rfl rfl rfl rfl (Nat.le_of_ble_eq_true rfl) (Nat.le_of_ble_eq_true rfl) rfl (by decide))))))))))))))))))))))))))
set_option maxRecDepth 10000 in
theorem b198_715 {d : Nat} {r0 : Nat} {l1 : Option sm_V} {r2 : Nat} {x3 : Int} {s0 : Int} {Z : Nat → Nat → Int} {Rf : Nat → Nat → Option Nat} {K : Nat → Nat × Nat} {n z : Nat} {Q : Option sm_V → sm_S → Prop} : sm_wp (d + 1) 198 715 [some (.inr (some r0)), l1, some (.inr (some r2)), some (.inl x3)] [.inl s0] (Z, Rf, K, n, z) Q = (sm_rd (K r0) (wr (x3 + 1)) ∧ sm_rd (K r0) (wr (x3 + 2)) ∧ sm_rd (K r0) (wr (x3 + 3)) ∧ sm_rd (K r0) (wr (x3 + 4)) ∧ (K r2).1 = 11 ∧ sm_call d 178 [.inr (some r2), .inl (Z r0 ((wr (x3 + 1)).toNat)), .inl (Z r0 ((wr (x3 + 2)).toNat)), .inl (Z r0 ((wr (x3 + 3)).toNat)), .inl (Z r0 ((wr (x3 + 4)).toNat))] (Z, Rf, K, n, z) (sm_cont (d + 1) 198 739 [some (.inr (some r0)), l1, some (.inr (some r2)), some (.inl x3)] [.inl s0] Q)) := (w_aload_n t198_715 rfl rfl).trans ((w_aload_n t198_716 rfl rfl).trans ((w_iload_n t198_717 rfl rfl).trans ((w_iconst t198_718 rfl).trans ((w_iadd t198_719 rfl).trans ((w_iald t198_720 rfl rfl).trans (congrArg (And _) ((w_aload_n t198_721 rfl rfl).trans ((w_iload_n t198_722 rfl rfl).trans ((w_iconst t198_723 rfl).trans ((w_iadd t198_724 rfl).trans ((w_iald t198_725 rfl rfl).trans (congrArg (And _) ((w_aload_n t198_726 rfl rfl).trans ((w_iload_n t198_727 rfl rfl).trans ((w_iconst t198_728 rfl).trans ((w_iadd t198_729 rfl).trans ((w_iald t198_730 rfl rfl).trans (congrArg (And _) ((w_aload_n t198_731 rfl rfl).trans ((w_iload_n t198_732 rfl rfl).trans ((w_iconst t198_733 rfl).trans ((w_iadd t198_734 rfl).trans ((w_iald t198_735 rfl rfl).trans (congrArg (And _) (w_callV t198_736 rfl rfl rfl rfl (Nat.le_of_ble_eq_true rfl) (Nat.le_of_ble_eq_true rfl) rfl (by decide))))))))))))))))))))))))))
set_option maxRecDepth 10000 in
theorem b198_739 {d : Nat} {l0 : Option sm_V} {l1 : Option sm_V} {l2 : Option sm_V} {l3 : Option sm_V} {s0 : Int} {s1 : Int} {Z : Nat → Nat → Int} {Rf : Nat → Nat → Option Nat} {K : Nat → Nat × Nat} {n z : Nat} {Q : Option sm_V → sm_S → Prop} : sm_wp d 198 739 [l0, l1, l2, l3] [.inl s1, .inl s0] (Z, Rf, K, n, z) Q = (if wr s0 = wr s1 then sm_wp d 198 1149 [l0, l1, l2, l3] [] (Z, Rf, K, n, z) Q else sm_wp d 198 742 [l0, l1, l2, l3] [] (Z, Rf, K, n, z) Q) := w_iceq t198_739 rfl rfl rfl rfl
set_option maxRecDepth 10000 in
theorem b198_742 {d : Nat} {l0 : Option sm_V} {l1 : Option sm_V} {l2 : Option sm_V} {l3 : Option sm_V} {Z : Nat → Nat → Int} {Rf : Nat → Nat → Option Nat} {K : Nat → Nat × Nat} {n z : Nat} {Q : Option sm_V → sm_S → Prop} : sm_wp d 198 742 [l0, l1, l2, l3] [] (Z, Rf, K, n, z) Q = (((0 : Int) = 0 ∨ (0 : Int) = 1) ∧ Q (some (.inl 0)) (Z, Rf, K, n, z)) := (w_iconst t198_742 rfl).trans (w_zret t198_743 wl_0)
set_option maxRecDepth 10000 in
theorem b198_744 {d : Nat} {r0 : Nat} {r1 : Nat} {l2 : Option sm_V} {x3 : Int} {Z : Nat → Nat → Int} {Rf : Nat → Nat → Option Nat} {K : Nat → Nat × Nat} {n z : Nat} {Q : Option sm_V → sm_S → Prop} : sm_wp (d + 1) 198 744 [some (.inr (some r0)), some (.inr (some r1)), l2, some (.inl x3)] [] (Z, Rf, K, n, z) Q = (sm_rd (K r0) (wr (x3 + 1)) ∧ sm_rd (K r0) (wr (x3 + 2)) ∧ (K r1).1 = 10 ∧ sm_call d 101 [.inr (some r1), .inl (Z r0 ((wr (x3 + 1)).toNat)), .inl (Z r0 ((wr (x3 + 2)).toNat))] (Z, Rf, K, n, z) (sm_cont (d + 1) 198 758 [some (.inr (some r0)), some (.inr (some r1)), l2, some (.inl x3)] [] Q)) := (w_aload_n t198_744 rfl rfl).trans ((w_aload_n t198_745 rfl rfl).trans ((w_iload_n t198_746 rfl rfl).trans ((w_iconst t198_747 rfl).trans ((w_iadd t198_748 rfl).trans ((w_iald t198_749 rfl rfl).trans (congrArg (And _) ((w_aload_n t198_750 rfl rfl).trans ((w_iload_n t198_751 rfl rfl).trans ((w_iconst t198_752 rfl).trans ((w_iadd t198_753 rfl).trans ((w_iald t198_754 rfl rfl).trans (congrArg (And _) (w_callV t198_755 rfl rfl rfl rfl (Nat.le_of_ble_eq_true rfl) (Nat.le_of_ble_eq_true rfl) rfl (by decide))))))))))))))
set_option maxRecDepth 10000 in
theorem b198_758 {d : Nat} {r0 : Nat} {l1 : Option sm_V} {r2 : Nat} {x3 : Int} {s0 : Int} {Z : Nat → Nat → Int} {Rf : Nat → Nat → Option Nat} {K : Nat → Nat × Nat} {n z : Nat} {Q : Option sm_V → sm_S → Prop} : sm_wp (d + 1) 198 758 [some (.inr (some r0)), l1, some (.inr (some r2)), some (.inl x3)] [.inl s0] (Z, Rf, K, n, z) Q = (sm_rd (K r0) (wr (x3 + 1)) ∧ sm_rd (K r0) (wr (x3 + 2)) ∧ (K r2).1 = 11 ∧ sm_call d 180 [.inr (some r2), .inl (Z r0 ((wr (x3 + 1)).toNat)), .inl (Z r0 ((wr (x3 + 2)).toNat))] (Z, Rf, K, n, z) (sm_cont (d + 1) 198 772 [some (.inr (some r0)), l1, some (.inr (some r2)), some (.inl x3)] [.inl s0] Q)) := (w_aload_n t198_758 rfl rfl).trans ((w_aload_n t198_759 rfl rfl).trans ((w_iload_n t198_760 rfl rfl).trans ((w_iconst t198_761 rfl).trans ((w_iadd t198_762 rfl).trans ((w_iald t198_763 rfl rfl).trans (congrArg (And _) ((w_aload_n t198_764 rfl rfl).trans ((w_iload_n t198_765 rfl rfl).trans ((w_iconst t198_766 rfl).trans ((w_iadd t198_767 rfl).trans ((w_iald t198_768 rfl rfl).trans (congrArg (And _) (w_callV t198_769 rfl rfl rfl rfl (Nat.le_of_ble_eq_true rfl) (Nat.le_of_ble_eq_true rfl) rfl (by decide))))))))))))))
set_option maxRecDepth 10000 in
theorem b198_772 {d : Nat} {l0 : Option sm_V} {l1 : Option sm_V} {l2 : Option sm_V} {l3 : Option sm_V} {s0 : Int} {s1 : Int} {Z : Nat → Nat → Int} {Rf : Nat → Nat → Option Nat} {K : Nat → Nat × Nat} {n z : Nat} {Q : Option sm_V → sm_S → Prop} : sm_wp d 198 772 [l0, l1, l2, l3] [.inl s1, .inl s0] (Z, Rf, K, n, z) Q = (if wr s0 = wr s1 then sm_wp d 198 1149 [l0, l1, l2, l3] [] (Z, Rf, K, n, z) Q else sm_wp d 198 775 [l0, l1, l2, l3] [] (Z, Rf, K, n, z) Q) := w_iceq t198_772 rfl rfl rfl rfl
set_option maxRecDepth 10000 in
theorem b198_775 {d : Nat} {l0 : Option sm_V} {l1 : Option sm_V} {l2 : Option sm_V} {l3 : Option sm_V} {Z : Nat → Nat → Int} {Rf : Nat → Nat → Option Nat} {K : Nat → Nat × Nat} {n z : Nat} {Q : Option sm_V → sm_S → Prop} : sm_wp d 198 775 [l0, l1, l2, l3] [] (Z, Rf, K, n, z) Q = (((0 : Int) = 0 ∨ (0 : Int) = 1) ∧ Q (some (.inl 0)) (Z, Rf, K, n, z)) := (w_iconst t198_775 rfl).trans (w_zret t198_776 wl_0)
set_option maxRecDepth 10000 in
theorem b198_777 {d : Nat} {r0 : Nat} {r1 : Nat} {l2 : Option sm_V} {x3 : Int} {Z : Nat → Nat → Int} {Rf : Nat → Nat → Option Nat} {K : Nat → Nat × Nat} {n z : Nat} {Q : Option sm_V → sm_S → Prop} : sm_wp (d + 1) 198 777 [some (.inr (some r0)), some (.inr (some r1)), l2, some (.inl x3)] [] (Z, Rf, K, n, z) Q = (sm_rd (K r0) (wr (x3 + 1)) ∧ sm_rd (K r0) (wr (x3 + 2)) ∧ sm_rd (K r0) (wr (x3 + 3)) ∧ (K r1).1 = 10 ∧ sm_call d 102 [.inr (some r1), .inl (Z r0 ((wr (x3 + 1)).toNat)), .inl (Z r0 ((wr (x3 + 2)).toNat)), .inl (Z r0 ((wr (x3 + 3)).toNat))] (Z, Rf, K, n, z) (sm_cont (d + 1) 198 796 [some (.inr (some r0)), some (.inr (some r1)), l2, some (.inl x3)] [] Q)) := (w_aload_n t198_777 rfl rfl).trans ((w_aload_n t198_778 rfl rfl).trans ((w_iload_n t198_779 rfl rfl).trans ((w_iconst t198_780 rfl).trans ((w_iadd t198_781 rfl).trans ((w_iald t198_782 rfl rfl).trans (congrArg (And _) ((w_aload_n t198_783 rfl rfl).trans ((w_iload_n t198_784 rfl rfl).trans ((w_iconst t198_785 rfl).trans ((w_iadd t198_786 rfl).trans ((w_iald t198_787 rfl rfl).trans (congrArg (And _) ((w_aload_n t198_788 rfl rfl).trans ((w_iload_n t198_789 rfl rfl).trans ((w_iconst t198_790 rfl).trans ((w_iadd t198_791 rfl).trans ((w_iald t198_792 rfl rfl).trans (congrArg (And _) (w_callV t198_793 rfl rfl rfl rfl (Nat.le_of_ble_eq_true rfl) (Nat.le_of_ble_eq_true rfl) rfl (by decide))))))))))))))))))))
set_option maxRecDepth 10000 in
theorem b198_796 {d : Nat} {r0 : Nat} {l1 : Option sm_V} {r2 : Nat} {x3 : Int} {s0 : Int} {Z : Nat → Nat → Int} {Rf : Nat → Nat → Option Nat} {K : Nat → Nat × Nat} {n z : Nat} {Q : Option sm_V → sm_S → Prop} : sm_wp (d + 1) 198 796 [some (.inr (some r0)), l1, some (.inr (some r2)), some (.inl x3)] [.inl s0] (Z, Rf, K, n, z) Q = (sm_rd (K r0) (wr (x3 + 1)) ∧ sm_rd (K r0) (wr (x3 + 2)) ∧ sm_rd (K r0) (wr (x3 + 3)) ∧ (K r2).1 = 11 ∧ sm_call d 181 [.inr (some r2), .inl (Z r0 ((wr (x3 + 1)).toNat)), .inl (Z r0 ((wr (x3 + 2)).toNat)), .inl (Z r0 ((wr (x3 + 3)).toNat))] (Z, Rf, K, n, z) (sm_cont (d + 1) 198 815 [some (.inr (some r0)), l1, some (.inr (some r2)), some (.inl x3)] [.inl s0] Q)) := (w_aload_n t198_796 rfl rfl).trans ((w_aload_n t198_797 rfl rfl).trans ((w_iload_n t198_798 rfl rfl).trans ((w_iconst t198_799 rfl).trans ((w_iadd t198_800 rfl).trans ((w_iald t198_801 rfl rfl).trans (congrArg (And _) ((w_aload_n t198_802 rfl rfl).trans ((w_iload_n t198_803 rfl rfl).trans ((w_iconst t198_804 rfl).trans ((w_iadd t198_805 rfl).trans ((w_iald t198_806 rfl rfl).trans (congrArg (And _) ((w_aload_n t198_807 rfl rfl).trans ((w_iload_n t198_808 rfl rfl).trans ((w_iconst t198_809 rfl).trans ((w_iadd t198_810 rfl).trans ((w_iald t198_811 rfl rfl).trans (congrArg (And _) (w_callV t198_812 rfl rfl rfl rfl (Nat.le_of_ble_eq_true rfl) (Nat.le_of_ble_eq_true rfl) rfl (by decide))))))))))))))))))))
set_option maxRecDepth 10000 in
theorem b198_815 {d : Nat} {l0 : Option sm_V} {l1 : Option sm_V} {l2 : Option sm_V} {l3 : Option sm_V} {s0 : Int} {s1 : Int} {Z : Nat → Nat → Int} {Rf : Nat → Nat → Option Nat} {K : Nat → Nat × Nat} {n z : Nat} {Q : Option sm_V → sm_S → Prop} : sm_wp d 198 815 [l0, l1, l2, l3] [.inl s1, .inl s0] (Z, Rf, K, n, z) Q = (if wr s0 = wr s1 then sm_wp d 198 1149 [l0, l1, l2, l3] [] (Z, Rf, K, n, z) Q else sm_wp d 198 818 [l0, l1, l2, l3] [] (Z, Rf, K, n, z) Q) := w_iceq t198_815 rfl rfl rfl rfl
set_option maxRecDepth 10000 in
theorem b198_818 {d : Nat} {l0 : Option sm_V} {l1 : Option sm_V} {l2 : Option sm_V} {l3 : Option sm_V} {Z : Nat → Nat → Int} {Rf : Nat → Nat → Option Nat} {K : Nat → Nat × Nat} {n z : Nat} {Q : Option sm_V → sm_S → Prop} : sm_wp d 198 818 [l0, l1, l2, l3] [] (Z, Rf, K, n, z) Q = (((0 : Int) = 0 ∨ (0 : Int) = 1) ∧ Q (some (.inl 0)) (Z, Rf, K, n, z)) := (w_iconst t198_818 rfl).trans (w_zret t198_819 wl_0)
set_option maxRecDepth 10000 in
theorem b198_820 {d : Nat} {r0 : Nat} {r1 : Nat} {l2 : Option sm_V} {x3 : Int} {Z : Nat → Nat → Int} {Rf : Nat → Nat → Option Nat} {K : Nat → Nat × Nat} {n z : Nat} {Q : Option sm_V → sm_S → Prop} : sm_wp (d + 1) 198 820 [some (.inr (some r0)), some (.inr (some r1)), l2, some (.inl x3)] [] (Z, Rf, K, n, z) Q = (sm_rd (K r0) (wr (x3 + 1)) ∧ sm_rd (K r0) (wr (x3 + 2)) ∧ (K r1).1 = 10 ∧ sm_call d 103 [.inr (some r1), .inl (Z r0 ((wr (x3 + 1)).toNat)), .inl (Z r0 ((wr (x3 + 2)).toNat))] (Z, Rf, K, n, z) (sm_cont (d + 1) 198 834 [some (.inr (some r0)), some (.inr (some r1)), l2, some (.inl x3)] [] Q)) := (w_aload_n t198_820 rfl rfl).trans ((w_aload_n t198_821 rfl rfl).trans ((w_iload_n t198_822 rfl rfl).trans ((w_iconst t198_823 rfl).trans ((w_iadd t198_824 rfl).trans ((w_iald t198_825 rfl rfl).trans (congrArg (And _) ((w_aload_n t198_826 rfl rfl).trans ((w_iload_n t198_827 rfl rfl).trans ((w_iconst t198_828 rfl).trans ((w_iadd t198_829 rfl).trans ((w_iald t198_830 rfl rfl).trans (congrArg (And _) (w_callV t198_831 rfl rfl rfl rfl (Nat.le_of_ble_eq_true rfl) (Nat.le_of_ble_eq_true rfl) rfl (by decide))))))))))))))
set_option maxRecDepth 10000 in
theorem b198_834 {d : Nat} {r0 : Nat} {l1 : Option sm_V} {r2 : Nat} {x3 : Int} {s0 : Int} {Z : Nat → Nat → Int} {Rf : Nat → Nat → Option Nat} {K : Nat → Nat × Nat} {n z : Nat} {Q : Option sm_V → sm_S → Prop} : sm_wp (d + 1) 198 834 [some (.inr (some r0)), l1, some (.inr (some r2)), some (.inl x3)] [.inl s0] (Z, Rf, K, n, z) Q = (sm_rd (K r0) (wr (x3 + 1)) ∧ sm_rd (K r0) (wr (x3 + 2)) ∧ (K r2).1 = 11 ∧ sm_call d 184 [.inr (some r2), .inl (Z r0 ((wr (x3 + 1)).toNat)), .inl (Z r0 ((wr (x3 + 2)).toNat))] (Z, Rf, K, n, z) (sm_cont (d + 1) 198 848 [some (.inr (some r0)), l1, some (.inr (some r2)), some (.inl x3)] [.inl s0] Q)) := (w_aload_n t198_834 rfl rfl).trans ((w_aload_n t198_835 rfl rfl).trans ((w_iload_n t198_836 rfl rfl).trans ((w_iconst t198_837 rfl).trans ((w_iadd t198_838 rfl).trans ((w_iald t198_839 rfl rfl).trans (congrArg (And _) ((w_aload_n t198_840 rfl rfl).trans ((w_iload_n t198_841 rfl rfl).trans ((w_iconst t198_842 rfl).trans ((w_iadd t198_843 rfl).trans ((w_iald t198_844 rfl rfl).trans (congrArg (And _) (w_callV t198_845 rfl rfl rfl rfl (Nat.le_of_ble_eq_true rfl) (Nat.le_of_ble_eq_true rfl) rfl (by decide))))))))))))))
set_option maxRecDepth 10000 in
theorem b198_848 {d : Nat} {l0 : Option sm_V} {l1 : Option sm_V} {l2 : Option sm_V} {l3 : Option sm_V} {s0 : Int} {s1 : Int} {Z : Nat → Nat → Int} {Rf : Nat → Nat → Option Nat} {K : Nat → Nat × Nat} {n z : Nat} {Q : Option sm_V → sm_S → Prop} : sm_wp d 198 848 [l0, l1, l2, l3] [.inl s1, .inl s0] (Z, Rf, K, n, z) Q = (if wr s0 = wr s1 then sm_wp d 198 1149 [l0, l1, l2, l3] [] (Z, Rf, K, n, z) Q else sm_wp d 198 851 [l0, l1, l2, l3] [] (Z, Rf, K, n, z) Q) := w_iceq t198_848 rfl rfl rfl rfl
set_option maxRecDepth 10000 in
theorem b198_851 {d : Nat} {l0 : Option sm_V} {l1 : Option sm_V} {l2 : Option sm_V} {l3 : Option sm_V} {Z : Nat → Nat → Int} {Rf : Nat → Nat → Option Nat} {K : Nat → Nat × Nat} {n z : Nat} {Q : Option sm_V → sm_S → Prop} : sm_wp d 198 851 [l0, l1, l2, l3] [] (Z, Rf, K, n, z) Q = (((0 : Int) = 0 ∨ (0 : Int) = 1) ∧ Q (some (.inl 0)) (Z, Rf, K, n, z)) := (w_iconst t198_851 rfl).trans (w_zret t198_852 wl_0)
set_option maxRecDepth 10000 in
theorem b198_853 {d : Nat} {r0 : Nat} {r1 : Nat} {l2 : Option sm_V} {x3 : Int} {Z : Nat → Nat → Int} {Rf : Nat → Nat → Option Nat} {K : Nat → Nat × Nat} {n z : Nat} {Q : Option sm_V → sm_S → Prop} : sm_wp (d + 1) 198 853 [some (.inr (some r0)), some (.inr (some r1)), l2, some (.inl x3)] [] (Z, Rf, K, n, z) Q = (sm_rd (K r0) (wr (x3 + 1)) ∧ sm_rd (K r0) (wr (x3 + 2)) ∧ sm_rd (K r0) (wr (x3 + 3)) ∧ (K r1).1 = 10 ∧ sm_call d 104 [.inr (some r1), .inl (Z r0 ((wr (x3 + 1)).toNat)), .inl (Z r0 ((wr (x3 + 2)).toNat)), .inl (Z r0 ((wr (x3 + 3)).toNat))] (Z, Rf, K, n, z) (sm_cont (d + 1) 198 872 [some (.inr (some r0)), some (.inr (some r1)), l2, some (.inl x3)] [] Q)) := (w_aload_n t198_853 rfl rfl).trans ((w_aload_n t198_854 rfl rfl).trans ((w_iload_n t198_855 rfl rfl).trans ((w_iconst t198_856 rfl).trans ((w_iadd t198_857 rfl).trans ((w_iald t198_858 rfl rfl).trans (congrArg (And _) ((w_aload_n t198_859 rfl rfl).trans ((w_iload_n t198_860 rfl rfl).trans ((w_iconst t198_861 rfl).trans ((w_iadd t198_862 rfl).trans ((w_iald t198_863 rfl rfl).trans (congrArg (And _) ((w_aload_n t198_864 rfl rfl).trans ((w_iload_n t198_865 rfl rfl).trans ((w_iconst t198_866 rfl).trans ((w_iadd t198_867 rfl).trans ((w_iald t198_868 rfl rfl).trans (congrArg (And _) (w_callV t198_869 rfl rfl rfl rfl (Nat.le_of_ble_eq_true rfl) (Nat.le_of_ble_eq_true rfl) rfl (by decide))))))))))))))))))))
set_option maxRecDepth 10000 in
theorem b198_872 {d : Nat} {r0 : Nat} {l1 : Option sm_V} {r2 : Nat} {x3 : Int} {s0 : Int} {Z : Nat → Nat → Int} {Rf : Nat → Nat → Option Nat} {K : Nat → Nat × Nat} {n z : Nat} {Q : Option sm_V → sm_S → Prop} : sm_wp (d + 1) 198 872 [some (.inr (some r0)), l1, some (.inr (some r2)), some (.inl x3)] [.inl s0] (Z, Rf, K, n, z) Q = (sm_rd (K r0) (wr (x3 + 1)) ∧ sm_rd (K r0) (wr (x3 + 2)) ∧ sm_rd (K r0) (wr (x3 + 3)) ∧ (K r2).1 = 11 ∧ sm_call d 187 [.inr (some r2), .inl (Z r0 ((wr (x3 + 1)).toNat)), .inl (Z r0 ((wr (x3 + 2)).toNat)), .inl (Z r0 ((wr (x3 + 3)).toNat))] (Z, Rf, K, n, z) (sm_cont (d + 1) 198 891 [some (.inr (some r0)), l1, some (.inr (some r2)), some (.inl x3)] [.inl s0] Q)) := (w_aload_n t198_872 rfl rfl).trans ((w_aload_n t198_873 rfl rfl).trans ((w_iload_n t198_874 rfl rfl).trans ((w_iconst t198_875 rfl).trans ((w_iadd t198_876 rfl).trans ((w_iald t198_877 rfl rfl).trans (congrArg (And _) ((w_aload_n t198_878 rfl rfl).trans ((w_iload_n t198_879 rfl rfl).trans ((w_iconst t198_880 rfl).trans ((w_iadd t198_881 rfl).trans ((w_iald t198_882 rfl rfl).trans (congrArg (And _) ((w_aload_n t198_883 rfl rfl).trans ((w_iload_n t198_884 rfl rfl).trans ((w_iconst t198_885 rfl).trans ((w_iadd t198_886 rfl).trans ((w_iald t198_887 rfl rfl).trans (congrArg (And _) (w_callV t198_888 rfl rfl rfl rfl (Nat.le_of_ble_eq_true rfl) (Nat.le_of_ble_eq_true rfl) rfl (by decide))))))))))))))))))))
set_option maxRecDepth 10000 in
theorem b198_891 {d : Nat} {l0 : Option sm_V} {l1 : Option sm_V} {l2 : Option sm_V} {l3 : Option sm_V} {s0 : Int} {s1 : Int} {Z : Nat → Nat → Int} {Rf : Nat → Nat → Option Nat} {K : Nat → Nat × Nat} {n z : Nat} {Q : Option sm_V → sm_S → Prop} : sm_wp d 198 891 [l0, l1, l2, l3] [.inl s1, .inl s0] (Z, Rf, K, n, z) Q = (if wr s0 = wr s1 then sm_wp d 198 1149 [l0, l1, l2, l3] [] (Z, Rf, K, n, z) Q else sm_wp d 198 894 [l0, l1, l2, l3] [] (Z, Rf, K, n, z) Q) := w_iceq t198_891 rfl rfl rfl rfl
set_option maxRecDepth 10000 in
theorem b198_894 {d : Nat} {l0 : Option sm_V} {l1 : Option sm_V} {l2 : Option sm_V} {l3 : Option sm_V} {Z : Nat → Nat → Int} {Rf : Nat → Nat → Option Nat} {K : Nat → Nat × Nat} {n z : Nat} {Q : Option sm_V → sm_S → Prop} : sm_wp d 198 894 [l0, l1, l2, l3] [] (Z, Rf, K, n, z) Q = (((0 : Int) = 0 ∨ (0 : Int) = 1) ∧ Q (some (.inl 0)) (Z, Rf, K, n, z)) := (w_iconst t198_894 rfl).trans (w_zret t198_895 wl_0)
set_option maxRecDepth 10000 in
theorem b198_896 {d : Nat} {r0 : Nat} {r1 : Nat} {l2 : Option sm_V} {x3 : Int} {Z : Nat → Nat → Int} {Rf : Nat → Nat → Option Nat} {K : Nat → Nat × Nat} {n z : Nat} {Q : Option sm_V → sm_S → Prop} : sm_wp (d + 1) 198 896 [some (.inr (some r0)), some (.inr (some r1)), l2, some (.inl x3)] [] (Z, Rf, K, n, z) Q = (sm_rd (K r0) (wr (x3 + 1)) ∧ sm_rd (K r0) (wr (x3 + 2)) ∧ sm_rd (K r0) (wr (x3 + 3)) ∧ (K r1).1 = 10 ∧ sm_call d 105 [.inr (some r1), .inl (Z r0 ((wr (x3 + 1)).toNat)), .inl (Z r0 ((wr (x3 + 2)).toNat)), .inl (Z r0 ((wr (x3 + 3)).toNat))] (Z, Rf, K, n, z) (sm_cont (d + 1) 198 915 [some (.inr (some r0)), some (.inr (some r1)), l2, some (.inl x3)] [] Q)) := (w_aload_n t198_896 rfl rfl).trans ((w_aload_n t198_897 rfl rfl).trans ((w_iload_n t198_898 rfl rfl).trans ((w_iconst t198_899 rfl).trans ((w_iadd t198_900 rfl).trans ((w_iald t198_901 rfl rfl).trans (congrArg (And _) ((w_aload_n t198_902 rfl rfl).trans ((w_iload_n t198_903 rfl rfl).trans ((w_iconst t198_904 rfl).trans ((w_iadd t198_905 rfl).trans ((w_iald t198_906 rfl rfl).trans (congrArg (And _) ((w_aload_n t198_907 rfl rfl).trans ((w_iload_n t198_908 rfl rfl).trans ((w_iconst t198_909 rfl).trans ((w_iadd t198_910 rfl).trans ((w_iald t198_911 rfl rfl).trans (congrArg (And _) (w_callV t198_912 rfl rfl rfl rfl (Nat.le_of_ble_eq_true rfl) (Nat.le_of_ble_eq_true rfl) rfl (by decide))))))))))))))))))))
set_option maxRecDepth 10000 in
theorem b198_915 {d : Nat} {r0 : Nat} {l1 : Option sm_V} {r2 : Nat} {x3 : Int} {s0 : Int} {Z : Nat → Nat → Int} {Rf : Nat → Nat → Option Nat} {K : Nat → Nat × Nat} {n z : Nat} {Q : Option sm_V → sm_S → Prop} : sm_wp (d + 1) 198 915 [some (.inr (some r0)), l1, some (.inr (some r2)), some (.inl x3)] [.inl s0] (Z, Rf, K, n, z) Q = (sm_rd (K r0) (wr (x3 + 1)) ∧ sm_rd (K r0) (wr (x3 + 2)) ∧ sm_rd (K r0) (wr (x3 + 3)) ∧ (K r2).1 = 11 ∧ sm_call d 188 [.inr (some r2), .inl (Z r0 ((wr (x3 + 1)).toNat)), .inl (Z r0 ((wr (x3 + 2)).toNat)), .inl (Z r0 ((wr (x3 + 3)).toNat))] (Z, Rf, K, n, z) (sm_cont (d + 1) 198 934 [some (.inr (some r0)), l1, some (.inr (some r2)), some (.inl x3)] [.inl s0] Q)) := (w_aload_n t198_915 rfl rfl).trans ((w_aload_n t198_916 rfl rfl).trans ((w_iload_n t198_917 rfl rfl).trans ((w_iconst t198_918 rfl).trans ((w_iadd t198_919 rfl).trans ((w_iald t198_920 rfl rfl).trans (congrArg (And _) ((w_aload_n t198_921 rfl rfl).trans ((w_iload_n t198_922 rfl rfl).trans ((w_iconst t198_923 rfl).trans ((w_iadd t198_924 rfl).trans ((w_iald t198_925 rfl rfl).trans (congrArg (And _) ((w_aload_n t198_926 rfl rfl).trans ((w_iload_n t198_927 rfl rfl).trans ((w_iconst t198_928 rfl).trans ((w_iadd t198_929 rfl).trans ((w_iald t198_930 rfl rfl).trans (congrArg (And _) (w_callV t198_931 rfl rfl rfl rfl (Nat.le_of_ble_eq_true rfl) (Nat.le_of_ble_eq_true rfl) rfl (by decide))))))))))))))))))))
set_option maxRecDepth 10000 in
theorem b198_934 {d : Nat} {l0 : Option sm_V} {l1 : Option sm_V} {l2 : Option sm_V} {l3 : Option sm_V} {s0 : Int} {s1 : Int} {Z : Nat → Nat → Int} {Rf : Nat → Nat → Option Nat} {K : Nat → Nat × Nat} {n z : Nat} {Q : Option sm_V → sm_S → Prop} : sm_wp d 198 934 [l0, l1, l2, l3] [.inl s1, .inl s0] (Z, Rf, K, n, z) Q = (if wr s0 = wr s1 then sm_wp d 198 1149 [l0, l1, l2, l3] [] (Z, Rf, K, n, z) Q else sm_wp d 198 937 [l0, l1, l2, l3] [] (Z, Rf, K, n, z) Q) := w_iceq t198_934 rfl rfl rfl rfl
set_option maxRecDepth 10000 in
theorem b198_937 {d : Nat} {l0 : Option sm_V} {l1 : Option sm_V} {l2 : Option sm_V} {l3 : Option sm_V} {Z : Nat → Nat → Int} {Rf : Nat → Nat → Option Nat} {K : Nat → Nat × Nat} {n z : Nat} {Q : Option sm_V → sm_S → Prop} : sm_wp d 198 937 [l0, l1, l2, l3] [] (Z, Rf, K, n, z) Q = (((0 : Int) = 0 ∨ (0 : Int) = 1) ∧ Q (some (.inl 0)) (Z, Rf, K, n, z)) := (w_iconst t198_937 rfl).trans (w_zret t198_938 wl_0)
set_option maxRecDepth 10000 in
theorem b198_939 {d : Nat} {r0 : Nat} {r1 : Nat} {l2 : Option sm_V} {x3 : Int} {Z : Nat → Nat → Int} {Rf : Nat → Nat → Option Nat} {K : Nat → Nat × Nat} {n z : Nat} {Q : Option sm_V → sm_S → Prop} : sm_wp (d + 1) 198 939 [some (.inr (some r0)), some (.inr (some r1)), l2, some (.inl x3)] [] (Z, Rf, K, n, z) Q = (sm_rd (K r0) (wr (x3 + 1)) ∧ sm_rd (K r0) (wr (x3 + 2)) ∧ (K r1).1 = 10 ∧ sm_call d 106 [.inr (some r1), .inl (Z r0 ((wr (x3 + 1)).toNat)), .inl (Z r0 ((wr (x3 + 2)).toNat))] (Z, Rf, K, n, z) (sm_cont (d + 1) 198 953 [some (.inr (some r0)), some (.inr (some r1)), l2, some (.inl x3)] [] Q)) := (w_aload_n t198_939 rfl rfl).trans ((w_aload_n t198_940 rfl rfl).trans ((w_iload_n t198_941 rfl rfl).trans ((w_iconst t198_942 rfl).trans ((w_iadd t198_943 rfl).trans ((w_iald t198_944 rfl rfl).trans (congrArg (And _) ((w_aload_n t198_945 rfl rfl).trans ((w_iload_n t198_946 rfl rfl).trans ((w_iconst t198_947 rfl).trans ((w_iadd t198_948 rfl).trans ((w_iald t198_949 rfl rfl).trans (congrArg (And _) (w_callV t198_950 rfl rfl rfl rfl (Nat.le_of_ble_eq_true rfl) (Nat.le_of_ble_eq_true rfl) rfl (by decide))))))))))))))
set_option maxRecDepth 10000 in
theorem b198_953 {d : Nat} {r0 : Nat} {l1 : Option sm_V} {r2 : Nat} {x3 : Int} {s0 : Int} {Z : Nat → Nat → Int} {Rf : Nat → Nat → Option Nat} {K : Nat → Nat × Nat} {n z : Nat} {Q : Option sm_V → sm_S → Prop} : sm_wp (d + 1) 198 953 [some (.inr (some r0)), l1, some (.inr (some r2)), some (.inl x3)] [.inl s0] (Z, Rf, K, n, z) Q = (sm_rd (K r0) (wr (x3 + 1)) ∧ sm_rd (K r0) (wr (x3 + 2)) ∧ (K r2).1 = 11 ∧ sm_call d 190 [.inr (some r2), .inl (Z r0 ((wr (x3 + 1)).toNat)), .inl (Z r0 ((wr (x3 + 2)).toNat))] (Z, Rf, K, n, z) (sm_cont (d + 1) 198 967 [some (.inr (some r0)), l1, some (.inr (some r2)), some (.inl x3)] [.inl s0] Q)) := (w_aload_n t198_953 rfl rfl).trans ((w_aload_n t198_954 rfl rfl).trans ((w_iload_n t198_955 rfl rfl).trans ((w_iconst t198_956 rfl).trans ((w_iadd t198_957 rfl).trans ((w_iald t198_958 rfl rfl).trans (congrArg (And _) ((w_aload_n t198_959 rfl rfl).trans ((w_iload_n t198_960 rfl rfl).trans ((w_iconst t198_961 rfl).trans ((w_iadd t198_962 rfl).trans ((w_iald t198_963 rfl rfl).trans (congrArg (And _) (w_callV t198_964 rfl rfl rfl rfl (Nat.le_of_ble_eq_true rfl) (Nat.le_of_ble_eq_true rfl) rfl (by decide))))))))))))))
set_option maxRecDepth 10000 in
theorem b198_967 {d : Nat} {l0 : Option sm_V} {l1 : Option sm_V} {l2 : Option sm_V} {l3 : Option sm_V} {s0 : Int} {s1 : Int} {Z : Nat → Nat → Int} {Rf : Nat → Nat → Option Nat} {K : Nat → Nat × Nat} {n z : Nat} {Q : Option sm_V → sm_S → Prop} : sm_wp d 198 967 [l0, l1, l2, l3] [.inl s1, .inl s0] (Z, Rf, K, n, z) Q = (if wr s0 = wr s1 then sm_wp d 198 1149 [l0, l1, l2, l3] [] (Z, Rf, K, n, z) Q else sm_wp d 198 970 [l0, l1, l2, l3] [] (Z, Rf, K, n, z) Q) := w_iceq t198_967 rfl rfl rfl rfl
set_option maxRecDepth 10000 in
theorem b198_970 {d : Nat} {l0 : Option sm_V} {l1 : Option sm_V} {l2 : Option sm_V} {l3 : Option sm_V} {Z : Nat → Nat → Int} {Rf : Nat → Nat → Option Nat} {K : Nat → Nat × Nat} {n z : Nat} {Q : Option sm_V → sm_S → Prop} : sm_wp d 198 970 [l0, l1, l2, l3] [] (Z, Rf, K, n, z) Q = (((0 : Int) = 0 ∨ (0 : Int) = 1) ∧ Q (some (.inl 0)) (Z, Rf, K, n, z)) := (w_iconst t198_970 rfl).trans (w_zret t198_971 wl_0)
set_option maxRecDepth 10000 in
theorem b198_972 {d : Nat} {r0 : Nat} {q1 : Option Nat} {l2 : Option sm_V} {x3 : Int} {Z : Nat → Nat → Int} {Rf : Nat → Nat → Option Nat} {K : Nat → Nat × Nat} {n z : Nat} {Q : Option sm_V → sm_S → Prop} : sm_wp d 198 972 [some (.inr (some r0)), some (.inr q1), l2, some (.inl x3)] [] (Z, Rf, K, n, z) Q = (sm_rd (K r0) (wr (x3 + 1)) ∧ sm_rd (K r0) (wr (x3 + 2)) ∧ sm_rd (K r0) (wr (x3 + 3)) ∧ (if wr (Z r0 ((wr (x3 + 3)).toNat)) = 0 then sm_wp d 198 995 [some (.inr (some r0)), some (.inr q1), l2, some (.inl x3)] [.inl (Z r0 ((wr (x3 + 2)).toNat)), .inl (Z r0 ((wr (x3 + 1)).toNat)), .inr q1] (Z, Rf, K, n, z) Q else sm_wp d 198 991 [some (.inr (some r0)), some (.inr q1), l2, some (.inl x3)] [.inl (Z r0 ((wr (x3 + 2)).toNat)), .inl (Z r0 ((wr (x3 + 1)).toNat)), .inr q1] (Z, Rf, K, n, z) Q)) := (w_aload_n t198_972 rfl rfl).trans ((w_aload_n t198_973 rfl rfl).trans ((w_iload_n t198_974 rfl rfl).trans ((w_iconst t198_975 rfl).trans ((w_iadd t198_976 rfl).trans ((w_iald t198_977 rfl rfl).trans (congrArg (And _) ((w_aload_n t198_978 rfl rfl).trans ((w_iload_n t198_979 rfl rfl).trans ((w_iconst t198_980 rfl).trans ((w_iadd t198_981 rfl).trans ((w_iald t198_982 rfl rfl).trans (congrArg (And _) ((w_aload_n t198_983 rfl rfl).trans ((w_iload_n t198_984 rfl rfl).trans ((w_iconst t198_985 rfl).trans ((w_iadd t198_986 rfl).trans ((w_iald t198_987 rfl rfl).trans (congrArg (And _) (w_ifeq t198_988 rfl rfl rfl)))))))))))))))))))
set_option maxRecDepth 10000 in
theorem b198_991 {d : Nat} {l0 : Option sm_V} {l1 : Option sm_V} {l2 : Option sm_V} {l3 : Option sm_V} {qs0 : Option Nat} {s1 : Int} {s2 : Int} {Z : Nat → Nat → Int} {Rf : Nat → Nat → Option Nat} {K : Nat → Nat × Nat} {n z : Nat} {Q : Option sm_V → sm_S → Prop} : sm_wp d 198 991 [l0, l1, l2, l3] [.inl s2, .inl s1, .inr qs0] (Z, Rf, K, n, z) Q = (sm_wp d 198 996 [l0, l1, l2, l3] [.inl 1, .inl s2, .inl s1, .inr qs0] (Z, Rf, K, n, z) Q) := (w_iconst t198_991 rfl).trans (w_goto t198_992 rfl)
set_option maxRecDepth 10000 in
theorem b198_995 {d : Nat} {l0 : Option sm_V} {l1 : Option sm_V} {l2 : Option sm_V} {l3 : Option sm_V} {qs0 : Option Nat} {s1 : Int} {s2 : Int} {Z : Nat → Nat → Int} {Rf : Nat → Nat → Option Nat} {K : Nat → Nat × Nat} {n z : Nat} {Q : Option sm_V → sm_S → Prop} : sm_wp d 198 995 [l0, l1, l2, l3] [.inl s2, .inl s1, .inr qs0] (Z, Rf, K, n, z) Q = (sm_wp d 198 996 [l0, l1, l2, l3] [.inl 0, .inl s2, .inl s1, .inr qs0] (Z, Rf, K, n, z) Q) := w_iconst t198_995 rfl
set_option maxRecDepth 10000 in
theorem b198_996 {d : Nat} {l0 : Option sm_V} {l1 : Option sm_V} {l2 : Option sm_V} {l3 : Option sm_V} {rs0 : Nat} {s1 : Int} {s2 : Int} {s3 : Int} {Z : Nat → Nat → Int} {Rf : Nat → Nat → Option Nat} {K : Nat → Nat × Nat} {n z : Nat} {Q : Option sm_V → sm_S → Prop} : sm_wp (d + 1) 198 996 [l0, l1, l2, l3] [.inl s3, .inl s2, .inl s1, .inr (some rs0)] (Z, Rf, K, n, z) Q = ((K rs0).1 = 10 ∧ sm_call d 107 [.inr (some rs0), .inl s1, .inl s2, .inl s3] (Z, Rf, K, n, z) (sm_cont (d + 1) 198 999 [l0, l1, l2, l3] [] Q)) := w_callV t198_996 rfl rfl rfl rfl (Nat.le_of_ble_eq_true rfl) (Nat.le_of_ble_eq_true rfl) rfl (by decide)
set_option maxRecDepth 10000 in
theorem b198_999 {d : Nat} {r0 : Nat} {l1 : Option sm_V} {q2 : Option Nat} {x3 : Int} {s0 : Int} {Z : Nat → Nat → Int} {Rf : Nat → Nat → Option Nat} {K : Nat → Nat × Nat} {n z : Nat} {Q : Option sm_V → sm_S → Prop} : sm_wp d 198 999 [some (.inr (some r0)), l1, some (.inr q2), some (.inl x3)] [.inl s0] (Z, Rf, K, n, z) Q = (sm_rd (K r0) (wr (x3 + 1)) ∧ sm_rd (K r0) (wr (x3 + 2)) ∧ sm_rd (K r0) (wr (x3 + 3)) ∧ (if wr (Z r0 ((wr (x3 + 3)).toNat)) = 0 then sm_wp d 198 1022 [some (.inr (some r0)), l1, some (.inr q2), some (.inl x3)] [.inl (Z r0 ((wr (x3 + 2)).toNat)), .inl (Z r0 ((wr (x3 + 1)).toNat)), .inr q2, .inl s0] (Z, Rf, K, n, z) Q else sm_wp d 198 1018 [some (.inr (some r0)), l1, some (.inr q2), some (.inl x3)] [.inl (Z r0 ((wr (x3 + 2)).toNat)), .inl (Z r0 ((wr (x3 + 1)).toNat)), .inr q2, .inl s0] (Z, Rf, K, n, z) Q)) := (w_aload_n t198_999 rfl rfl).trans ((w_aload_n t198_1000 rfl rfl).trans ((w_iload_n t198_1001 rfl rfl).trans ((w_iconst t198_1002 rfl).trans ((w_iadd t198_1003 rfl).trans ((w_iald t198_1004 rfl rfl).trans (congrArg (And _) ((w_aload_n t198_1005 rfl rfl).trans ((w_iload_n t198_1006 rfl rfl).trans ((w_iconst t198_1007 rfl).trans ((w_iadd t198_1008 rfl).trans ((w_iald t198_1009 rfl rfl).trans (congrArg (And _) ((w_aload_n t198_1010 rfl rfl).trans ((w_iload_n t198_1011 rfl rfl).trans ((w_iconst t198_1012 rfl).trans ((w_iadd t198_1013 rfl).trans ((w_iald t198_1014 rfl rfl).trans (congrArg (And _) (w_ifeq t198_1015 rfl rfl rfl)))))))))))))))))))
set_option maxRecDepth 10000 in
theorem b198_1018 {d : Nat} {l0 : Option sm_V} {l1 : Option sm_V} {l2 : Option sm_V} {l3 : Option sm_V} {s0 : Int} {qs1 : Option Nat} {s2 : Int} {s3 : Int} {Z : Nat → Nat → Int} {Rf : Nat → Nat → Option Nat} {K : Nat → Nat × Nat} {n z : Nat} {Q : Option sm_V → sm_S → Prop} : sm_wp d 198 1018 [l0, l1, l2, l3] [.inl s3, .inl s2, .inr qs1, .inl s0] (Z, Rf, K, n, z) Q = (sm_wp d 198 1023 [l0, l1, l2, l3] [.inl 1, .inl s3, .inl s2, .inr qs1, .inl s0] (Z, Rf, K, n, z) Q) := (w_iconst t198_1018 rfl).trans (w_goto t198_1019 rfl)
set_option maxRecDepth 10000 in
theorem b198_1022 {d : Nat} {l0 : Option sm_V} {l1 : Option sm_V} {l2 : Option sm_V} {l3 : Option sm_V} {s0 : Int} {qs1 : Option Nat} {s2 : Int} {s3 : Int} {Z : Nat → Nat → Int} {Rf : Nat → Nat → Option Nat} {K : Nat → Nat × Nat} {n z : Nat} {Q : Option sm_V → sm_S → Prop} : sm_wp d 198 1022 [l0, l1, l2, l3] [.inl s3, .inl s2, .inr qs1, .inl s0] (Z, Rf, K, n, z) Q = (sm_wp d 198 1023 [l0, l1, l2, l3] [.inl 0, .inl s3, .inl s2, .inr qs1, .inl s0] (Z, Rf, K, n, z) Q) := w_iconst t198_1022 rfl
set_option maxRecDepth 10000 in
theorem b198_1023 {d : Nat} {l0 : Option sm_V} {l1 : Option sm_V} {l2 : Option sm_V} {l3 : Option sm_V} {s0 : Int} {rs1 : Nat} {s2 : Int} {s3 : Int} {s4 : Int} {Z : Nat → Nat → Int} {Rf : Nat → Nat → Option Nat} {K : Nat → Nat × Nat} {n z : Nat} {Q : Option sm_V → sm_S → Prop} : sm_wp (d + 1) 198 1023 [l0, l1, l2, l3] [.inl s4, .inl s3, .inl s2, .inr (some rs1), .inl s0] (Z, Rf, K, n, z) Q = ((K rs1).1 = 11 ∧ sm_call d 191 [.inr (some rs1), .inl s2, .inl s3, .inl s4] (Z, Rf, K, n, z) (sm_cont (d + 1) 198 1026 [l0, l1, l2, l3] [.inl s0] Q)) := w_callV t198_1023 rfl rfl rfl rfl (Nat.le_of_ble_eq_true rfl) (Nat.le_of_ble_eq_true rfl) rfl (by decide)
set_option maxRecDepth 10000 in
theorem b198_1026 {d : Nat} {l0 : Option sm_V} {l1 : Option sm_V} {l2 : Option sm_V} {l3 : Option sm_V} {s0 : Int} {s1 : Int} {Z : Nat → Nat → Int} {Rf : Nat → Nat → Option Nat} {K : Nat → Nat × Nat} {n z : Nat} {Q : Option sm_V → sm_S → Prop} : sm_wp d 198 1026 [l0, l1, l2, l3] [.inl s1, .inl s0] (Z, Rf, K, n, z) Q = (if wr s0 = wr s1 then sm_wp d 198 1149 [l0, l1, l2, l3] [] (Z, Rf, K, n, z) Q else sm_wp d 198 1029 [l0, l1, l2, l3] [] (Z, Rf, K, n, z) Q) := w_iceq t198_1026 rfl rfl rfl rfl
set_option maxRecDepth 10000 in
theorem b198_1029 {d : Nat} {l0 : Option sm_V} {l1 : Option sm_V} {l2 : Option sm_V} {l3 : Option sm_V} {Z : Nat → Nat → Int} {Rf : Nat → Nat → Option Nat} {K : Nat → Nat × Nat} {n z : Nat} {Q : Option sm_V → sm_S → Prop} : sm_wp d 198 1029 [l0, l1, l2, l3] [] (Z, Rf, K, n, z) Q = (((0 : Int) = 0 ∨ (0 : Int) = 1) ∧ Q (some (.inl 0)) (Z, Rf, K, n, z)) := (w_iconst t198_1029 rfl).trans (w_zret t198_1030 wl_0)
set_option maxRecDepth 10000 in
theorem b198_1031 {d : Nat} {r0 : Nat} {r1 : Nat} {l2 : Option sm_V} {x3 : Int} {Z : Nat → Nat → Int} {Rf : Nat → Nat → Option Nat} {K : Nat → Nat × Nat} {n z : Nat} {Q : Option sm_V → sm_S → Prop} : sm_wp (d + 1) 198 1031 [some (.inr (some r0)), some (.inr (some r1)), l2, some (.inl x3)] [] (Z, Rf, K, n, z) Q = (sm_rd (K r0) (wr (x3 + 1)) ∧ (K r1).1 = 10 ∧ sm_call d 108 [.inr (some r1), .inl (Z r0 ((wr (x3 + 1)).toNat))] (Z, Rf, K, n, z) (sm_cont (d + 1) 198 1040 [some (.inr (some r0)), some (.inr (some r1)), l2, some (.inl x3)] [] Q)) := (w_aload_n t198_1031 rfl rfl).trans ((w_aload_n t198_1032 rfl rfl).trans ((w_iload_n t198_1033 rfl rfl).trans ((w_iconst t198_1034 rfl).trans ((w_iadd t198_1035 rfl).trans ((w_iald t198_1036 rfl rfl).trans (congrArg (And _) (w_callV t198_1037 rfl rfl rfl rfl (Nat.le_of_ble_eq_true rfl) (Nat.le_of_ble_eq_true rfl) rfl (by decide))))))))
set_option maxRecDepth 10000 in
theorem b198_1040 {d : Nat} {r0 : Nat} {l1 : Option sm_V} {r2 : Nat} {x3 : Int} {s0 : Int} {Z : Nat → Nat → Int} {Rf : Nat → Nat → Option Nat} {K : Nat → Nat × Nat} {n z : Nat} {Q : Option sm_V → sm_S → Prop} : sm_wp (d + 1) 198 1040 [some (.inr (some r0)), l1, some (.inr (some r2)), some (.inl x3)] [.inl s0] (Z, Rf, K, n, z) Q = (sm_rd (K r0) (wr (x3 + 1)) ∧ (K r2).1 = 11 ∧ sm_call d 192 [.inr (some r2), .inl (Z r0 ((wr (x3 + 1)).toNat))] (Z, Rf, K, n, z) (sm_cont (d + 1) 198 1049 [some (.inr (some r0)), l1, some (.inr (some r2)), some (.inl x3)] [.inl s0] Q)) := (w_aload_n t198_1040 rfl rfl).trans ((w_aload_n t198_1041 rfl rfl).trans ((w_iload_n t198_1042 rfl rfl).trans ((w_iconst t198_1043 rfl).trans ((w_iadd t198_1044 rfl).trans ((w_iald t198_1045 rfl rfl).trans (congrArg (And _) (w_callV t198_1046 rfl rfl rfl rfl (Nat.le_of_ble_eq_true rfl) (Nat.le_of_ble_eq_true rfl) rfl (by decide))))))))
set_option maxRecDepth 10000 in
theorem b198_1049 {d : Nat} {l0 : Option sm_V} {l1 : Option sm_V} {l2 : Option sm_V} {l3 : Option sm_V} {s0 : Int} {s1 : Int} {Z : Nat → Nat → Int} {Rf : Nat → Nat → Option Nat} {K : Nat → Nat × Nat} {n z : Nat} {Q : Option sm_V → sm_S → Prop} : sm_wp d 198 1049 [l0, l1, l2, l3] [.inl s1, .inl s0] (Z, Rf, K, n, z) Q = (if wr s0 = wr s1 then sm_wp d 198 1149 [l0, l1, l2, l3] [] (Z, Rf, K, n, z) Q else sm_wp d 198 1052 [l0, l1, l2, l3] [] (Z, Rf, K, n, z) Q) := w_iceq t198_1049 rfl rfl rfl rfl
set_option maxRecDepth 10000 in
theorem b198_1052 {d : Nat} {l0 : Option sm_V} {l1 : Option sm_V} {l2 : Option sm_V} {l3 : Option sm_V} {Z : Nat → Nat → Int} {Rf : Nat → Nat → Option Nat} {K : Nat → Nat × Nat} {n z : Nat} {Q : Option sm_V → sm_S → Prop} : sm_wp d 198 1052 [l0, l1, l2, l3] [] (Z, Rf, K, n, z) Q = (((0 : Int) = 0 ∨ (0 : Int) = 1) ∧ Q (some (.inl 0)) (Z, Rf, K, n, z)) := (w_iconst t198_1052 rfl).trans (w_zret t198_1053 wl_0)
set_option maxRecDepth 10000 in
theorem b198_1054 {d : Nat} {r0 : Nat} {r1 : Nat} {l2 : Option sm_V} {x3 : Int} {Z : Nat → Nat → Int} {Rf : Nat → Nat → Option Nat} {K : Nat → Nat × Nat} {n z : Nat} {Q : Option sm_V → sm_S → Prop} : sm_wp (d + 1) 198 1054 [some (.inr (some r0)), some (.inr (some r1)), l2, some (.inl x3)] [] (Z, Rf, K, n, z) Q = (sm_rd (K r0) (wr (x3 + 1)) ∧ sm_rd (K r0) (wr (x3 + 2)) ∧ (K r1).1 = 10 ∧ sm_call d 109 [.inr (some r1), .inl (Z r0 ((wr (x3 + 1)).toNat)), .inl (Z r0 ((wr (x3 + 2)).toNat))] (Z, Rf, K, n, z) (sm_cont (d + 1) 198 1068 [some (.inr (some r0)), some (.inr (some r1)), l2, some (.inl x3)] [] Q)) := (w_aload_n t198_1054 rfl rfl).trans ((w_aload_n t198_1055 rfl rfl).trans ((w_iload_n t198_1056 rfl rfl).trans ((w_iconst t198_1057 rfl).trans ((w_iadd t198_1058 rfl).trans ((w_iald t198_1059 rfl rfl).trans (congrArg (And _) ((w_aload_n t198_1060 rfl rfl).trans ((w_iload_n t198_1061 rfl rfl).trans ((w_iconst t198_1062 rfl).trans ((w_iadd t198_1063 rfl).trans ((w_iald t198_1064 rfl rfl).trans (congrArg (And _) (w_callV t198_1065 rfl rfl rfl rfl (Nat.le_of_ble_eq_true rfl) (Nat.le_of_ble_eq_true rfl) rfl (by decide))))))))))))))
set_option maxRecDepth 10000 in
theorem b198_1068 {d : Nat} {r0 : Nat} {l1 : Option sm_V} {r2 : Nat} {x3 : Int} {s0 : Int} {Z : Nat → Nat → Int} {Rf : Nat → Nat → Option Nat} {K : Nat → Nat × Nat} {n z : Nat} {Q : Option sm_V → sm_S → Prop} : sm_wp (d + 1) 198 1068 [some (.inr (some r0)), l1, some (.inr (some r2)), some (.inl x3)] [.inl s0] (Z, Rf, K, n, z) Q = (sm_rd (K r0) (wr (x3 + 1)) ∧ sm_rd (K r0) (wr (x3 + 2)) ∧ (K r2).1 = 11 ∧ sm_call d 194 [.inr (some r2), .inl (Z r0 ((wr (x3 + 1)).toNat)), .inl (Z r0 ((wr (x3 + 2)).toNat))] (Z, Rf, K, n, z) (sm_cont (d + 1) 198 1082 [some (.inr (some r0)), l1, some (.inr (some r2)), some (.inl x3)] [.inl s0] Q)) := (w_aload_n t198_1068 rfl rfl).trans ((w_aload_n t198_1069 rfl rfl).trans ((w_iload_n t198_1070 rfl rfl).trans ((w_iconst t198_1071 rfl).trans ((w_iadd t198_1072 rfl).trans ((w_iald t198_1073 rfl rfl).trans (congrArg (And _) ((w_aload_n t198_1074 rfl rfl).trans ((w_iload_n t198_1075 rfl rfl).trans ((w_iconst t198_1076 rfl).trans ((w_iadd t198_1077 rfl).trans ((w_iald t198_1078 rfl rfl).trans (congrArg (And _) (w_callV t198_1079 rfl rfl rfl rfl (Nat.le_of_ble_eq_true rfl) (Nat.le_of_ble_eq_true rfl) rfl (by decide))))))))))))))
set_option maxRecDepth 10000 in
theorem b198_1082 {d : Nat} {l0 : Option sm_V} {l1 : Option sm_V} {l2 : Option sm_V} {l3 : Option sm_V} {s0 : Int} {s1 : Int} {Z : Nat → Nat → Int} {Rf : Nat → Nat → Option Nat} {K : Nat → Nat × Nat} {n z : Nat} {Q : Option sm_V → sm_S → Prop} : sm_wp d 198 1082 [l0, l1, l2, l3] [.inl s1, .inl s0] (Z, Rf, K, n, z) Q = (if wr s0 = wr s1 then sm_wp d 198 1149 [l0, l1, l2, l3] [] (Z, Rf, K, n, z) Q else sm_wp d 198 1085 [l0, l1, l2, l3] [] (Z, Rf, K, n, z) Q) := w_iceq t198_1082 rfl rfl rfl rfl
set_option maxRecDepth 10000 in
theorem b198_1085 {d : Nat} {l0 : Option sm_V} {l1 : Option sm_V} {l2 : Option sm_V} {l3 : Option sm_V} {Z : Nat → Nat → Int} {Rf : Nat → Nat → Option Nat} {K : Nat → Nat × Nat} {n z : Nat} {Q : Option sm_V → sm_S → Prop} : sm_wp d 198 1085 [l0, l1, l2, l3] [] (Z, Rf, K, n, z) Q = (((0 : Int) = 0 ∨ (0 : Int) = 1) ∧ Q (some (.inl 0)) (Z, Rf, K, n, z)) := (w_iconst t198_1085 rfl).trans (w_zret t198_1086 wl_0)
set_option maxRecDepth 10000 in
theorem b198_1087 {d : Nat} {r0 : Nat} {q1 : Option Nat} {l2 : Option sm_V} {x3 : Int} {Z : Nat → Nat → Int} {Rf : Nat → Nat → Option Nat} {K : Nat → Nat × Nat} {n z : Nat} {Q : Option sm_V → sm_S → Prop} : sm_wp d 198 1087 [some (.inr (some r0)), some (.inr q1), l2, some (.inl x3)] [] (Z, Rf, K, n, z) Q = (sm_rd (K r0) (wr (x3 + 1)) ∧ (if wr (Z r0 ((wr (x3 + 1)).toNat)) = 0 then sm_wp d 198 1100 [some (.inr (some r0)), some (.inr q1), l2, some (.inl x3)] [.inr q1] (Z, Rf, K, n, z) Q else sm_wp d 198 1096 [some (.inr (some r0)), some (.inr q1), l2, some (.inl x3)] [.inr q1] (Z, Rf, K, n, z) Q)) := (w_aload_n t198_1087 rfl rfl).trans ((w_aload_n t198_1088 rfl rfl).trans ((w_iload_n t198_1089 rfl rfl).trans ((w_iconst t198_1090 rfl).trans ((w_iadd t198_1091 rfl).trans ((w_iald t198_1092 rfl rfl).trans (congrArg (And _) (w_ifeq t198_1093 rfl rfl rfl)))))))
set_option maxRecDepth 10000 in
theorem b198_1096 {d : Nat} {l0 : Option sm_V} {l1 : Option sm_V} {l2 : Option sm_V} {l3 : Option sm_V} {qs0 : Option Nat} {Z : Nat → Nat → Int} {Rf : Nat → Nat → Option Nat} {K : Nat → Nat × Nat} {n z : Nat} {Q : Option sm_V → sm_S → Prop} : sm_wp d 198 1096 [l0, l1, l2, l3] [.inr qs0] (Z, Rf, K, n, z) Q = (sm_wp d 198 1101 [l0, l1, l2, l3] [.inl 1, .inr qs0] (Z, Rf, K, n, z) Q) := (w_iconst t198_1096 rfl).trans (w_goto t198_1097 rfl)
set_option maxRecDepth 10000 in
theorem b198_1100 {d : Nat} {l0 : Option sm_V} {l1 : Option sm_V} {l2 : Option sm_V} {l3 : Option sm_V} {qs0 : Option Nat} {Z : Nat → Nat → Int} {Rf : Nat → Nat → Option Nat} {K : Nat → Nat × Nat} {n z : Nat} {Q : Option sm_V → sm_S → Prop} : sm_wp d 198 1100 [l0, l1, l2, l3] [.inr qs0] (Z, Rf, K, n, z) Q = (sm_wp d 198 1101 [l0, l1, l2, l3] [.inl 0, .inr qs0] (Z, Rf, K, n, z) Q) := w_iconst t198_1100 rfl
set_option maxRecDepth 10000 in
theorem b198_1101 {d : Nat} {l0 : Option sm_V} {l1 : Option sm_V} {l2 : Option sm_V} {l3 : Option sm_V} {rs0 : Nat} {s1 : Int} {Z : Nat → Nat → Int} {Rf : Nat → Nat → Option Nat} {K : Nat → Nat × Nat} {n z : Nat} {Q : Option sm_V → sm_S → Prop} : sm_wp (d + 1) 198 1101 [l0, l1, l2, l3] [.inl s1, .inr (some rs0)] (Z, Rf, K, n, z) Q = ((K rs0).1 = 10 ∧ sm_call d 110 [.inr (some rs0), .inl s1] (Z, Rf, K, n, z) (sm_cont (d + 1) 198 1104 [l0, l1, l2, l3] [] Q)) := w_callV t198_1101 rfl rfl rfl rfl (Nat.le_of_ble_eq_true rfl) (Nat.le_of_ble_eq_true rfl) rfl (by decide)
set_option maxRecDepth 10000 in
theorem b198_1104 {d : Nat} {r0 : Nat} {l1 : Option sm_V} {q2 : Option Nat} {x3 : Int} {s0 : Int} {Z : Nat → Nat → Int} {Rf : Nat → Nat → Option Nat} {K : Nat → Nat × Nat} {n z : Nat} {Q : Option sm_V → sm_S → Prop} : sm_wp d 198 1104 [some (.inr (some r0)), l1, some (.inr q2), some (.inl x3)] [.inl s0] (Z, Rf, K, n, z) Q = (sm_rd (K r0) (wr (x3 + 1)) ∧ (if wr (Z r0 ((wr (x3 + 1)).toNat)) = 0 then sm_wp d 198 1117 [some (.inr (some r0)), l1, some (.inr q2), some (.inl x3)] [.inr q2, .inl s0] (Z, Rf, K, n, z) Q else sm_wp d 198 1113 [some (.inr (some r0)), l1, some (.inr q2), some (.inl x3)] [.inr q2, .inl s0] (Z, Rf, K, n, z) Q)) := (w_aload_n t198_1104 rfl rfl).trans ((w_aload_n t198_1105 rfl rfl).trans ((w_iload_n t198_1106 rfl rfl).trans ((w_iconst t198_1107 rfl).trans ((w_iadd t198_1108 rfl).trans ((w_iald t198_1109 rfl rfl).trans (congrArg (And _) (w_ifeq t198_1110 rfl rfl rfl)))))))
set_option maxRecDepth 10000 in
theorem b198_1113 {d : Nat} {l0 : Option sm_V} {l1 : Option sm_V} {l2 : Option sm_V} {l3 : Option sm_V} {s0 : Int} {qs1 : Option Nat} {Z : Nat → Nat → Int} {Rf : Nat → Nat → Option Nat} {K : Nat → Nat × Nat} {n z : Nat} {Q : Option sm_V → sm_S → Prop} : sm_wp d 198 1113 [l0, l1, l2, l3] [.inr qs1, .inl s0] (Z, Rf, K, n, z) Q = (sm_wp d 198 1118 [l0, l1, l2, l3] [.inl 1, .inr qs1, .inl s0] (Z, Rf, K, n, z) Q) := (w_iconst t198_1113 rfl).trans (w_goto t198_1114 rfl)
set_option maxRecDepth 10000 in
theorem b198_1117 {d : Nat} {l0 : Option sm_V} {l1 : Option sm_V} {l2 : Option sm_V} {l3 : Option sm_V} {s0 : Int} {qs1 : Option Nat} {Z : Nat → Nat → Int} {Rf : Nat → Nat → Option Nat} {K : Nat → Nat × Nat} {n z : Nat} {Q : Option sm_V → sm_S → Prop} : sm_wp d 198 1117 [l0, l1, l2, l3] [.inr qs1, .inl s0] (Z, Rf, K, n, z) Q = (sm_wp d 198 1118 [l0, l1, l2, l3] [.inl 0, .inr qs1, .inl s0] (Z, Rf, K, n, z) Q) := w_iconst t198_1117 rfl
set_option maxRecDepth 10000 in
theorem b198_1118 {d : Nat} {l0 : Option sm_V} {l1 : Option sm_V} {l2 : Option sm_V} {l3 : Option sm_V} {s0 : Int} {rs1 : Nat} {s2 : Int} {Z : Nat → Nat → Int} {Rf : Nat → Nat → Option Nat} {K : Nat → Nat × Nat} {n z : Nat} {Q : Option sm_V → sm_S → Prop} : sm_wp (d + 1) 198 1118 [l0, l1, l2, l3] [.inl s2, .inr (some rs1), .inl s0] (Z, Rf, K, n, z) Q = ((K rs1).1 = 11 ∧ sm_call d 195 [.inr (some rs1), .inl s2] (Z, Rf, K, n, z) (sm_cont (d + 1) 198 1121 [l0, l1, l2, l3] [.inl s0] Q)) := w_callV t198_1118 rfl rfl rfl rfl (Nat.le_of_ble_eq_true rfl) (Nat.le_of_ble_eq_true rfl) rfl (by decide)
set_option maxRecDepth 10000 in
theorem b198_1121 {d : Nat} {l0 : Option sm_V} {l1 : Option sm_V} {l2 : Option sm_V} {l3 : Option sm_V} {s0 : Int} {s1 : Int} {Z : Nat → Nat → Int} {Rf : Nat → Nat → Option Nat} {K : Nat → Nat × Nat} {n z : Nat} {Q : Option sm_V → sm_S → Prop} : sm_wp d 198 1121 [l0, l1, l2, l3] [.inl s1, .inl s0] (Z, Rf, K, n, z) Q = (if wr s0 = wr s1 then sm_wp d 198 1149 [l0, l1, l2, l3] [] (Z, Rf, K, n, z) Q else sm_wp d 198 1124 [l0, l1, l2, l3] [] (Z, Rf, K, n, z) Q) := w_iceq t198_1121 rfl rfl rfl rfl
set_option maxRecDepth 10000 in
theorem b198_1124 {d : Nat} {l0 : Option sm_V} {l1 : Option sm_V} {l2 : Option sm_V} {l3 : Option sm_V} {Z : Nat → Nat → Int} {Rf : Nat → Nat → Option Nat} {K : Nat → Nat × Nat} {n z : Nat} {Q : Option sm_V → sm_S → Prop} : sm_wp d 198 1124 [l0, l1, l2, l3] [] (Z, Rf, K, n, z) Q = (((0 : Int) = 0 ∨ (0 : Int) = 1) ∧ Q (some (.inl 0)) (Z, Rf, K, n, z)) := (w_iconst t198_1124 rfl).trans (w_zret t198_1125 wl_0)
set_option maxRecDepth 10000 in
theorem b198_1126 {d : Nat} {r0 : Nat} {r1 : Nat} {l2 : Option sm_V} {x3 : Int} {Z : Nat → Nat → Int} {Rf : Nat → Nat → Option Nat} {K : Nat → Nat × Nat} {n z : Nat} {Q : Option sm_V → sm_S → Prop} : sm_wp (d + 1) 198 1126 [some (.inr (some r0)), some (.inr (some r1)), l2, some (.inl x3)] [] (Z, Rf, K, n, z) Q = (sm_rd (K r0) (wr (x3 + 1)) ∧ (K r1).1 = 10 ∧ sm_call d 111 [.inr (some r1), .inl (Z r0 ((wr (x3 + 1)).toNat))] (Z, Rf, K, n, z) (sm_cont (d + 1) 198 1135 [some (.inr (some r0)), some (.inr (some r1)), l2, some (.inl x3)] [] Q)) := (w_aload_n t198_1126 rfl rfl).trans ((w_aload_n t198_1127 rfl rfl).trans ((w_iload_n t198_1128 rfl rfl).trans ((w_iconst t198_1129 rfl).trans ((w_iadd t198_1130 rfl).trans ((w_iald t198_1131 rfl rfl).trans (congrArg (And _) (w_callV t198_1132 rfl rfl rfl rfl (Nat.le_of_ble_eq_true rfl) (Nat.le_of_ble_eq_true rfl) rfl (by decide))))))))
set_option maxRecDepth 10000 in
theorem b198_1135 {d : Nat} {r0 : Nat} {l1 : Option sm_V} {r2 : Nat} {x3 : Int} {s0 : Int} {Z : Nat → Nat → Int} {Rf : Nat → Nat → Option Nat} {K : Nat → Nat × Nat} {n z : Nat} {Q : Option sm_V → sm_S → Prop} : sm_wp (d + 1) 198 1135 [some (.inr (some r0)), l1, some (.inr (some r2)), some (.inl x3)] [.inl s0] (Z, Rf, K, n, z) Q = (sm_rd (K r0) (wr (x3 + 1)) ∧ (K r2).1 = 11 ∧ sm_call d 196 [.inr (some r2), .inl (Z r0 ((wr (x3 + 1)).toNat))] (Z, Rf, K, n, z) (sm_cont (d + 1) 198 1144 [some (.inr (some r0)), l1, some (.inr (some r2)), some (.inl x3)] [.inl s0] Q)) := (w_aload_n t198_1135 rfl rfl).trans ((w_aload_n t198_1136 rfl rfl).trans ((w_iload_n t198_1137 rfl rfl).trans ((w_iconst t198_1138 rfl).trans ((w_iadd t198_1139 rfl).trans ((w_iald t198_1140 rfl rfl).trans (congrArg (And _) (w_callV t198_1141 rfl rfl rfl rfl (Nat.le_of_ble_eq_true rfl) (Nat.le_of_ble_eq_true rfl) rfl (by decide))))))))
set_option maxRecDepth 10000 in
theorem b198_1144 {d : Nat} {l0 : Option sm_V} {l1 : Option sm_V} {l2 : Option sm_V} {l3 : Option sm_V} {s0 : Int} {s1 : Int} {Z : Nat → Nat → Int} {Rf : Nat → Nat → Option Nat} {K : Nat → Nat × Nat} {n z : Nat} {Q : Option sm_V → sm_S → Prop} : sm_wp d 198 1144 [l0, l1, l2, l3] [.inl s1, .inl s0] (Z, Rf, K, n, z) Q = (if wr s0 = wr s1 then sm_wp d 198 1149 [l0, l1, l2, l3] [] (Z, Rf, K, n, z) Q else sm_wp d 198 1147 [l0, l1, l2, l3] [] (Z, Rf, K, n, z) Q) := w_iceq t198_1144 rfl rfl rfl rfl
set_option maxRecDepth 10000 in
theorem b198_1147 {d : Nat} {l0 : Option sm_V} {l1 : Option sm_V} {l2 : Option sm_V} {l3 : Option sm_V} {Z : Nat → Nat → Int} {Rf : Nat → Nat → Option Nat} {K : Nat → Nat × Nat} {n z : Nat} {Q : Option sm_V → sm_S → Prop} : sm_wp d 198 1147 [l0, l1, l2, l3] [] (Z, Rf, K, n, z) Q = (((0 : Int) = 0 ∨ (0 : Int) = 1) ∧ Q (some (.inl 0)) (Z, Rf, K, n, z)) := (w_iconst t198_1147 rfl).trans (w_zret t198_1148 wl_0)
set_option maxRecDepth 10000 in
theorem b198_1149 {d : Nat} {l0 : Option sm_V} {l1 : Option sm_V} {l2 : Option sm_V} {x3 : Int} {Z : Nat → Nat → Int} {Rf : Nat → Nat → Option Nat} {K : Nat → Nat × Nat} {n z : Nat} {Q : Option sm_V → sm_S → Prop} : sm_wp d 198 1149 [l0, l1, l2, some (.inl x3)] [] (Z, Rf, K, n, z) Q = (sm_wp d 198 18 [l0, l1, l2, some (.inl (x3 + 6))] [] (Z, Rf, K, n, z) Q) := (w_iinc t198_1149 rfl rfl (Nat.le_of_ble_eq_true rfl) rfl).trans (w_goto t198_1152 rfl)
set_option maxRecDepth 10000 in
theorem b198_1155 {d : Nat} {l0 : Option sm_V} {l1 : Option sm_V} {l2 : Option sm_V} {l3 : Option sm_V} {Z : Nat → Nat → Int} {Rf : Nat → Nat → Option Nat} {K : Nat → Nat × Nat} {n z : Nat} {Q : Option sm_V → sm_S → Prop} : sm_wp d 198 1155 [l0, l1, l2, l3] [] (Z, Rf, K, n, z) Q = (((1 : Int) = 0 ∨ (1 : Int) = 1) ∧ Q (some (.inl 1)) (Z, Rf, K, n, z)) := (w_iconst t198_1155 rfl).trans (w_zret t198_1156 wl_1)
theorem t199_0 : sm_at 199 0 = some (1, .aload_n 0, 0, 0, 0) := rfl
theorem t199_1 : sm_at 199 1 = some (3, .getfield 9, 103, 0, 0) := rfl
theorem t199_4 : sm_at 199 4 = some (1, .arraylength, 0, 0, 0) := rfl
theorem t199_5 : sm_at 199 5 = some (1, .aload_n 0, 0, 0, 0) := rfl
theorem t199_6 : sm_at 199 6 = some (3, .invokevirtual 335, 201, 1, 0) := rfl
theorem t199_9 : sm_at 199 9 = some (1, .ishr, 0, 0, 0) := rfl
theorem t199_10 : sm_at 199 10 = some (1, .ireturn, 0, 0, 0) := rfl
set_option maxRecDepth 10000 in
theorem b199_0 {d : Nat} {r0 : Nat} {Z : Nat → Nat → Int} {Rf : Nat → Nat → Option Nat} {K : Nat → Nat × Nat} {n z : Nat} {Q : Option sm_V → sm_S → Prop} : sm_wp (d + 1) 199 0 [some (.inr (some r0))] [] (Z, Rf, K, n, z) Q = ((K r0).1 = 103 ∧ (Rf r0 0).isSome = true ∧ ((K (((Rf r0 0).getD 0))).1 = 100 ∨ (K (((Rf r0 0).getD 0))).1 = 101 ∨ (K (((Rf r0 0).getD 0))).1 = 102 ∨ (K (((Rf r0 0).getD 0))).1 = 104) ∧ (K r0).1 = 103 ∧ sm_call d 201 [.inr (some r0)] (Z, Rf, K, n, z) (sm_cont (d + 1) 199 9 [some (.inr (some r0))] [.inl (((K (((Rf r0 0).getD 0))).2 : Int))] Q)) := (w_aload_n t199_0 rfl rfl).trans ((w_getSv t199_1 rfl).trans (congrArg (And _) (congrArg (And _) ((w_alen t199_4 rfl).trans (congrArg (And _) ((w_aload_n t199_5 rfl rfl).trans (w_callV t199_6 rfl rfl rfl rfl (Nat.le_of_ble_eq_true rfl) (Nat.le_of_ble_eq_true rfl) rfl (by decide))))))))
set_option maxRecDepth 10000 in
theorem b199_9 {d : Nat} {l0 : Option sm_V} {s0 : Int} {s1 : Int} {Z : Nat → Nat → Int} {Rf : Nat → Nat → Option Nat} {K : Nat → Nat × Nat} {n z : Nat} {Q : Option sm_V → sm_S → Prop} : sm_wp d 199 9 [l0] [.inl s1, .inl s0] (Z, Rf, K, n, z) Q = (Q (some (.inl (sm_shr s0 s1))) (Z, Rf, K, n, z)) := (w_ishr t199_9 rfl).trans (w_iret t199_10)
theorem t200_0 : sm_at 200 0 = some (1, .aload_n 0, 0, 0, 0) := rfl
theorem t200_1 : sm_at 200 1 = some (3, .invokevirtual 492, 202, 1, 0) := rfl
theorem t200_4 : sm_at 200 4 = some (3, .ifCond .eq 12, 0, 0, 0) := rfl
theorem t200_7 : sm_at 200 7 = some (1, .aload_n 0, 0, 0, 0) := rfl
theorem t200_8 : sm_at 200 8 = some (3, .getfield 9, 103, 0, 0) := rfl
theorem t200_11 : sm_at 200 11 = some (1, .iload_n 1, 0, 0, 0) := rfl
theorem t200_12 : sm_at 200 12 = some (3, .invokestatic 495, 204, 2, 0) := rfl
theorem t200_15 : sm_at 200 15 = some (1, .ireturn, 2, 0, 0) := rfl
theorem t200_16 : sm_at 200 16 = some (1, .aload_n 0, 0, 0, 0) := rfl
theorem t200_17 : sm_at 200 17 = some (3, .getfield 9, 103, 0, 0) := rfl
theorem t200_20 : sm_at 200 20 = some (1, .iload_n 1, 0, 0, 0) := rfl
theorem t200_21 : sm_at 200 21 = some (3, .invokestatic 498, 1002, 0, 0) := rfl
theorem t200_24 : sm_at 200 24 = some (1, .ireturn, 2, 0, 0) := rfl
set_option maxRecDepth 10000 in
theorem b200_0 {d : Nat} {r0 : Nat} {l1 : Option sm_V} {Z : Nat → Nat → Int} {Rf : Nat → Nat → Option Nat} {K : Nat → Nat × Nat} {n z : Nat} {Q : Option sm_V → sm_S → Prop} : sm_wp (d + 1) 200 0 [some (.inr (some r0)), l1] [] (Z, Rf, K, n, z) Q = ((K r0).1 = 103 ∧ sm_call d 202 [.inr (some r0)] (Z, Rf, K, n, z) (sm_cont (d + 1) 200 4 [some (.inr (some r0)), l1] [] Q)) := (w_aload_n t200_0 rfl rfl).trans (w_callV t200_1 rfl rfl rfl rfl (Nat.le_of_ble_eq_true rfl) (Nat.le_of_ble_eq_true rfl) rfl (by decide))
set_option maxRecDepth 10000 in
theorem b200_4 {d : Nat} {l0 : Option sm_V} {l1 : Option sm_V} {s0 : Int} {Z : Nat → Nat → Int} {Rf : Nat → Nat → Option Nat} {K : Nat → Nat × Nat} {n z : Nat} {Q : Option sm_V → sm_S → Prop} : sm_wp d 200 4 [l0, l1] [.inl s0] (Z, Rf, K, n, z) Q = (if wr s0 = 0 then sm_wp d 200 16 [l0, l1] [] (Z, Rf, K, n, z) Q else sm_wp d 200 7 [l0, l1] [] (Z, Rf, K, n, z) Q) := w_ifeq t200_4 rfl rfl rfl
set_option maxRecDepth 10000 in
theorem b200_7 {d : Nat} {r0 : Nat} {x1 : Int} {Z : Nat → Nat → Int} {Rf : Nat → Nat → Option Nat} {K : Nat → Nat × Nat} {n z : Nat} {Q : Option sm_V → sm_S → Prop} : sm_wp (d + 1) 200 7 [some (.inr (some r0)), some (.inl x1)] [] (Z, Rf, K, n, z) Q = ((K r0).1 = 103 ∧ (Rf r0 0).isSome = true ∧ sm_call d 204 [.inr (some ((Rf r0 0).getD 0)), .inl x1] (Z, Rf, K, n, z) (sm_cont (d + 1) 200 15 [some (.inr (some r0)), some (.inl x1)] [] Q)) := (w_aload_n t200_7 rfl rfl).trans ((w_getSv t200_8 rfl).trans (congrArg (And _) (congrArg (And _) ((w_iload_n t200_11 rfl rfl).trans (w_callS t200_12 rfl rfl rfl rfl (Nat.le_of_ble_eq_true rfl) (Nat.le_of_ble_eq_true rfl) rfl)))))
set_option maxRecDepth 10000 in
theorem b200_15 {d : Nat} {l0 : Option sm_V} {l1 : Option sm_V} {s0 : Int} {Z : Nat → Nat → Int} {Rf : Nat → Nat → Option Nat} {K : Nat → Nat × Nat} {n z : Nat} {Q : Option sm_V → sm_S → Prop} : sm_wp d 200 15 [l0, l1] [.inl s0] (Z, Rf, K, n, z) Q = ((0 ≤ wr s0 ∧ wr s0 < 65536) ∧ Q (some (.inl s0)) (Z, Rf, K, n, z)) := w_cret t200_15 rfl
theorem t201_0 : sm_at 201 0 = some (3, .getstatic 38, 0, 0, 1) := rfl
theorem t201_3 : sm_at 201 3 = some (3, .ifCond .eq 10, 0, 0, 0) := rfl
theorem t201_6 : sm_at 201 6 = some (1, .aload_n 0, 0, 0, 0) := rfl
theorem t201_7 : sm_at 201 7 = some (3, .getfield 15, 103, 1, 0) := rfl
theorem t201_10 : sm_at 201 10 = some (3, .goto 4, 0, 0, 0) := rfl
theorem t201_13 : sm_at 201 13 = some (1, .iconst 1, 0, 0, 0) := rfl
theorem t201_14 : sm_at 201 14 = some (1, .ireturn, 3, 0, 0) := rfl
set_option maxRecDepth 10000 in
theorem b201_0 {d : Nat} {l0 : Option sm_V} {Z : Nat → Nat → Int} {Rf : Nat → Nat → Option Nat} {K : Nat → Nat × Nat} {n z : Nat} {Q : Option sm_V → sm_S → Prop} : sm_wp d 201 0 [l0] [] (Z, Rf, K, n, z) Q = (if (1 : Int) = 0 then sm_wp d 201 13 [l0] [] (Z, Rf, K, n, z) Q else sm_wp d 201 6 [l0] [] (Z, Rf, K, n, z) Q) := (w_gs0 t201_0 rfl).trans (w_ifeq t201_3 wl_1 rfl rfl)
set_option maxRecDepth 10000 in
theorem b201_6 {d : Nat} {r0 : Nat} {Z : Nat → Nat → Int} {Rf : Nat → Nat → Option Nat} {K : Nat → Nat × Nat} {n z : Nat} {Q : Option sm_V → sm_S → Prop} : sm_wp d 201 6 [some (.inr (some r0))] [] (Z, Rf, K, n, z) Q = ((K r0).1 = 103 ∧ sm_wp d 201 14 [some (.inr (some r0))] [.inl 0] (Z, Rf, K, n, z) Q) := (w_aload_n t201_6 rfl rfl).trans ((w_getSc t201_7 rfl).trans (congrArg (And _) (w_goto t201_10 rfl)))
set_option maxRecDepth 10000 in
theorem b201_13 {d : Nat} {l0 : Option sm_V} {Z : Nat → Nat → Int} {Rf : Nat → Nat → Option Nat} {K : Nat → Nat × Nat} {n z : Nat} {Q : Option sm_V → sm_S → Prop} : sm_wp d 201 13 [l0] [] (Z, Rf, K, n, z) Q = (sm_wp d 201 14 [l0] [.inl 1] (Z, Rf, K, n, z) Q) := w_iconst t201_13 rfl
set_option maxRecDepth 10000 in
theorem b201_14 {d : Nat} {l0 : Option sm_V} {s0 : Int} {Z : Nat → Nat → Int} {Rf : Nat → Nat → Option Nat} {K : Nat → Nat × Nat} {n z : Nat} {Q : Option sm_V → sm_S → Prop} : sm_wp d 201 14 [l0] [.inl s0] (Z, Rf, K, n, z) Q = ((-128 ≤ wr s0 ∧ wr s0 < 128) ∧ Q (some (.inl s0)) (Z, Rf, K, n, z)) := w_bret t201_14 rfl
theorem t202_0 : sm_at 202 0 = some (3, .getstatic 38, 0, 0, 1) := rfl
theorem t202_3 : sm_at 202 3 = some (3, .ifCond .eq 14, 0, 0, 0) := rfl
theorem t202_6 : sm_at 202 6 = some (1, .aload_n 0, 0, 0, 0) := rfl
theorem t202_7 : sm_at 202 7 = some (3, .getfield 15, 103, 1, 0) := rfl
theorem t202_10 : sm_at 202 10 = some (3, .ifCond .ne 7, 0, 0, 0) := rfl
theorem t202_13 : sm_at 202 13 = some (1, .iconst 1, 0, 0, 0) := rfl
theorem t202_14 : sm_at 202 14 = some (3, .goto 4, 0, 0, 0) := rfl
theorem t202_17 : sm_at 202 17 = some (1, .iconst 0, 0, 0, 0) := rfl
theorem t202_18 : sm_at 202 18 = some (1, .ireturn, 1, 0, 0) := rfl
set_option maxRecDepth 10000 in
theorem b202_0 {d : Nat} {l0 : Option sm_V} {Z : Nat → Nat → Int} {Rf : Nat → Nat → Option Nat} {K : Nat → Nat × Nat} {n z : Nat} {Q : Option sm_V → sm_S → Prop} : sm_wp d 202 0 [l0] [] (Z, Rf, K, n, z) Q = (if (1 : Int) = 0 then sm_wp d 202 17 [l0] [] (Z, Rf, K, n, z) Q else sm_wp d 202 6 [l0] [] (Z, Rf, K, n, z) Q) := (w_gs0 t202_0 rfl).trans (w_ifeq t202_3 wl_1 rfl rfl)
set_option maxRecDepth 10000 in
theorem b202_6 {d : Nat} {r0 : Nat} {Z : Nat → Nat → Int} {Rf : Nat → Nat → Option Nat} {K : Nat → Nat × Nat} {n z : Nat} {Q : Option sm_V → sm_S → Prop} : sm_wp d 202 6 [some (.inr (some r0))] [] (Z, Rf, K, n, z) Q = ((K r0).1 = 103 ∧ (if (0 : Int) = 0 then sm_wp d 202 13 [some (.inr (some r0))] [] (Z, Rf, K, n, z) Q else sm_wp d 202 17 [some (.inr (some r0))] [] (Z, Rf, K, n, z) Q)) := (w_aload_n t202_6 rfl rfl).trans ((w_getSc t202_7 rfl).trans (congrArg (And _) (w_ifne t202_10 wl_0 rfl rfl)))
set_option maxRecDepth 10000 in
theorem b202_13 {d : Nat} {l0 : Option sm_V} {Z : Nat → Nat → Int} {Rf : Nat → Nat → Option Nat} {K : Nat → Nat × Nat} {n z : Nat} {Q : Option sm_V → sm_S → Prop} : sm_wp d 202 13 [l0] [] (Z, Rf, K, n, z) Q = (sm_wp d 202 18 [l0] [.inl 1] (Z, Rf, K, n, z) Q) := (w_iconst t202_13 rfl).trans (w_goto t202_14 rfl)
set_option maxRecDepth 10000 in
theorem b202_17 {d : Nat} {l0 : Option sm_V} {Z : Nat → Nat → Int} {Rf : Nat → Nat → Option Nat} {K : Nat → Nat × Nat} {n z : Nat} {Q : Option sm_V → sm_S → Prop} : sm_wp d 202 17 [l0] [] (Z, Rf, K, n, z) Q = (sm_wp d 202 18 [l0] [.inl 0] (Z, Rf, K, n, z) Q) := w_iconst t202_17 rfl
set_option maxRecDepth 10000 in
theorem b202_18 {d : Nat} {l0 : Option sm_V} {s0 : Int} {Z : Nat → Nat → Int} {Rf : Nat → Nat → Option Nat} {K : Nat → Nat × Nat} {n z : Nat} {Q : Option sm_V → sm_S → Prop} : sm_wp d 202 18 [l0] [.inl s0] (Z, Rf, K, n, z) Q = ((wr s0 = 0 ∨ wr s0 = 1) ∧ Q (some (.inl s0)) (Z, Rf, K, n, z)) := w_zret t202_18 rfl
theorem t203_0 : sm_at 203 0 = some (1, .iload_n 0, 0, 0, 0) := rfl
theorem t203_1 : sm_at 203 1 = some (1, .iload_n 1, 0, 0, 0) := rfl
theorem t203_2 : sm_at 203 2 = some (3, .getstatic 1053, 2, 0, 0) := rfl
theorem t203_5 : sm_at 203 5 = some (3, .invokestatic 1059, 207, 3, 0) := rfl
theorem t203_8 : sm_at 203 8 = some (1, .pop, 0, 0, 0) := rfl
theorem t203_9 : sm_at 203 9 = some (1, .return_, 0, 0, 0) := rfl
set_option maxRecDepth 10000 in
theorem b203_0 {d : Nat} {x0 : Int} {x1 : Int} {Z : Nat → Nat → Int} {Rf : Nat → Nat → Option Nat} {K : Nat → Nat × Nat} {n z : Nat} {Q : Option sm_V → sm_S → Prop} : sm_wp (d + 1) 203 0 [some (.inl x0), some (.inl x1)] [] (Z, Rf, K, n, z) Q = (sm_call d 207 [.inl x0, .inl x1, .inr (Rf 7000000 0)] (Z, Rf, K, n, z) (sm_cont (d + 1) 203 8 [some (.inl x0), some (.inl x1)] [] Q)) := (w_iload_n t203_0 rfl rfl).trans ((w_iload_n t203_1 rfl rfl).trans ((w_gs2 t203_2 rfl).trans (w_callS t203_5 rfl rfl rfl rfl (Nat.le_of_ble_eq_true rfl) (Nat.le_of_ble_eq_true rfl) rfl)))
set_option maxRecDepth 10000 in
theorem b203_8 {d : Nat} {l0 : Option sm_V} {l1 : Option sm_V} {s0 : Int} {Z : Nat → Nat → Int} {Rf : Nat → Nat → Option Nat} {K : Nat → Nat × Nat} {n z : Nat} {Q : Option sm_V → sm_S → Prop} : sm_wp d 203 8 [l0, l1] [.inl s0] (Z, Rf, K, n, z) Q = (Q none (Z, Rf, K, n, z)) := (w_pop t203_8 rfl).trans (w_vret t203_9)
theorem t204_0 : sm_at 204 0 = some (1, .iload_n 1, 0, 0, 0) := rfl
theorem t204_1 : sm_at 204 1 = some (1, .aload_n 0, 0, 0, 0) := rfl
theorem t204_2 : sm_at 204 2 = some (1, .arraylength, 0, 0, 0) := rfl
theorem t204_3 : sm_at 204 3 = some (3, .invokestatic 9, 203, 2, 0) := rfl
theorem t204_6 : sm_at 204 6 = some (1, .aload_n 0, 0, 0, 0) := rfl
theorem t204_7 : sm_at 204 7 = some (1, .iload_n 1, 0, 0, 0) := rfl
theorem t204_8 : sm_at 204 8 = some (1, .baload, 0, 0, 0) := rfl
theorem t204_9 : sm_at 204 9 = some (3, .sipush 255, 0, 0, 0) := rfl
theorem t204_12 : sm_at 204 12 = some (1, .iand, 0, 0, 0) := rfl
theorem t204_13 : sm_at 204 13 = some (1, .i2c, 0, 0, 0) := rfl
theorem t204_14 : sm_at 204 14 = some (1, .ireturn, 2, 0, 0) := rfl
set_option maxRecDepth 10000 in
theorem b204_0 {d : Nat} {r0 : Nat} {x1 : Int} {Z : Nat → Nat → Int} {Rf : Nat → Nat → Option Nat} {K : Nat → Nat × Nat} {n z : Nat} {Q : Option sm_V → sm_S → Prop} : sm_wp (d + 1) 204 0 [some (.inr (some r0)), some (.inl x1)] [] (Z, Rf, K, n, z) Q = (((K r0).1 = 100 ∨ (K r0).1 = 101 ∨ (K r0).1 = 102 ∨ (K r0).1 = 104) ∧ sm_call d 203 [.inl x1, .inl (((K r0).2 : Int))] (Z, Rf, K, n, z) (sm_cont (d + 1) 204 6 [some (.inr (some r0)), some (.inl x1)] [] Q)) := (w_iload_n t204_0 rfl rfl).trans ((w_aload_n t204_1 rfl rfl).trans ((w_alen t204_2 rfl).trans (congrArg (And _) (w_callS t204_3 rfl rfl rfl rfl (Nat.le_of_ble_eq_true rfl) (Nat.le_of_ble_eq_true rfl) rfl))))
set_option maxRecDepth 10000 in
theorem b204_6 {d : Nat} {r0 : Nat} {x1 : Int} {Z : Nat → Nat → Int} {Rf : Nat → Nat → Option Nat} {K : Nat → Nat × Nat} {n z : Nat} {Q : Option sm_V → sm_S → Prop} : sm_wp d 204 6 [some (.inr (some r0)), some (.inl x1)] [] (Z, Rf, K, n, z) Q = (((K r0).1 = 104 ∧ 0 ≤ wr x1 ∧ wr x1 < ((K r0).2 : Int)) ∧ (0 ≤ wr (sm_i2c (sm_and (Z r0 ((wr x1).toNat)) 255)) ∧ wr (sm_i2c (sm_and (Z r0 ((wr x1).toNat)) 255)) < 65536) ∧ Q (some (.inl (sm_i2c (sm_and (Z r0 ((wr x1).toNat)) 255)))) (Z, Rf, K, n, z)) := (w_aload_n t204_6 rfl rfl).trans ((w_iload_n t204_7 rfl rfl).trans ((w_bald t204_8 rfl rfl).trans (congrArg (And _) ((w_sipush t204_9 rfl).trans ((w_iand t204_12 rfl).trans ((w_i2c t204_13 rfl).trans (w_cret t204_14 rfl)))))))
theorem t205_0 : sm_at 205 0 = some (1, .iconst 0, 0, 0, 0) := rfl
theorem t205_1 : sm_at 205 1 = some (1, .istore_n 2, 0, 0, 0) := rfl
theorem t205_2 : sm_at 205 2 = some (1, .aload_n 0, 0, 0, 0) := rfl
theorem t205_3 : sm_at 205 3 = some (1, .arraylength, 0, 0, 0) := rfl
theorem t205_4 : sm_at 205 4 = some (1, .istore_n 3, 0, 0, 0) := rfl
theorem t205_5 : sm_at 205 5 = some (1, .iload_n 2, 0, 0, 0) := rfl
theorem t205_6 : sm_at 205 6 = some (1, .iload_n 3, 0, 0, 0) := rfl
theorem t205_7 : sm_at 205 7 = some (3, .if_icmp .ge 13, 0, 0, 0) := rfl
theorem t205_10 : sm_at 205 10 = some (1, .aload_n 0, 0, 0, 0) := rfl
theorem t205_11 : sm_at 205 11 = some (1, .iload_n 2, 0, 0, 0) := rfl
theorem t205_12 : sm_at 205 12 = some (1, .iload_n 1, 0, 0, 0) := rfl
theorem t205_13 : sm_at 205 13 = some (1, .iastore, 0, 0, 0) := rfl
theorem t205_14 : sm_at 205 14 = some (3, .iinc 2 1, 0, 0, 0) := rfl
theorem t205_17 : sm_at 205 17 = some (3, .goto (-12), 0, 0, 0) := rfl
theorem t205_20 : sm_at 205 20 = some (1, .return_, 0, 0, 0) := rfl
set_option maxRecDepth 10000 in
theorem b205_0 {d : Nat} {r0 : Nat} {l1 : Option sm_V} {l2 : Option sm_V} {l3 : Option sm_V} {Z : Nat → Nat → Int} {Rf : Nat → Nat → Option Nat} {K : Nat → Nat × Nat} {n z : Nat} {Q : Option sm_V → sm_S → Prop} : sm_wp d 205 0 [some (.inr (some r0)), l1, l2, l3] [] (Z, Rf, K, n, z) Q = (((K r0).1 = 100 ∨ (K r0).1 = 101 ∨ (K r0).1 = 102 ∨ (K r0).1 = 104) ∧ sm_wp d 205 5 [some (.inr (some r0)), l1, some (.inl 0), some (.inl (((K r0).2 : Int)))] [] (Z, Rf, K, n, z) Q) := (w_iconst t205_0 rfl).trans ((w_istore_n t205_1 rfl (Nat.le_of_ble_eq_true rfl) rfl).trans ((w_aload_n t205_2 rfl rfl).trans ((w_alen t205_3 rfl).trans (congrArg (And _) (w_istore_n t205_4 rfl (Nat.le_of_ble_eq_true rfl) rfl)))))
set_option maxRecDepth 10000 in
theorem b205_5 {d : Nat} {l0 : Option sm_V} {l1 : Option sm_V} {x2 : Int} {x3 : Int} {Z : Nat → Nat → Int} {Rf : Nat → Nat → Option Nat} {K : Nat → Nat × Nat} {n z : Nat} {Q : Option sm_V → sm_S → Prop} : sm_wp d 205 5 [l0, l1, some (.inl x2), some (.inl x3)] [] (Z, Rf, K, n, z) Q = (if wr x3 ≤ wr x2 then sm_wp d 205 20 [l0, l1, some (.inl x2), some (.inl x3)] [] (Z, Rf, K, n, z) Q else sm_wp d 205 10 [l0, l1, some (.inl x2), some (.inl x3)] [] (Z, Rf, K, n, z) Q) := (w_iload_n t205_5 rfl rfl).trans ((w_iload_n t205_6 rfl rfl).trans (w_icge t205_7 rfl rfl rfl rfl))
set_option maxRecDepth 10000 in
theorem b205_10 {d : Nat} {r0 : Nat} {x1 : Int} {x2 : Int} {l3 : Option sm_V} {Z : Nat → Nat → Int} {Rf : Nat → Nat → Option Nat} {K : Nat → Nat × Nat} {n z : Nat} {Q : Option sm_V → sm_S → Prop} : sm_wp d 205 10 [some (.inr (some r0)), some (.inl x1), some (.inl x2), l3] [] (Z, Rf, K, n, z) Q = (sm_wt (K r0) (wr x2) ∧ sm_wp d 205 5 [some (.inr (some r0)), some (.inl x1), some (.inl (x2 + 1)), l3] [] (sm_u Z r0 ((wr x2).toNat) x1, Rf, K, n, z) Q) := (w_aload_n t205_10 rfl rfl).trans ((w_iload_n t205_11 rfl rfl).trans ((w_iload_n t205_12 rfl rfl).trans ((w_iast t205_13 rfl rfl).trans (congrArg (And _) ((w_iinc t205_14 rfl rfl (Nat.le_of_ble_eq_true rfl) rfl).trans (w_goto t205_17 rfl))))))
set_option maxRecDepth 10000 in
theorem b205_20 {d : Nat} {l0 : Option sm_V} {l1 : Option sm_V} {l2 : Option sm_V} {l3 : Option sm_V} {Z : Nat → Nat → Int} {Rf : Nat → Nat → Option Nat} {K : Nat → Nat × Nat} {n z : Nat} {Q : Option sm_V → sm_S → Prop} : sm_wp d 205 20 [l0, l1, l2, l3] [] (Z, Rf, K, n, z) Q = (Q none (Z, Rf, K, n, z)) := w_vret t205_20
theorem t206_0 : sm_at 206 0 = some (1, .iload_n 1, 0, 0, 0) := rfl
theorem t206_1 : sm_at 206 1 = some (1, .aload_n 0, 0, 0, 0) := rfl
theorem t206_2 : sm_at 206 2 = some (1, .arraylength, 0, 0, 0) := rfl
theorem t206_3 : sm_at 206 3 = some (3, .if_icmp .ne 11, 0, 0, 0) := rfl
theorem t206_6 : sm_at 206 6 = some (1, .aload_n 0, 0, 0, 0) := rfl
theorem t206_7 : sm_at 206 7 = some (3, .invokevirtual 316, 1002, 0, 0) := rfl
theorem t206_13 : sm_at 206 13 = some (1, .areturn, 0, 0, 0) := rfl
theorem t206_14 : sm_at 206 14 = some (1, .iload_n 1, 0, 0, 0) := rfl
theorem t206_15 : sm_at 206 15 = some (2, .newarray .int, 0, 0, 0) := rfl
theorem t206_17 : sm_at 206 17 = some (1, .astore_n 2, 0, 0, 0) := rfl
theorem t206_18 : sm_at 206 18 = some (1, .aload_n 0, 0, 0, 0) := rfl
theorem t206_19 : sm_at 206 19 = some (1, .iconst 0, 0, 0, 0) := rfl
theorem t206_20 : sm_at 206 20 = some (1, .aload_n 2, 0, 0, 0) := rfl
theorem t206_21 : sm_at 206 21 = some (1, .iconst 0, 0, 0, 0) := rfl
theorem t206_22 : sm_at 206 22 = some (1, .aload_n 0, 0, 0, 0) := rfl
theorem t206_23 : sm_at 206 23 = some (1, .arraylength, 0, 0, 0) := rfl
theorem t206_24 : sm_at 206 24 = some (1, .iload_n 1, 0, 0, 0) := rfl
theorem t206_25 : sm_at 206 25 = some (3, .invokestatic 304, 1004, 2, 0) := rfl
theorem t206_28 : sm_at 206 28 = some (3, .invokestatic 150, 1000, 5, 0) := rfl
theorem t206_31 : sm_at 206 31 = some (1, .aload_n 2, 0, 0, 0) := rfl
theorem t206_32 : sm_at 206 32 = some (1, .areturn, 0, 0, 0) := rfl
set_option maxRecDepth 10000 in
theorem b206_0 {d : Nat} {r0 : Nat} {x1 : Int} {l2 : Option sm_V} {Z : Nat → Nat → Int} {Rf : Nat → Nat → Option Nat} {K : Nat → Nat × Nat} {n z : Nat} {Q : Option sm_V → sm_S → Prop} : sm_wp d 206 0 [some (.inr (some r0)), some (.inl x1), l2] [] (Z, Rf, K, n, z) Q = (((K r0).1 = 100 ∨ (K r0).1 = 101 ∨ (K r0).1 = 102 ∨ (K r0).1 = 104) ∧ (if wr x1 = wr (((K r0).2 : Int)) then sm_wp d 206 6 [some (.inr (some r0)), some (.inl x1), l2] [] (Z, Rf, K, n, z) Q else sm_wp d 206 14 [some (.inr (some r0)), some (.inl x1), l2] [] (Z, Rf, K, n, z) Q)) := (w_iload_n t206_0 rfl rfl).trans ((w_aload_n t206_1 rfl rfl).trans ((w_alen t206_2 rfl).trans (congrArg (And _) (w_icne t206_3 rfl rfl rfl rfl))))
set_option maxRecDepth 10000 in
theorem b206_14 {d : Nat} {r0 : Nat} {x1 : Int} {l2 : Option sm_V} {Z : Nat → Nat → Int} {Rf : Nat → Nat → Option Nat} {K : Nat → Nat × Nat} {n z : Nat} {Q : Option sm_V → sm_S → Prop} : sm_wp d 206 14 [some (.inr (some r0)), some (.inl x1), l2] [] (Z, Rf, K, n, z) Q = ((n < 1000000 ∧ 0 ≤ wr x1 ∧ wr x1 ≤ 65536) ∧ (((sm_k K n (100, (wr x1).toNat)) r0).1 = 100 ∨ ((sm_k K n (100, (wr x1).toNat)) r0).1 = 101 ∨ ((sm_k K n (100, (wr x1).toNat)) r0).1 = 102 ∨ ((sm_k K n (100, (wr x1).toNat)) r0).1 = 104) ∧ sm_cp ((sm_k K n (100, (wr x1).toNat)) r0) ((sm_k K n (100, (wr x1).toNat)) n) ((0 : Int)) ((0 : Int)) (wr (if wr x1 < wr ((((sm_k K n (100, (wr x1).toNat)) r0).2 : Int)) then x1 else (((sm_k K n (100, (wr x1).toNat)) r0).2 : Int))) ∧ Q (some (.inr (some n))) (sm_mv (sm_r Z n (fun _ => 0)) r0 n ((0 : Int)) ((0 : Int)) (wr (if wr x1 < wr ((((sm_k K n (100, (wr x1).toNat)) r0).2 : Int)) then x1 else (((sm_k K n (100, (wr x1).toNat)) r0).2 : Int))), sm_r Rf n (fun _ => none), sm_k K n (100, (wr x1).toNat), n + 1, z + (wr x1).toNat)) := (w_iload_n t206_14 rfl rfl).trans ((w_newa t206_15 rfl rfl).trans (congrArg (And _) ((w_astore_n t206_17 rfl (Nat.le_of_ble_eq_true rfl) rfl).trans ((w_aload_n t206_18 rfl rfl).trans ((w_iconst t206_19 rfl).trans ((w_aload_n t206_20 rfl rfl).trans ((w_iconst t206_21 rfl).trans ((w_aload_n t206_22 rfl rfl).trans ((w_alen t206_23 rfl).trans (congrArg (And _) ((w_iload_n t206_24 rfl rfl).trans ((w_min t206_25 rfl (Nat.le_of_ble_eq_true rfl) rfl rfl).trans ((w_copy t206_28 rfl (Nat.le_of_ble_eq_true rfl) wl_0 wl_0 rfl).trans (congrArg (And _) ((w_aload_n t206_31 rfl rfl).trans (w_aret t206_32))))))))))))))))
theorem t207_0 : sm_at 207 0 = some (1, .iload_n 0, 0, 0, 0) := rfl
theorem t207_1 : sm_at 207 1 = some (3, .ifCond .lt 8, 0, 0, 0) := rfl
theorem t207_4 : sm_at 207 4 = some (1, .iload_n 0, 0, 0, 0) := rfl
theorem t207_5 : sm_at 207 5 = some (1, .iload_n 1, 0, 0, 0) := rfl
theorem t207_6 : sm_at 207 6 = some (3, .if_icmp .lt 10, 0, 0, 0) := rfl
theorem t207_9 : sm_at 207 9 = some (1, .aload_n 2, 0, 0, 0) := rfl
theorem t207_10 : sm_at 207 10 = some (1, .iload_n 0, 0, 0, 0) := rfl
theorem t207_11 : sm_at 207 11 = some (1, .iload_n 1, 0, 0, 0) := rfl
theorem t207_12 : sm_at 207 12 = some (3, .invokestatic 95, 1002, 0, 0) := rfl
theorem t207_15 : sm_at 207 15 = some (1, .athrow, 0, 0, 0) := rfl
theorem t207_16 : sm_at 207 16 = some (1, .iload_n 0, 0, 0, 0) := rfl
theorem t207_17 : sm_at 207 17 = some (1, .ireturn, 0, 0, 0) := rfl
set_option maxRecDepth 10000 in
theorem b207_0 {d : Nat} {x0 : Int} {l1 : Option sm_V} {l2 : Option sm_V} {Z : Nat → Nat → Int} {Rf : Nat → Nat → Option Nat} {K : Nat → Nat × Nat} {n z : Nat} {Q : Option sm_V → sm_S → Prop} : sm_wp d 207 0 [some (.inl x0), l1, l2] [] (Z, Rf, K, n, z) Q = (if wr x0 < 0 then sm_wp d 207 9 [some (.inl x0), l1, l2] [] (Z, Rf, K, n, z) Q else sm_wp d 207 4 [some (.inl x0), l1, l2] [] (Z, Rf, K, n, z) Q) := (w_iload_n t207_0 rfl rfl).trans (w_iflt t207_1 rfl rfl rfl)
set_option maxRecDepth 10000 in
theorem b207_4 {d : Nat} {x0 : Int} {x1 : Int} {l2 : Option sm_V} {Z : Nat → Nat → Int} {Rf : Nat → Nat → Option Nat} {K : Nat → Nat × Nat} {n z : Nat} {Q : Option sm_V → sm_S → Prop} : sm_wp d 207 4 [some (.inl x0), some (.inl x1), l2] [] (Z, Rf, K, n, z) Q = (if wr x0 < wr x1 then sm_wp d 207 16 [some (.inl x0), some (.inl x1), l2] [] (Z, Rf, K, n, z) Q else sm_wp d 207 9 [some (.inl x0), some (.inl x1), l2] [] (Z, Rf, K, n, z) Q) := (w_iload_n t207_4 rfl rfl).trans ((w_iload_n t207_5 rfl rfl).trans (w_iclt t207_6 rfl rfl rfl rfl))
set_option maxRecDepth 10000 in
theorem b207_16 {d : Nat} {x0 : Int} {l1 : Option sm_V} {l2 : Option sm_V} {Z : Nat → Nat → Int} {Rf : Nat → Nat → Option Nat} {K : Nat → Nat × Nat} {n z : Nat} {Q : Option sm_V → sm_S → Prop} : sm_wp d 207 16 [some (.inl x0), l1, l2] [] (Z, Rf, K, n, z) Q = (Q (some (.inl x0)) (Z, Rf, K, n, z)) := (w_iload_n t207_16 rfl rfl).trans (w_iret t207_17)
theorem t208_0 : sm_at 208 0 = some (1, .iload_n 1, 0, 0, 0) := rfl
theorem t208_1 : sm_at 208 1 = some (3, .ifCond .lt 17, 0, 0, 0) := rfl
theorem t208_4 : sm_at 208 4 = some (1, .iload_n 1, 0, 0, 0) := rfl
theorem t208_5 : sm_at 208 5 = some (1, .iconst 4, 0, 0, 0) := rfl
theorem t208_6 : sm_at 208 6 = some (3, .if_icmp .ge 12, 0, 0, 0) := rfl
theorem t208_9 : sm_at 208 9 = some (1, .aload_n 0, 0, 0, 0) := rfl
theorem t208_10 : sm_at 208 10 = some (3, .getfield 56, 1, 16, 0) := rfl
theorem t208_13 : sm_at 208 13 = some (1, .iload_n 1, 0, 0, 0) := rfl
theorem t208_14 : sm_at 208 14 = some (1, .aaload, 0, 0, 0) := rfl
theorem t208_15 : sm_at 208 15 = some (3, .goto 4, 0, 0, 0) := rfl
theorem t208_18 : sm_at 208 18 = some (1, .aconst_null, 0, 0, 0) := rfl
theorem t208_19 : sm_at 208 19 = some (1, .astore_n 2, 0, 0, 0) := rfl
theorem t208_20 : sm_at 208 20 = some (1, .aload_n 2, 0, 0, 0) := rfl
theorem t208_21 : sm_at 208 21 = some (3, .ifnonnull 10, 0, 0, 0) := rfl
theorem t208_24 : sm_at 208 24 = some (1, .aload_n 0, 0, 0, 0) := rfl
theorem t208_25 : sm_at 208 25 = some (3, .getfield 63, 1, 17, 0) := rfl
theorem t208_28 : sm_at 208 28 = some (3, .goto 4, 0, 0, 0) := rfl
theorem t208_31 : sm_at 208 31 = some (1, .aload_n 2, 0, 0, 0) := rfl
theorem t208_32 : sm_at 208 32 = some (1, .areturn, 0, 0, 0) := rfl
set_option maxRecDepth 10000 in
theorem b208_0 {d : Nat} {l0 : Option sm_V} {x1 : Int} {l2 : Option sm_V} {Z : Nat → Nat → Int} {Rf : Nat → Nat → Option Nat} {K : Nat → Nat × Nat} {n z : Nat} {Q : Option sm_V → sm_S → Prop} : sm_wp d 208 0 [l0, some (.inl x1), l2] [] (Z, Rf, K, n, z) Q = (if wr x1 < 0 then sm_wp d 208 18 [l0, some (.inl x1), l2] [] (Z, Rf, K, n, z) Q else sm_wp d 208 4 [l0, some (.inl x1), l2] [] (Z, Rf, K, n, z) Q) := (w_iload_n t208_0 rfl rfl).trans (w_iflt t208_1 rfl rfl rfl)
set_option maxRecDepth 10000 in
theorem b208_4 {d : Nat} {l0 : Option sm_V} {x1 : Int} {l2 : Option sm_V} {Z : Nat → Nat → Int} {Rf : Nat → Nat → Option Nat} {K : Nat → Nat × Nat} {n z : Nat} {Q : Option sm_V → sm_S → Prop} : sm_wp d 208 4 [l0, some (.inl x1), l2] [] (Z, Rf, K, n, z) Q = (if (4 : Int) ≤ wr x1 then sm_wp d 208 18 [l0, some (.inl x1), l2] [] (Z, Rf, K, n, z) Q else sm_wp d 208 9 [l0, some (.inl x1), l2] [] (Z, Rf, K, n, z) Q) := (w_iload_n t208_4 rfl rfl).trans ((w_iconst t208_5 rfl).trans (w_icge t208_6 rfl wl_4 rfl rfl))
set_option maxRecDepth 10000 in
theorem b208_9 {d : Nat} {r0 : Nat} {x1 : Int} {l2 : Option sm_V} {Z : Nat → Nat → Int} {Rf : Nat → Nat → Option Nat} {K : Nat → Nat × Nat} {n z : Nat} {Q : Option sm_V → sm_S → Prop} : sm_wp d 208 9 [some (.inr (some r0)), some (.inl x1), l2] [] (Z, Rf, K, n, z) Q = ((K r0).1 = 1 ∧ (Rf r0 16).isSome = true ∧ ((K (((Rf r0 16).getD 0))).1 = 101 ∧ 0 ≤ wr x1 ∧ wr x1 < ((K (((Rf r0 16).getD 0))).2 : Int) ∧ (Rf (((Rf r0 16).getD 0)) ((wr x1).toNat)).isSome = true) ∧ sm_wp d 208 19 [some (.inr (some r0)), some (.inl x1), l2] [.inr (some ((Rf (((Rf r0 16).getD 0)) ((wr x1).toNat)).getD 0))] (Z, Rf, K, n, z) Q) := (w_aload_n t208_9 rfl rfl).trans ((w_getR t208_10 rfl (by decide)).trans (congrArg (And _) (congrArg (And _) ((w_iload_n t208_13 rfl rfl).trans ((w_aald t208_14 rfl rfl).trans (congrArg (And _) (w_goto t208_15 rfl)))))))
set_option maxRecDepth 10000 in
theorem b208_18 {d : Nat} {l0 : Option sm_V} {l1 : Option sm_V} {l2 : Option sm_V} {Z : Nat → Nat → Int} {Rf : Nat → Nat → Option Nat} {K : Nat → Nat × Nat} {n z : Nat} {Q : Option sm_V → sm_S → Prop} : sm_wp d 208 18 [l0, l1, l2] [] (Z, Rf, K, n, z) Q = (sm_wp d 208 19 [l0, l1, l2] [.inr none] (Z, Rf, K, n, z) Q) := w_null t208_18 rfl
set_option maxRecDepth 10000 in
theorem b208_19 {d : Nat} {l0 : Option sm_V} {l1 : Option sm_V} {l2 : Option sm_V} {qs0 : Option Nat} {Z : Nat → Nat → Int} {Rf : Nat → Nat → Option Nat} {K : Nat → Nat × Nat} {n z : Nat} {Q : Option sm_V → sm_S → Prop} : sm_wp d 208 19 [l0, l1, l2] [.inr qs0] (Z, Rf, K, n, z) Q = (if qs0.isSome = true then sm_wp d 208 31 [l0, l1, some (.inr qs0)] [] (Z, Rf, K, n, z) Q else sm_wp d 208 24 [l0, l1, some (.inr qs0)] [] (Z, Rf, K, n, z) Q) := (w_astore_n t208_19 rfl (Nat.le_of_ble_eq_true rfl) rfl).trans ((w_aload_n t208_20 rfl rfl).trans (w_ifnn t208_21 rfl rfl))
set_option maxRecDepth 10000 in
theorem b208_24 {d : Nat} {r0 : Nat} {l1 : Option sm_V} {l2 : Option sm_V} {Z : Nat → Nat → Int} {Rf : Nat → Nat → Option Nat} {K : Nat → Nat × Nat} {n z : Nat} {Q : Option sm_V → sm_S → Prop} : sm_wp d 208 24 [some (.inr (some r0)), l1, l2] [] (Z, Rf, K, n, z) Q = ((K r0).1 = 1 ∧ (Rf r0 17).isSome = true ∧ sm_wp d 208 32 [some (.inr (some r0)), l1, l2] [.inr (some ((Rf r0 17).getD 0))] (Z, Rf, K, n, z) Q) := (w_aload_n t208_24 rfl rfl).trans ((w_getR t208_25 rfl (by decide)).trans (congrArg (And _) (congrArg (And _) (w_goto t208_28 rfl))))
set_option maxRecDepth 10000 in
theorem b208_31 {d : Nat} {l0 : Option sm_V} {l1 : Option sm_V} {q2 : Option Nat} {Z : Nat → Nat → Int} {Rf : Nat → Nat → Option Nat} {K : Nat → Nat × Nat} {n z : Nat} {Q : Option sm_V → sm_S → Prop} : sm_wp d 208 31 [l0, l1, some (.inr q2)] [] (Z, Rf, K, n, z) Q = (sm_wp d 208 32 [l0, l1, some (.inr q2)] [.inr q2] (Z, Rf, K, n, z) Q) := w_aload_n t208_31 rfl rfl
set_option maxRecDepth 10000 in
theorem b208_32 {d : Nat} {l0 : Option sm_V} {l1 : Option sm_V} {l2 : Option sm_V} {qs0 : Option Nat} {Z : Nat → Nat → Int} {Rf : Nat → Nat → Option Nat} {K : Nat → Nat × Nat} {n z : Nat} {Q : Option sm_V → sm_S → Prop} : sm_wp d 208 32 [l0, l1, l2] [.inr qs0] (Z, Rf, K, n, z) Q = (Q (some (.inr qs0)) (Z, Rf, K, n, z)) := w_aret t208_32
