theorem t166_0 : sm_at 166 0 = some (1, .iconst 0, 0, 0, 0) := rfl
theorem t166_1 : sm_at 166 1 = some (1, .istore_n 2, 0, 0, 0) := rfl
theorem t166_2 : sm_at 166 2 = some (1, .iload_n 2, 0, 0, 0) := rfl
theorem t166_3 : sm_at 166 3 = some (1, .aload_n 0, 0, 0, 0) := rfl
theorem t166_4 : sm_at 166 4 = some (3, .getfield 7, 11, 0, 0) := rfl
theorem t166_7 : sm_at 166 7 = some (3, .sipush 1985, 0, 0, 0) := rfl
theorem t166_10 : sm_at 166 10 = some (1, .iload_n 1, 0, 0, 0) := rfl
theorem t166_11 : sm_at 166 11 = some (1, .iadd, 0, 0, 0) := rfl
theorem t166_12 : sm_at 166 12 = some (1, .iaload, 0, 0, 0) := rfl
theorem t166_13 : sm_at 166 13 = some (3, .if_icmp .ge 79, 0, 0, 0) := rfl
theorem t166_16 : sm_at 166 16 = some (2, .bipush 16, 0, 0, 0) := rfl
theorem t166_18 : sm_at 166 18 = some (1, .iload_n 1, 0, 0, 0) := rfl
theorem t166_19 : sm_at 166 19 = some (1, .imul, 0, 0, 0) := rfl
theorem t166_20 : sm_at 166 20 = some (1, .iload_n 2, 0, 0, 0) := rfl
theorem t166_21 : sm_at 166 21 = some (1, .iadd, 0, 0, 0) := rfl
theorem t166_22 : sm_at 166 22 = some (1, .istore_n 3, 0, 0, 0) := rfl
theorem t166_23 : sm_at 166 23 = some (1, .aload_n 0, 0, 0, 0) := rfl
theorem t166_24 : sm_at 166 24 = some (3, .getfield 7, 11, 0, 0) := rfl
theorem t166_27 : sm_at 166 27 = some (3, .sipush 2130, 0, 0, 0) := rfl
theorem t166_30 : sm_at 166 30 = some (1, .iload_n 3, 0, 0, 0) := rfl
theorem t166_31 : sm_at 166 31 = some (1, .iadd, 0, 0, 0) := rfl
theorem t166_32 : sm_at 166 32 = some (1, .iaload, 0, 0, 0) := rfl
theorem t166_33 : sm_at 166 33 = some (1, .aload_n 0, 0, 0, 0) := rfl
theorem t166_34 : sm_at 166 34 = some (3, .getfield 7, 11, 0, 0) := rfl
theorem t166_37 : sm_at 166 37 = some (3, .sipush 2060, 0, 0, 0) := rfl
theorem t166_40 : sm_at 166 40 = some (1, .iload_n 3, 0, 0, 0) := rfl
theorem t166_41 : sm_at 166 41 = some (1, .iadd, 0, 0, 0) := rfl
theorem t166_42 : sm_at 166 42 = some (1, .iaload, 0, 0, 0) := rfl
theorem t166_43 : sm_at 166 43 = some (3, .if_icmp .eq 32, 0, 0, 0) := rfl
theorem t166_46 : sm_at 166 46 = some (1, .aload_n 0, 0, 0, 0) := rfl
theorem t166_47 : sm_at 166 47 = some (1, .iload_n 1, 0, 0, 0) := rfl
theorem t166_48 : sm_at 166 48 = some (1, .aload_n 0, 0, 0, 0) := rfl
theorem t166_49 : sm_at 166 49 = some (3, .getfield 7, 11, 0, 0) := rfl
theorem t166_52 : sm_at 166 52 = some (3, .sipush 2060, 0, 0, 0) := rfl
theorem t166_55 : sm_at 166 55 = some (1, .iload_n 3, 0, 0, 0) := rfl
theorem t166_56 : sm_at 166 56 = some (1, .iadd, 0, 0, 0) := rfl
theorem t166_57 : sm_at 166 57 = some (1, .iaload, 0, 0, 0) := rfl
theorem t166_58 : sm_at 166 58 = some (1, .aload_n 0, 0, 0, 0) := rfl
theorem t166_59 : sm_at 166 59 = some (3, .getfield 7, 11, 0, 0) := rfl
theorem t166_62 : sm_at 166 62 = some (3, .sipush 2130, 0, 0, 0) := rfl
theorem t166_65 : sm_at 166 65 = some (1, .iload_n 3, 0, 0, 0) := rfl
theorem t166_66 : sm_at 166 66 = some (1, .iadd, 0, 0, 0) := rfl
theorem t166_67 : sm_at 166 67 = some (1, .iaload, 0, 0, 0) := rfl
theorem t166_68 : sm_at 166 68 = some (3, .invokevirtual 251, 159, 4, 0) := rfl
theorem t166_71 : sm_at 166 71 = some (1, .iconst 1, 0, 0, 0) := rfl
theorem t166_72 : sm_at 166 72 = some (3, .if_icmp .ne 14, 0, 0, 0) := rfl
theorem t166_75 : sm_at 166 75 = some (1, .aload_n 0, 0, 0, 0) := rfl
theorem t166_76 : sm_at 166 76 = some (3, .getfield 7, 11, 0, 0) := rfl
theorem t166_79 : sm_at 166 79 = some (3, .sipush 1990, 0, 0, 0) := rfl
theorem t166_82 : sm_at 166 82 = some (1, .iload_n 3, 0, 0, 0) := rfl
theorem t166_83 : sm_at 166 83 = some (1, .iadd, 0, 0, 0) := rfl
theorem t166_84 : sm_at 166 84 = some (1, .iaload, 0, 0, 0) := rfl
theorem t166_85 : sm_at 166 85 = some (1, .ireturn, 0, 0, 0) := rfl
theorem t166_86 : sm_at 166 86 = some (3, .iinc 2 1, 0, 0, 0) := rfl
theorem t166_89 : sm_at 166 89 = some (3, .goto (-87), 0, 0, 0) := rfl
theorem t166_92 : sm_at 166 92 = some (1, .iconst 0, 0, 0, 0) := rfl
theorem t166_93 : sm_at 166 93 = some (1, .ireturn, 0, 0, 0) := rfl
set_option maxRecDepth 10000 in
theorem b166_0 {d : Nat} {l0 : Option sm_V} {l1 : Option sm_V} {l2 : Option sm_V} {l3 : Option sm_V} {Z : Nat → Nat → Int} {Rf : Nat → Nat → Option Nat} {K : Nat → Nat × Nat} {n z : Nat} {Q : Option sm_V → sm_S → Prop} : sm_wp d 166 0 [l0, l1, l2, l3] [] (Z, Rf, K, n, z) Q = (sm_wp d 166 2 [l0, l1, some (.inl 0), l3] [] (Z, Rf, K, n, z) Q) := (w_iconst t166_0 rfl).trans (w_istore_n t166_1 rfl (Nat.le_of_ble_eq_true rfl) rfl)
set_option maxRecDepth 10000 in
theorem b166_2 {d : Nat} {r0 : Nat} {x1 : Int} {x2 : Int} {l3 : Option sm_V} {Z : Nat → Nat → Int} {Rf : Nat → Nat → Option Nat} {K : Nat → Nat × Nat} {n z : Nat} {Q : Option sm_V → sm_S → Prop} : sm_wp d 166 2 [some (.inr (some r0)), some (.inl x1), some (.inl x2), l3] [] (Z, Rf, K, n, z) Q = ((K r0).1 = 11 ∧ (Rf r0 0).isSome = true ∧ sm_rd (K (((Rf r0 0).getD 0))) (wr (1985 + x1)) ∧ (if wr (Z (((Rf r0 0).getD 0)) ((wr (1985 + x1)).toNat)) ≤ wr x2 then sm_wp d 166 92 [some (.inr (some r0)), some (.inl x1), some (.inl x2), l3] [] (Z, Rf, K, n, z) Q else sm_wp d 166 16 [some (.inr (some r0)), some (.inl x1), some (.inl x2), l3] [] (Z, Rf, K, n, z) Q)) := (w_iload_n t166_2 rfl rfl).trans ((w_aload_n t166_3 rfl rfl).trans ((w_getR t166_4 rfl (by decide)).trans (congrArg (And _) (congrArg (And _) ((w_sipush t166_7 rfl).trans ((w_iload_n t166_10 rfl rfl).trans ((w_iadd t166_11 rfl).trans ((w_iald t166_12 rfl rfl).trans (congrArg (And _) (w_icge t166_13 rfl rfl rfl rfl))))))))))
set_option maxRecDepth 10000 in
theorem b166_16 {d : Nat} {r0 : Nat} {x1 : Int} {x2 : Int} {l3 : Option sm_V} {Z : Nat → Nat → Int} {Rf : Nat → Nat → Option Nat} {K : Nat → Nat × Nat} {n z : Nat} {Q : Option sm_V → sm_S → Prop} : sm_wp d 166 16 [some (.inr (some r0)), some (.inl x1), some (.inl x2), l3] [] (Z, Rf, K, n, z) Q = ((K r0).1 = 11 ∧ (Rf r0 0).isSome = true ∧ sm_rd (K (((Rf r0 0).getD 0))) (wr (2130 + ((16 * x1) + x2))) ∧ (K r0).1 = 11 ∧ (Rf r0 0).isSome = true ∧ sm_rd (K (((Rf r0 0).getD 0))) (wr (2060 + ((16 * x1) + x2))) ∧ (if wr (Z (((Rf r0 0).getD 0)) ((wr (2130 + ((16 * x1) + x2))).toNat)) = wr (Z (((Rf r0 0).getD 0)) ((wr (2060 + ((16 * x1) + x2))).toNat)) then sm_wp d 166 75 [some (.inr (some r0)), some (.inl x1), some (.inl x2), some (.inl ((16 * x1) + x2))] [] (Z, Rf, K, n, z) Q else sm_wp d 166 46 [some (.inr (some r0)), some (.inl x1), some (.inl x2), some (.inl ((16 * x1) + x2))] [] (Z, Rf, K, n, z) Q)) := (w_bipush t166_16 rfl).trans ((w_iload_n t166_18 rfl rfl).trans ((w_imul t166_19 rfl).trans ((w_iload_n t166_20 rfl rfl).trans ((w_iadd t166_21 rfl).trans ((w_istore_n t166_22 rfl (Nat.le_of_ble_eq_true rfl) rfl).trans ((w_aload_n t166_23 rfl rfl).trans ((w_getR t166_24 rfl (by decide)).trans (congrArg (And _) (congrArg (And _) ((w_sipush t166_27 rfl).trans ((w_iload_n t166_30 rfl rfl).trans ((w_iadd t166_31 rfl).trans ((w_iald t166_32 rfl rfl).trans (congrArg (And _) ((w_aload_n t166_33 rfl rfl).trans ((w_getR t166_34 rfl (by decide)).trans (congrArg (And _) (congrArg (And _) ((w_sipush t166_37 rfl).trans ((w_iload_n t166_40 rfl rfl).trans ((w_iadd t166_41 rfl).trans ((w_iald t166_42 rfl rfl).trans (congrArg (And _) (w_iceq t166_43 rfl rfl rfl rfl))))))))))))))))))))))))
set_option maxRecDepth 10000 in
theorem b166_46 {d : Nat} {r0 : Nat} {x1 : Int} {l2 : Option sm_V} {x3 : Int} {Z : Nat → Nat → Int} {Rf : Nat → Nat → Option Nat} {K : Nat → Nat × Nat} {n z : Nat} {Q : Option sm_V → sm_S → Prop} : sm_wp (d + 1) 166 46 [some (.inr (some r0)), some (.inl x1), l2, some (.inl x3)] [] (Z, Rf, K, n, z) Q = ((K r0).1 = 11 ∧ (Rf r0 0).isSome = true ∧ sm_rd (K (((Rf r0 0).getD 0))) (wr (2060 + x3)) ∧ (K r0).1 = 11 ∧ (Rf r0 0).isSome = true ∧ sm_rd (K (((Rf r0 0).getD 0))) (wr (2130 + x3)) ∧ (K r0).1 = 11 ∧ sm_call d 159 [.inr (some r0), .inl x1, .inl (Z (((Rf r0 0).getD 0)) ((wr (2060 + x3)).toNat)), .inl (Z (((Rf r0 0).getD 0)) ((wr (2130 + x3)).toNat))] (Z, Rf, K, n, z) (sm_cont (d + 1) 166 71 [some (.inr (some r0)), some (.inl x1), l2, some (.inl x3)] [] Q)) := (w_aload_n t166_46 rfl rfl).trans ((w_iload_n t166_47 rfl rfl).trans ((w_aload_n t166_48 rfl rfl).trans ((w_getR t166_49 rfl (by decide)).trans (congrArg (And _) (congrArg (And _) ((w_sipush t166_52 rfl).trans ((w_iload_n t166_55 rfl rfl).trans ((w_iadd t166_56 rfl).trans ((w_iald t166_57 rfl rfl).trans (congrArg (And _) ((w_aload_n t166_58 rfl rfl).trans ((w_getR t166_59 rfl (by decide)).trans (congrArg (And _) (congrArg (And _) ((w_sipush t166_62 rfl).trans ((w_iload_n t166_65 rfl rfl).trans ((w_iadd t166_66 rfl).trans ((w_iald t166_67 rfl rfl).trans (congrArg (And _) (w_callV t166_68 rfl rfl rfl rfl (Nat.le_of_ble_eq_true rfl) (Nat.le_of_ble_eq_true rfl) rfl (by decide)))))))))))))))))))))
set_option maxRecDepth 10000 in
theorem b166_71 {d : Nat} {l0 : Option sm_V} {l1 : Option sm_V} {l2 : Option sm_V} {l3 : Option sm_V} {s0 : Int} {Z : Nat → Nat → Int} {Rf : Nat → Nat → Option Nat} {K : Nat → Nat × Nat} {n z : Nat} {Q : Option sm_V → sm_S → Prop} : sm_wp d 166 71 [l0, l1, l2, l3] [.inl s0] (Z, Rf, K, n, z) Q = (if wr s0 = (1 : Int) then sm_wp d 166 75 [l0, l1, l2, l3] [] (Z, Rf, K, n, z) Q else sm_wp d 166 86 [l0, l1, l2, l3] [] (Z, Rf, K, n, z) Q) := (w_iconst t166_71 rfl).trans (w_icne t166_72 rfl wl_1 rfl rfl)
set_option maxRecDepth 10000 in
theorem b166_75 {d : Nat} {r0 : Nat} {l1 : Option sm_V} {l2 : Option sm_V} {x3 : Int} {Z : Nat → Nat → Int} {Rf : Nat → Nat → Option Nat} {K : Nat → Nat × Nat} {n z : Nat} {Q : Option sm_V → sm_S → Prop} : sm_wp d 166 75 [some (.inr (some r0)), l1, l2, some (.inl x3)] [] (Z, Rf, K, n, z) Q = ((K r0).1 = 11 ∧ (Rf r0 0).isSome = true ∧ sm_rd (K (((Rf r0 0).getD 0))) (wr (1990 + x3)) ∧ Q (some (.inl (Z (((Rf r0 0).getD 0)) ((wr (1990 + x3)).toNat)))) (Z, Rf, K, n, z)) := (w_aload_n t166_75 rfl rfl).trans ((w_getR t166_76 rfl (by decide)).trans (congrArg (And _) (congrArg (And _) ((w_sipush t166_79 rfl).trans ((w_iload_n t166_82 rfl rfl).trans ((w_iadd t166_83 rfl).trans ((w_iald t166_84 rfl rfl).trans (congrArg (And _) (w_iret t166_85)))))))))
set_option maxRecDepth 10000 in
theorem b166_86 {d : Nat} {l0 : Option sm_V} {l1 : Option sm_V} {x2 : Int} {l3 : Option sm_V} {Z : Nat → Nat → Int} {Rf : Nat → Nat → Option Nat} {K : Nat → Nat × Nat} {n z : Nat} {Q : Option sm_V → sm_S → Prop} : sm_wp d 166 86 [l0, l1, some (.inl x2), l3] [] (Z, Rf, K, n, z) Q = (sm_wp d 166 2 [l0, l1, some (.inl (x2 + 1)), l3] [] (Z, Rf, K, n, z) Q) := (w_iinc t166_86 rfl rfl (Nat.le_of_ble_eq_true rfl) rfl).trans (w_goto t166_89 rfl)
set_option maxRecDepth 10000 in
theorem b166_92 {d : Nat} {l0 : Option sm_V} {l1 : Option sm_V} {l2 : Option sm_V} {l3 : Option sm_V} {Z : Nat → Nat → Int} {Rf : Nat → Nat → Option Nat} {K : Nat → Nat × Nat} {n z : Nat} {Q : Option sm_V → sm_S → Prop} : sm_wp d 166 92 [l0, l1, l2, l3] [] (Z, Rf, K, n, z) Q = (Q (some (.inl 0)) (Z, Rf, K, n, z)) := (w_iconst t166_92 rfl).trans (w_iret t166_93)
theorem t167_0 : sm_at 167 0 = some (1, .iconst (-1), 0, 0, 0) := rfl
theorem t167_1 : sm_at 167 1 = some (2, .istore 4, 0, 0, 0) := rfl
theorem t167_3 : sm_at 167 3 = some (1, .iconst 0, 0, 0, 0) := rfl
theorem t167_4 : sm_at 167 4 = some (2, .istore 5, 0, 0, 0) := rfl
theorem t167_6 : sm_at 167 6 = some (2, .iload 5, 0, 0, 0) := rfl
theorem t167_8 : sm_at 167 8 = some (1, .iconst 4, 0, 0, 0) := rfl
theorem t167_9 : sm_at 167 9 = some (3, .if_icmp .ge 80, 0, 0, 0) := rfl
theorem t167_12 : sm_at 167 12 = some (1, .aload_n 0, 0, 0, 0) := rfl
theorem t167_13 : sm_at 167 13 = some (1, .iload_n 2, 0, 0, 0) := rfl
theorem t167_14 : sm_at 167 14 = some (2, .iload 5, 0, 0, 0) := rfl
theorem t167_16 : sm_at 167 16 = some (3, .invokestatic 239, 160, 1, 0) := rfl
theorem t167_19 : sm_at 167 19 = some (1, .iadd, 0, 0, 0) := rfl
theorem t167_20 : sm_at 167 20 = some (1, .iload_n 3, 0, 0, 0) := rfl
theorem t167_21 : sm_at 167 21 = some (2, .iload 5, 0, 0, 0) := rfl
theorem t167_23 : sm_at 167 23 = some (3, .invokestatic 242, 161, 1, 0) := rfl
theorem t167_26 : sm_at 167 26 = some (1, .iadd, 0, 0, 0) := rfl
theorem t167_27 : sm_at 167 27 = some (3, .invokevirtual 93, 123, 3, 0) := rfl
theorem t167_30 : sm_at 167 30 = some (3, .ifCond .ne 6, 0, 0, 0) := rfl
theorem t167_33 : sm_at 167 33 = some (3, .goto 50, 0, 0, 0) := rfl
theorem t167_36 : sm_at 167 36 = some (1, .aload_n 0, 0, 0, 0) := rfl
theorem t167_37 : sm_at 167 37 = some (3, .getfield 7, 11, 0, 0) := rfl
theorem t167_40 : sm_at 167 40 = some (3, .sipush 850, 0, 0, 0) := rfl
theorem t167_43 : sm_at 167 43 = some (1, .iload_n 2, 0, 0, 0) := rfl
theorem t167_44 : sm_at 167 44 = some (1, .iload_n 3, 0, 0, 0) := rfl
theorem t167_45 : sm_at 167 45 = some (2, .iload 5, 0, 0, 0) := rfl
theorem t167_47 : sm_at 167 47 = some (3, .invokestatic 248, 162, 3, 0) := rfl
theorem t167_50 : sm_at 167 50 = some (1, .iadd, 0, 0, 0) := rfl
theorem t167_51 : sm_at 167 51 = some (1, .iaload, 0, 0, 0) := rfl
theorem t167_52 : sm_at 167 52 = some (2, .istore 6, 0, 0, 0) := rfl
theorem t167_54 : sm_at 167 54 = some (2, .iload 6, 0, 0, 0) := rfl
theorem t167_56 : sm_at 167 56 = some (1, .iconst (-1), 0, 0, 0) := rfl
theorem t167_57 : sm_at 167 57 = some (3, .if_icmp .eq 26, 0, 0, 0) := rfl
theorem t167_60 : sm_at 167 60 = some (2, .iload 6, 0, 0, 0) := rfl
theorem t167_62 : sm_at 167 62 = some (1, .iload_n 1, 0, 0, 0) := rfl
theorem t167_63 : sm_at 167 63 = some (3, .if_icmp .eq 20, 0, 0, 0) := rfl
theorem t167_66 : sm_at 167 66 = some (2, .iload 4, 0, 0, 0) := rfl
theorem t167_68 : sm_at 167 68 = some (1, .iconst (-1), 0, 0, 0) := rfl
theorem t167_69 : sm_at 167 69 = some (3, .if_icmp .eq 10, 0, 0, 0) := rfl
theorem t167_72 : sm_at 167 72 = some (2, .iload 6, 0, 0, 0) := rfl
theorem t167_74 : sm_at 167 74 = some (2, .iload 4, 0, 0, 0) := rfl
theorem t167_76 : sm_at 167 76 = some (3, .if_icmp .ge 7, 0, 0, 0) := rfl
theorem t167_79 : sm_at 167 79 = some (2, .iload 6, 0, 0, 0) := rfl
theorem t167_81 : sm_at 167 81 = some (2, .istore 4, 0, 0, 0) := rfl
theorem t167_83 : sm_at 167 83 = some (3, .iinc 5 1, 0, 0, 0) := rfl
theorem t167_86 : sm_at 167 86 = some (3, .goto (-80), 0, 0, 0) := rfl
theorem t167_89 : sm_at 167 89 = some (2, .iload 4, 0, 0, 0) := rfl
theorem t167_91 : sm_at 167 91 = some (1, .ireturn, 0, 0, 0) := rfl
set_option maxRecDepth 10000 in
theorem b167_0 {d : Nat} {l0 : Option sm_V} {l1 : Option sm_V} {l2 : Option sm_V} {l3 : Option sm_V} {l4 : Option sm_V} {l5 : Option sm_V} {l6 : Option sm_V} {Z : Nat → Nat → Int} {Rf : Nat → Nat → Option Nat} {K : Nat → Nat × Nat} {n z : Nat} {Q : Option sm_V → sm_S → Prop} : sm_wp d 167 0 [l0, l1, l2, l3, l4, l5, l6] [] (Z, Rf, K, n, z) Q = (sm_wp d 167 6 [l0, l1, l2, l3, some (.inl ((-1))), some (.inl 0), l6] [] (Z, Rf, K, n, z) Q) := (w_iconst t167_0 rfl).trans ((w_istore t167_1 rfl (Nat.le_of_ble_eq_true rfl) rfl).trans ((w_iconst t167_3 rfl).trans (w_istore t167_4 rfl (Nat.le_of_ble_eq_true rfl) rfl)))
set_option maxRecDepth 10000 in
theorem b167_6 {d : Nat} {l0 : Option sm_V} {l1 : Option sm_V} {l2 : Option sm_V} {l3 : Option sm_V} {l4 : Option sm_V} {x5 : Int} {l6 : Option sm_V} {Z : Nat → Nat → Int} {Rf : Nat → Nat → Option Nat} {K : Nat → Nat × Nat} {n z : Nat} {Q : Option sm_V → sm_S → Prop} : sm_wp d 167 6 [l0, l1, l2, l3, l4, some (.inl x5), l6] [] (Z, Rf, K, n, z) Q = (if (4 : Int) ≤ wr x5 then sm_wp d 167 89 [l0, l1, l2, l3, l4, some (.inl x5), l6] [] (Z, Rf, K, n, z) Q else sm_wp d 167 12 [l0, l1, l2, l3, l4, some (.inl x5), l6] [] (Z, Rf, K, n, z) Q) := (w_iload t167_6 rfl rfl).trans ((w_iconst t167_8 rfl).trans (w_icge t167_9 rfl wl_4 rfl rfl))
set_option maxRecDepth 10000 in
theorem b167_12 {d : Nat} {q0 : Option Nat} {l1 : Option sm_V} {x2 : Int} {l3 : Option sm_V} {l4 : Option sm_V} {x5 : Int} {l6 : Option sm_V} {Z : Nat → Nat → Int} {Rf : Nat → Nat → Option Nat} {K : Nat → Nat × Nat} {n z : Nat} {Q : Option sm_V → sm_S → Prop} : sm_wp (d + 1) 167 12 [some (.inr q0), l1, some (.inl x2), l3, l4, some (.inl x5), l6] [] (Z, Rf, K, n, z) Q = (sm_call d 160 [.inl x5] (Z, Rf, K, n, z) (sm_cont (d + 1) 167 19 [some (.inr q0), l1, some (.inl x2), l3, l4, some (.inl x5), l6] [.inl x2, .inr q0] Q)) := (w_aload_n t167_12 rfl rfl).trans ((w_iload_n t167_13 rfl rfl).trans ((w_iload t167_14 rfl rfl).trans (w_callS t167_16 rfl rfl rfl rfl (Nat.le_of_ble_eq_true rfl) (Nat.le_of_ble_eq_true rfl) rfl)))
set_option maxRecDepth 10000 in
theorem b167_19 {d : Nat} {l0 : Option sm_V} {l1 : Option sm_V} {l2 : Option sm_V} {x3 : Int} {l4 : Option sm_V} {x5 : Int} {l6 : Option sm_V} {qs0 : Option Nat} {s1 : Int} {s2 : Int} {Z : Nat → Nat → Int} {Rf : Nat → Nat → Option Nat} {K : Nat → Nat × Nat} {n z : Nat} {Q : Option sm_V → sm_S → Prop} : sm_wp (d + 1) 167 19 [l0, l1, l2, some (.inl x3), l4, some (.inl x5), l6] [.inl s2, .inl s1, .inr qs0] (Z, Rf, K, n, z) Q = (sm_call d 161 [.inl x5] (Z, Rf, K, n, z) (sm_cont (d + 1) 167 26 [l0, l1, l2, some (.inl x3), l4, some (.inl x5), l6] [.inl x3, .inl (s1 + s2), .inr qs0] Q)) := (w_iadd t167_19 rfl).trans ((w_iload_n t167_20 rfl rfl).trans ((w_iload t167_21 rfl rfl).trans (w_callS t167_23 rfl rfl rfl rfl (Nat.le_of_ble_eq_true rfl) (Nat.le_of_ble_eq_true rfl) rfl)))
set_option maxRecDepth 10000 in
theorem b167_26 {d : Nat} {l0 : Option sm_V} {l1 : Option sm_V} {l2 : Option sm_V} {l3 : Option sm_V} {l4 : Option sm_V} {l5 : Option sm_V} {l6 : Option sm_V} {rs0 : Nat} {s1 : Int} {s2 : Int} {s3 : Int} {Z : Nat → Nat → Int} {Rf : Nat → Nat → Option Nat} {K : Nat → Nat × Nat} {n z : Nat} {Q : Option sm_V → sm_S → Prop} : sm_wp (d + 1) 167 26 [l0, l1, l2, l3, l4, l5, l6] [.inl s3, .inl s2, .inl s1, .inr (some rs0)] (Z, Rf, K, n, z) Q = ((K rs0).1 = 11 ∧ sm_call d 123 [.inr (some rs0), .inl s1, .inl (s2 + s3)] (Z, Rf, K, n, z) (sm_cont (d + 1) 167 30 [l0, l1, l2, l3, l4, l5, l6] [] Q)) := (w_iadd t167_26 rfl).trans (w_callV t167_27 rfl rfl rfl rfl (Nat.le_of_ble_eq_true rfl) (Nat.le_of_ble_eq_true rfl) rfl (by decide))
set_option maxRecDepth 10000 in
theorem b167_30 {d : Nat} {l0 : Option sm_V} {l1 : Option sm_V} {l2 : Option sm_V} {l3 : Option sm_V} {l4 : Option sm_V} {l5 : Option sm_V} {l6 : Option sm_V} {s0 : Int} {Z : Nat → Nat → Int} {Rf : Nat → Nat → Option Nat} {K : Nat → Nat × Nat} {n z : Nat} {Q : Option sm_V → sm_S → Prop} : sm_wp d 167 30 [l0, l1, l2, l3, l4, l5, l6] [.inl s0] (Z, Rf, K, n, z) Q = (if wr s0 = 0 then sm_wp d 167 33 [l0, l1, l2, l3, l4, l5, l6] [] (Z, Rf, K, n, z) Q else sm_wp d 167 36 [l0, l1, l2, l3, l4, l5, l6] [] (Z, Rf, K, n, z) Q) := w_ifne t167_30 rfl rfl rfl
set_option maxRecDepth 10000 in
theorem b167_33 {d : Nat} {l0 : Option sm_V} {l1 : Option sm_V} {l2 : Option sm_V} {l3 : Option sm_V} {l4 : Option sm_V} {l5 : Option sm_V} {l6 : Option sm_V} {Z : Nat → Nat → Int} {Rf : Nat → Nat → Option Nat} {K : Nat → Nat × Nat} {n z : Nat} {Q : Option sm_V → sm_S → Prop} : sm_wp d 167 33 [l0, l1, l2, l3, l4, l5, l6] [] (Z, Rf, K, n, z) Q = (sm_wp d 167 83 [l0, l1, l2, l3, l4, l5, l6] [] (Z, Rf, K, n, z) Q) := w_goto t167_33 rfl
set_option maxRecDepth 10000 in
theorem b167_36 {d : Nat} {r0 : Nat} {l1 : Option sm_V} {x2 : Int} {x3 : Int} {l4 : Option sm_V} {x5 : Int} {l6 : Option sm_V} {Z : Nat → Nat → Int} {Rf : Nat → Nat → Option Nat} {K : Nat → Nat × Nat} {n z : Nat} {Q : Option sm_V → sm_S → Prop} : sm_wp (d + 1) 167 36 [some (.inr (some r0)), l1, some (.inl x2), some (.inl x3), l4, some (.inl x5), l6] [] (Z, Rf, K, n, z) Q = ((K r0).1 = 11 ∧ (Rf r0 0).isSome = true ∧ sm_call d 162 [.inl x2, .inl x3, .inl x5] (Z, Rf, K, n, z) (sm_cont (d + 1) 167 50 [some (.inr (some r0)), l1, some (.inl x2), some (.inl x3), l4, some (.inl x5), l6] [.inl 850, .inr (some ((Rf r0 0).getD 0))] Q)) := (w_aload_n t167_36 rfl rfl).trans ((w_getR t167_37 rfl (by decide)).trans (congrArg (And _) (congrArg (And _) ((w_sipush t167_40 rfl).trans ((w_iload_n t167_43 rfl rfl).trans ((w_iload_n t167_44 rfl rfl).trans ((w_iload t167_45 rfl rfl).trans (w_callS t167_47 rfl rfl rfl rfl (Nat.le_of_ble_eq_true rfl) (Nat.le_of_ble_eq_true rfl) rfl))))))))
set_option maxRecDepth 10000 in
theorem b167_50 {d : Nat} {l0 : Option sm_V} {l1 : Option sm_V} {l2 : Option sm_V} {l3 : Option sm_V} {l4 : Option sm_V} {l5 : Option sm_V} {l6 : Option sm_V} {rs0 : Nat} {s1 : Int} {s2 : Int} {Z : Nat → Nat → Int} {Rf : Nat → Nat → Option Nat} {K : Nat → Nat × Nat} {n z : Nat} {Q : Option sm_V → sm_S → Prop} : sm_wp d 167 50 [l0, l1, l2, l3, l4, l5, l6] [.inl s2, .inl s1, .inr (some rs0)] (Z, Rf, K, n, z) Q = (sm_rd (K rs0) (wr (s1 + s2)) ∧ (if wr (Z rs0 ((wr (s1 + s2)).toNat)) = (-1 : Int) then sm_wp d 167 83 [l0, l1, l2, l3, l4, l5, some (.inl (Z rs0 ((wr (s1 + s2)).toNat)))] [] (Z, Rf, K, n, z) Q else sm_wp d 167 60 [l0, l1, l2, l3, l4, l5, some (.inl (Z rs0 ((wr (s1 + s2)).toNat)))] [] (Z, Rf, K, n, z) Q)) := (w_iadd t167_50 rfl).trans ((w_iald t167_51 rfl rfl).trans (congrArg (And _) ((w_istore t167_52 rfl (Nat.le_of_ble_eq_true rfl) rfl).trans ((w_iload t167_54 rfl rfl).trans ((w_iconst t167_56 rfl).trans (w_iceq t167_57 rfl wl_m1 rfl rfl))))))
set_option maxRecDepth 10000 in
theorem b167_60 {d : Nat} {l0 : Option sm_V} {x1 : Int} {l2 : Option sm_V} {l3 : Option sm_V} {l4 : Option sm_V} {l5 : Option sm_V} {x6 : Int} {Z : Nat → Nat → Int} {Rf : Nat → Nat → Option Nat} {K : Nat → Nat × Nat} {n z : Nat} {Q : Option sm_V → sm_S → Prop} : sm_wp d 167 60 [l0, some (.inl x1), l2, l3, l4, l5, some (.inl x6)] [] (Z, Rf, K, n, z) Q = (if wr x6 = wr x1 then sm_wp d 167 83 [l0, some (.inl x1), l2, l3, l4, l5, some (.inl x6)] [] (Z, Rf, K, n, z) Q else sm_wp d 167 66 [l0, some (.inl x1), l2, l3, l4, l5, some (.inl x6)] [] (Z, Rf, K, n, z) Q) := (w_iload t167_60 rfl rfl).trans ((w_iload_n t167_62 rfl rfl).trans (w_iceq t167_63 rfl rfl rfl rfl))
set_option maxRecDepth 10000 in
theorem b167_66 {d : Nat} {l0 : Option sm_V} {l1 : Option sm_V} {l2 : Option sm_V} {l3 : Option sm_V} {x4 : Int} {l5 : Option sm_V} {l6 : Option sm_V} {Z : Nat → Nat → Int} {Rf : Nat → Nat → Option Nat} {K : Nat → Nat × Nat} {n z : Nat} {Q : Option sm_V → sm_S → Prop} : sm_wp d 167 66 [l0, l1, l2, l3, some (.inl x4), l5, l6] [] (Z, Rf, K, n, z) Q = (if wr x4 = (-1 : Int) then sm_wp d 167 79 [l0, l1, l2, l3, some (.inl x4), l5, l6] [] (Z, Rf, K, n, z) Q else sm_wp d 167 72 [l0, l1, l2, l3, some (.inl x4), l5, l6] [] (Z, Rf, K, n, z) Q) := (w_iload t167_66 rfl rfl).trans ((w_iconst t167_68 rfl).trans (w_iceq t167_69 rfl wl_m1 rfl rfl))
set_option maxRecDepth 10000 in
theorem b167_72 {d : Nat} {l0 : Option sm_V} {l1 : Option sm_V} {l2 : Option sm_V} {l3 : Option sm_V} {x4 : Int} {l5 : Option sm_V} {x6 : Int} {Z : Nat → Nat → Int} {Rf : Nat → Nat → Option Nat} {K : Nat → Nat × Nat} {n z : Nat} {Q : Option sm_V → sm_S → Prop} : sm_wp d 167 72 [l0, l1, l2, l3, some (.inl x4), l5, some (.inl x6)] [] (Z, Rf, K, n, z) Q = (if wr x4 ≤ wr x6 then sm_wp d 167 83 [l0, l1, l2, l3, some (.inl x4), l5, some (.inl x6)] [] (Z, Rf, K, n, z) Q else sm_wp d 167 79 [l0, l1, l2, l3, some (.inl x4), l5, some (.inl x6)] [] (Z, Rf, K, n, z) Q) := (w_iload t167_72 rfl rfl).trans ((w_iload t167_74 rfl rfl).trans (w_icge t167_76 rfl rfl rfl rfl))
set_option maxRecDepth 10000 in
theorem b167_79 {d : Nat} {l0 : Option sm_V} {l1 : Option sm_V} {l2 : Option sm_V} {l3 : Option sm_V} {l4 : Option sm_V} {l5 : Option sm_V} {x6 : Int} {Z : Nat → Nat → Int} {Rf : Nat → Nat → Option Nat} {K : Nat → Nat × Nat} {n z : Nat} {Q : Option sm_V → sm_S → Prop} : sm_wp d 167 79 [l0, l1, l2, l3, l4, l5, some (.inl x6)] [] (Z, Rf, K, n, z) Q = (sm_wp d 167 83 [l0, l1, l2, l3, some (.inl x6), l5, some (.inl x6)] [] (Z, Rf, K, n, z) Q) := (w_iload t167_79 rfl rfl).trans (w_istore t167_81 rfl (Nat.le_of_ble_eq_true rfl) rfl)
set_option maxRecDepth 10000 in
theorem b167_83 {d : Nat} {l0 : Option sm_V} {l1 : Option sm_V} {l2 : Option sm_V} {l3 : Option sm_V} {l4 : Option sm_V} {x5 : Int} {l6 : Option sm_V} {Z : Nat → Nat → Int} {Rf : Nat → Nat → Option Nat} {K : Nat → Nat × Nat} {n z : Nat} {Q : Option sm_V → sm_S → Prop} : sm_wp d 167 83 [l0, l1, l2, l3, l4, some (.inl x5), l6] [] (Z, Rf, K, n, z) Q = (sm_wp d 167 6 [l0, l1, l2, l3, l4, some (.inl (x5 + 1)), l6] [] (Z, Rf, K, n, z) Q) := (w_iinc t167_83 rfl rfl (Nat.le_of_ble_eq_true rfl) rfl).trans (w_goto t167_86 rfl)
set_option maxRecDepth 10000 in
theorem b167_89 {d : Nat} {l0 : Option sm_V} {l1 : Option sm_V} {l2 : Option sm_V} {l3 : Option sm_V} {x4 : Int} {l5 : Option sm_V} {l6 : Option sm_V} {Z : Nat → Nat → Int} {Rf : Nat → Nat → Option Nat} {K : Nat → Nat × Nat} {n z : Nat} {Q : Option sm_V → sm_S → Prop} : sm_wp d 167 89 [l0, l1, l2, l3, some (.inl x4), l5, l6] [] (Z, Rf, K, n, z) Q = (Q (some (.inl x4)) (Z, Rf, K, n, z)) := (w_iload t167_89 rfl rfl).trans (w_iret t167_91)
theorem t168_0 : sm_at 168 0 = some (1, .iload_n 1, 0, 0, 0) := rfl
theorem t168_1 : sm_at 168 1 = some (1, .iconst 1, 0, 0, 0) := rfl
theorem t168_2 : sm_at 168 2 = some (1, .isub, 0, 0, 0) := rfl
theorem t168_3 : sm_at 168 3 = some (1, .istore_n 3, 0, 0, 0) := rfl
theorem t168_4 : sm_at 168 4 = some (1, .iload_n 3, 0, 0, 0) := rfl
theorem t168_5 : sm_at 168 5 = some (1, .iload_n 1, 0, 0, 0) := rfl
theorem t168_6 : sm_at 168 6 = some (3, .if_icmp .gt 58, 0, 0, 0) := rfl
theorem t168_9 : sm_at 168 9 = some (1, .iload_n 2, 0, 0, 0) := rfl
theorem t168_10 : sm_at 168 10 = some (1, .iconst 1, 0, 0, 0) := rfl
theorem t168_11 : sm_at 168 11 = some (1, .isub, 0, 0, 0) := rfl
theorem t168_12 : sm_at 168 12 = some (2, .istore 4, 0, 0, 0) := rfl
theorem t168_14 : sm_at 168 14 = some (2, .iload 4, 0, 0, 0) := rfl
theorem t168_16 : sm_at 168 16 = some (1, .iload_n 2, 0, 0, 0) := rfl
theorem t168_17 : sm_at 168 17 = some (3, .if_icmp .gt 41, 0, 0, 0) := rfl
theorem t168_20 : sm_at 168 20 = some (1, .aload_n 0, 0, 0, 0) := rfl
theorem t168_21 : sm_at 168 21 = some (1, .iload_n 3, 0, 0, 0) := rfl
theorem t168_22 : sm_at 168 22 = some (2, .iload 4, 0, 0, 0) := rfl
theorem t168_24 : sm_at 168 24 = some (3, .invokevirtual 79, 121, 3, 0) := rfl
theorem t168_27 : sm_at 168 27 = some (3, .ifCond .eq 25, 0, 0, 0) := rfl
theorem t168_30 : sm_at 168 30 = some (1, .aload_n 0, 0, 0, 0) := rfl
theorem t168_31 : sm_at 168 31 = some (3, .getfield 7, 11, 0, 0) := rfl
theorem t168_34 : sm_at 168 34 = some (3, .sipush 320, 0, 0, 0) := rfl
theorem t168_37 : sm_at 168 37 = some (2, .bipush 10, 0, 0, 0) := rfl
theorem t168_39 : sm_at 168 39 = some (2, .iload 4, 0, 0, 0) := rfl
theorem t168_41 : sm_at 168 41 = some (1, .imul, 0, 0, 0) := rfl
theorem t168_42 : sm_at 168 42 = some (1, .iadd, 0, 0, 0) := rfl
theorem t168_43 : sm_at 168 43 = some (1, .iload_n 3, 0, 0, 0) := rfl
theorem t168_44 : sm_at 168 44 = some (1, .iadd, 0, 0, 0) := rfl
theorem t168_45 : sm_at 168 45 = some (1, .iaload, 0, 0, 0) := rfl
theorem t168_46 : sm_at 168 46 = some (1, .iconst 1, 0, 0, 0) := rfl
theorem t168_47 : sm_at 168 47 = some (3, .if_icmp .ne 5, 0, 0, 0) := rfl
theorem t168_50 : sm_at 168 50 = some (1, .iconst 1, 0, 0, 0) := rfl
theorem t168_51 : sm_at 168 51 = some (1, .ireturn, 1, 0, 0) := rfl
theorem t168_52 : sm_at 168 52 = some (3, .iinc 4 1, 0, 0, 0) := rfl
theorem t168_55 : sm_at 168 55 = some (3, .goto (-41), 0, 0, 0) := rfl
theorem t168_58 : sm_at 168 58 = some (3, .iinc 3 1, 0, 0, 0) := rfl
theorem t168_61 : sm_at 168 61 = some (3, .goto (-57), 0, 0, 0) := rfl
theorem t168_64 : sm_at 168 64 = some (1, .iconst 0, 0, 0, 0) := rfl
theorem t168_65 : sm_at 168 65 = some (1, .ireturn, 1, 0, 0) := rfl
set_option maxRecDepth 10000 in
theorem b168_0 {d : Nat} {l0 : Option sm_V} {x1 : Int} {l2 : Option sm_V} {l3 : Option sm_V} {l4 : Option sm_V} {Z : Nat → Nat → Int} {Rf : Nat → Nat → Option Nat} {K : Nat → Nat × Nat} {n z : Nat} {Q : Option sm_V → sm_S → Prop} : sm_wp d 168 0 [l0, some (.inl x1), l2, l3, l4] [] (Z, Rf, K, n, z) Q = (sm_wp d 168 4 [l0, some (.inl x1), l2, some (.inl (x1 - 1)), l4] [] (Z, Rf, K, n, z) Q) := (w_iload_n t168_0 rfl rfl).trans ((w_iconst t168_1 rfl).trans ((w_isub t168_2 rfl).trans (w_istore_n t168_3 rfl (Nat.le_of_ble_eq_true rfl) rfl)))
set_option maxRecDepth 10000 in
theorem b168_4 {d : Nat} {l0 : Option sm_V} {x1 : Int} {l2 : Option sm_V} {x3 : Int} {l4 : Option sm_V} {Z : Nat → Nat → Int} {Rf : Nat → Nat → Option Nat} {K : Nat → Nat × Nat} {n z : Nat} {Q : Option sm_V → sm_S → Prop} : sm_wp d 168 4 [l0, some (.inl x1), l2, some (.inl x3), l4] [] (Z, Rf, K, n, z) Q = (if wr x1 < wr x3 then sm_wp d 168 64 [l0, some (.inl x1), l2, some (.inl x3), l4] [] (Z, Rf, K, n, z) Q else sm_wp d 168 9 [l0, some (.inl x1), l2, some (.inl x3), l4] [] (Z, Rf, K, n, z) Q) := (w_iload_n t168_4 rfl rfl).trans ((w_iload_n t168_5 rfl rfl).trans (w_icgt t168_6 rfl rfl rfl rfl))
set_option maxRecDepth 10000 in
theorem b168_9 {d : Nat} {l0 : Option sm_V} {l1 : Option sm_V} {x2 : Int} {l3 : Option sm_V} {l4 : Option sm_V} {Z : Nat → Nat → Int} {Rf : Nat → Nat → Option Nat} {K : Nat → Nat × Nat} {n z : Nat} {Q : Option sm_V → sm_S → Prop} : sm_wp d 168 9 [l0, l1, some (.inl x2), l3, l4] [] (Z, Rf, K, n, z) Q = (sm_wp d 168 14 [l0, l1, some (.inl x2), l3, some (.inl (x2 - 1))] [] (Z, Rf, K, n, z) Q) := (w_iload_n t168_9 rfl rfl).trans ((w_iconst t168_10 rfl).trans ((w_isub t168_11 rfl).trans (w_istore t168_12 rfl (Nat.le_of_ble_eq_true rfl) rfl)))
set_option maxRecDepth 10000 in
theorem b168_14 {d : Nat} {l0 : Option sm_V} {l1 : Option sm_V} {x2 : Int} {l3 : Option sm_V} {x4 : Int} {Z : Nat → Nat → Int} {Rf : Nat → Nat → Option Nat} {K : Nat → Nat × Nat} {n z : Nat} {Q : Option sm_V → sm_S → Prop} : sm_wp d 168 14 [l0, l1, some (.inl x2), l3, some (.inl x4)] [] (Z, Rf, K, n, z) Q = (if wr x2 < wr x4 then sm_wp d 168 58 [l0, l1, some (.inl x2), l3, some (.inl x4)] [] (Z, Rf, K, n, z) Q else sm_wp d 168 20 [l0, l1, some (.inl x2), l3, some (.inl x4)] [] (Z, Rf, K, n, z) Q) := (w_iload t168_14 rfl rfl).trans ((w_iload_n t168_16 rfl rfl).trans (w_icgt t168_17 rfl rfl rfl rfl))
set_option maxRecDepth 10000 in
theorem b168_20 {d : Nat} {r0 : Nat} {l1 : Option sm_V} {l2 : Option sm_V} {x3 : Int} {x4 : Int} {Z : Nat → Nat → Int} {Rf : Nat → Nat → Option Nat} {K : Nat → Nat × Nat} {n z : Nat} {Q : Option sm_V → sm_S → Prop} : sm_wp (d + 1) 168 20 [some (.inr (some r0)), l1, l2, some (.inl x3), some (.inl x4)] [] (Z, Rf, K, n, z) Q = ((K r0).1 = 11 ∧ sm_call d 121 [.inr (some r0), .inl x3, .inl x4] (Z, Rf, K, n, z) (sm_cont (d + 1) 168 27 [some (.inr (some r0)), l1, l2, some (.inl x3), some (.inl x4)] [] Q)) := (w_aload_n t168_20 rfl rfl).trans ((w_iload_n t168_21 rfl rfl).trans ((w_iload t168_22 rfl rfl).trans (w_callV t168_24 rfl rfl rfl rfl (Nat.le_of_ble_eq_true rfl) (Nat.le_of_ble_eq_true rfl) rfl (by decide))))
set_option maxRecDepth 10000 in
theorem b168_27 {d : Nat} {l0 : Option sm_V} {l1 : Option sm_V} {l2 : Option sm_V} {l3 : Option sm_V} {l4 : Option sm_V} {s0 : Int} {Z : Nat → Nat → Int} {Rf : Nat → Nat → Option Nat} {K : Nat → Nat × Nat} {n z : Nat} {Q : Option sm_V → sm_S → Prop} : sm_wp d 168 27 [l0, l1, l2, l3, l4] [.inl s0] (Z, Rf, K, n, z) Q = (if wr s0 = 0 then sm_wp d 168 52 [l0, l1, l2, l3, l4] [] (Z, Rf, K, n, z) Q else sm_wp d 168 30 [l0, l1, l2, l3, l4] [] (Z, Rf, K, n, z) Q) := w_ifeq t168_27 rfl rfl rfl
set_option maxRecDepth 10000 in
theorem b168_30 {d : Nat} {r0 : Nat} {l1 : Option sm_V} {l2 : Option sm_V} {x3 : Int} {x4 : Int} {Z : Nat → Nat → Int} {Rf : Nat → Nat → Option Nat} {K : Nat → Nat × Nat} {n z : Nat} {Q : Option sm_V → sm_S → Prop} : sm_wp d 168 30 [some (.inr (some r0)), l1, l2, some (.inl x3), some (.inl x4)] [] (Z, Rf, K, n, z) Q = ((K r0).1 = 11 ∧ (Rf r0 0).isSome = true ∧ sm_rd (K (((Rf r0 0).getD 0))) (wr ((320 + (10 * x4)) + x3)) ∧ (if wr (Z (((Rf r0 0).getD 0)) ((wr ((320 + (10 * x4)) + x3)).toNat)) = (1 : Int) then sm_wp d 168 50 [some (.inr (some r0)), l1, l2, some (.inl x3), some (.inl x4)] [] (Z, Rf, K, n, z) Q else sm_wp d 168 52 [some (.inr (some r0)), l1, l2, some (.inl x3), some (.inl x4)] [] (Z, Rf, K, n, z) Q)) := (w_aload_n t168_30 rfl rfl).trans ((w_getR t168_31 rfl (by decide)).trans (congrArg (And _) (congrArg (And _) ((w_sipush t168_34 rfl).trans ((w_bipush t168_37 rfl).trans ((w_iload t168_39 rfl rfl).trans ((w_imul t168_41 rfl).trans ((w_iadd t168_42 rfl).trans ((w_iload_n t168_43 rfl rfl).trans ((w_iadd t168_44 rfl).trans ((w_iald t168_45 rfl rfl).trans (congrArg (And _) ((w_iconst t168_46 rfl).trans (w_icne t168_47 rfl wl_1 rfl rfl))))))))))))))
set_option maxRecDepth 10000 in
theorem b168_50 {d : Nat} {l0 : Option sm_V} {l1 : Option sm_V} {l2 : Option sm_V} {l3 : Option sm_V} {l4 : Option sm_V} {Z : Nat → Nat → Int} {Rf : Nat → Nat → Option Nat} {K : Nat → Nat × Nat} {n z : Nat} {Q : Option sm_V → sm_S → Prop} : sm_wp d 168 50 [l0, l1, l2, l3, l4] [] (Z, Rf, K, n, z) Q = (((1 : Int) = 0 ∨ (1 : Int) = 1) ∧ Q (some (.inl 1)) (Z, Rf, K, n, z)) := (w_iconst t168_50 rfl).trans (w_zret t168_51 wl_1)
set_option maxRecDepth 10000 in
theorem b168_52 {d : Nat} {l0 : Option sm_V} {l1 : Option sm_V} {l2 : Option sm_V} {l3 : Option sm_V} {x4 : Int} {Z : Nat → Nat → Int} {Rf : Nat → Nat → Option Nat} {K : Nat → Nat × Nat} {n z : Nat} {Q : Option sm_V → sm_S → Prop} : sm_wp d 168 52 [l0, l1, l2, l3, some (.inl x4)] [] (Z, Rf, K, n, z) Q = (sm_wp d 168 14 [l0, l1, l2, l3, some (.inl (x4 + 1))] [] (Z, Rf, K, n, z) Q) := (w_iinc t168_52 rfl rfl (Nat.le_of_ble_eq_true rfl) rfl).trans (w_goto t168_55 rfl)
set_option maxRecDepth 10000 in
theorem b168_58 {d : Nat} {l0 : Option sm_V} {l1 : Option sm_V} {l2 : Option sm_V} {x3 : Int} {l4 : Option sm_V} {Z : Nat → Nat → Int} {Rf : Nat → Nat → Option Nat} {K : Nat → Nat × Nat} {n z : Nat} {Q : Option sm_V → sm_S → Prop} : sm_wp d 168 58 [l0, l1, l2, some (.inl x3), l4] [] (Z, Rf, K, n, z) Q = (sm_wp d 168 4 [l0, l1, l2, some (.inl (x3 + 1)), l4] [] (Z, Rf, K, n, z) Q) := (w_iinc t168_58 rfl rfl (Nat.le_of_ble_eq_true rfl) rfl).trans (w_goto t168_61 rfl)
set_option maxRecDepth 10000 in
theorem b168_64 {d : Nat} {l0 : Option sm_V} {l1 : Option sm_V} {l2 : Option sm_V} {l3 : Option sm_V} {l4 : Option sm_V} {Z : Nat → Nat → Int} {Rf : Nat → Nat → Option Nat} {K : Nat → Nat × Nat} {n z : Nat} {Q : Option sm_V → sm_S → Prop} : sm_wp d 168 64 [l0, l1, l2, l3, l4] [] (Z, Rf, K, n, z) Q = (((0 : Int) = 0 ∨ (0 : Int) = 1) ∧ Q (some (.inl 0)) (Z, Rf, K, n, z)) := (w_iconst t168_64 rfl).trans (w_zret t168_65 wl_0)
theorem t169_0 : sm_at 169 0 = some (1, .aload_n 0, 0, 0, 0) := rfl
theorem t169_1 : sm_at 169 1 = some (3, .getfield 7, 11, 0, 0) := rfl
theorem t169_4 : sm_at 169 4 = some (2, .bipush 6, 0, 0, 0) := rfl
theorem t169_6 : sm_at 169 6 = some (1, .iaload, 0, 0, 0) := rfl
theorem t169_7 : sm_at 169 7 = some (2, .bipush 99, 0, 0, 0) := rfl
theorem t169_9 : sm_at 169 9 = some (3, .if_icmp .ne 4, 0, 0, 0) := rfl
theorem t169_12 : sm_at 169 12 = some (1, .return_, 0, 0, 0) := rfl
theorem t169_13 : sm_at 169 13 = some (3, .sipush 1340, 0, 0, 0) := rfl
theorem t169_16 : sm_at 169 16 = some (1, .iconst 5, 0, 0, 0) := rfl
theorem t169_17 : sm_at 169 17 = some (1, .aload_n 0, 0, 0, 0) := rfl
theorem t169_18 : sm_at 169 18 = some (3, .getfield 7, 11, 0, 0) := rfl
theorem t169_21 : sm_at 169 21 = some (2, .bipush 6, 0, 0, 0) := rfl
theorem t169_23 : sm_at 169 23 = some (1, .iaload, 0, 0, 0) := rfl
theorem t169_24 : sm_at 169 24 = some (1, .imul, 0, 0, 0) := rfl
theorem t169_25 : sm_at 169 25 = some (1, .iadd, 0, 0, 0) := rfl
theorem t169_26 : sm_at 169 26 = some (2, .istore 6, 0, 0, 0) := rfl
theorem t169_28 : sm_at 169 28 = some (1, .aload_n 0, 0, 0, 0) := rfl
theorem t169_29 : sm_at 169 29 = some (3, .getfield 254, 11, 6, 0) := rfl
theorem t169_32 : sm_at 169 32 = some (3, .ifCond .ne 53, 0, 0, 0) := rfl
theorem t169_35 : sm_at 169 35 = some (1, .aload_n 0, 0, 0, 0) := rfl
theorem t169_36 : sm_at 169 36 = some (3, .getfield 7, 11, 0, 0) := rfl
theorem t169_39 : sm_at 169 39 = some (2, .iload 6, 0, 0, 0) := rfl
theorem t169_41 : sm_at 169 41 = some (1, .iload_n 1, 0, 0, 0) := rfl
theorem t169_42 : sm_at 169 42 = some (1, .iastore, 0, 0, 0) := rfl
theorem t169_43 : sm_at 169 43 = some (1, .aload_n 0, 0, 0, 0) := rfl
theorem t169_44 : sm_at 169 44 = some (3, .getfield 7, 11, 0, 0) := rfl
theorem t169_47 : sm_at 169 47 = some (2, .iload 6, 0, 0, 0) := rfl
theorem t169_49 : sm_at 169 49 = some (1, .iconst 1, 0, 0, 0) := rfl
theorem t169_50 : sm_at 169 50 = some (1, .iadd, 0, 0, 0) := rfl
theorem t169_51 : sm_at 169 51 = some (1, .iload_n 2, 0, 0, 0) := rfl
theorem t169_52 : sm_at 169 52 = some (1, .iastore, 0, 0, 0) := rfl
theorem t169_53 : sm_at 169 53 = some (1, .aload_n 0, 0, 0, 0) := rfl
theorem t169_54 : sm_at 169 54 = some (3, .getfield 7, 11, 0, 0) := rfl
theorem t169_57 : sm_at 169 57 = some (2, .iload 6, 0, 0, 0) := rfl
theorem t169_59 : sm_at 169 59 = some (1, .iconst 2, 0, 0, 0) := rfl
theorem t169_60 : sm_at 169 60 = some (1, .iadd, 0, 0, 0) := rfl
theorem t169_61 : sm_at 169 61 = some (1, .iload_n 3, 0, 0, 0) := rfl
theorem t169_62 : sm_at 169 62 = some (1, .iastore, 0, 0, 0) := rfl
theorem t169_63 : sm_at 169 63 = some (1, .aload_n 0, 0, 0, 0) := rfl
theorem t169_64 : sm_at 169 64 = some (3, .getfield 7, 11, 0, 0) := rfl
theorem t169_67 : sm_at 169 67 = some (2, .iload 6, 0, 0, 0) := rfl
theorem t169_69 : sm_at 169 69 = some (1, .iconst 3, 0, 0, 0) := rfl
theorem t169_70 : sm_at 169 70 = some (1, .iadd, 0, 0, 0) := rfl
theorem t169_71 : sm_at 169 71 = some (2, .iload 4, 0, 0, 0) := rfl
theorem t169_73 : sm_at 169 73 = some (1, .iastore, 0, 0, 0) := rfl
theorem t169_74 : sm_at 169 74 = some (1, .aload_n 0, 0, 0, 0) := rfl
theorem t169_75 : sm_at 169 75 = some (3, .getfield 7, 11, 0, 0) := rfl
theorem t169_78 : sm_at 169 78 = some (2, .iload 6, 0, 0, 0) := rfl
theorem t169_80 : sm_at 169 80 = some (1, .iconst 4, 0, 0, 0) := rfl
theorem t169_81 : sm_at 169 81 = some (1, .iadd, 0, 0, 0) := rfl
theorem t169_82 : sm_at 169 82 = some (2, .iload 5, 0, 0, 0) := rfl
theorem t169_84 : sm_at 169 84 = some (1, .iastore, 0, 0, 0) := rfl
theorem t169_85 : sm_at 169 85 = some (1, .aload_n 0, 0, 0, 0) := rfl
theorem t169_86 : sm_at 169 86 = some (3, .getfield 7, 11, 0, 0) := rfl
theorem t169_89 : sm_at 169 89 = some (2, .bipush 6, 0, 0, 0) := rfl
theorem t169_91 : sm_at 169 91 = some (1, .dup2, 0, 0, 0) := rfl
theorem t169_92 : sm_at 169 92 = some (1, .iaload, 0, 0, 0) := rfl
theorem t169_93 : sm_at 169 93 = some (1, .iconst 1, 0, 0, 0) := rfl
theorem t169_94 : sm_at 169 94 = some (1, .iadd, 0, 0, 0) := rfl
theorem t169_95 : sm_at 169 95 = some (1, .iastore, 0, 0, 0) := rfl
set_option maxRecDepth 100000 in
theorem t169_96 : sm_at 169 96 = some (1, .return_, 0, 0, 0) := rfl
set_option maxRecDepth 10000 in
theorem b169_0 {d : Nat} {r0 : Nat} {l1 : Option sm_V} {l2 : Option sm_V} {l3 : Option sm_V} {l4 : Option sm_V} {l5 : Option sm_V} {l6 : Option sm_V} {Z : Nat → Nat → Int} {Rf : Nat → Nat → Option Nat} {K : Nat → Nat × Nat} {n z : Nat} {Q : Option sm_V → sm_S → Prop} : sm_wp d 169 0 [some (.inr (some r0)), l1, l2, l3, l4, l5, l6] [] (Z, Rf, K, n, z) Q = ((K r0).1 = 11 ∧ (Rf r0 0).isSome = true ∧ sm_rd (K (((Rf r0 0).getD 0))) ((6 : Int)) ∧ (if wr (Z (((Rf r0 0).getD 0)) 6) = (99 : Int) then sm_wp d 169 12 [some (.inr (some r0)), l1, l2, l3, l4, l5, l6] [] (Z, Rf, K, n, z) Q else sm_wp d 169 13 [some (.inr (some r0)), l1, l2, l3, l4, l5, l6] [] (Z, Rf, K, n, z) Q)) := (w_aload_n t169_0 rfl rfl).trans ((w_getR t169_1 rfl (by decide)).trans (congrArg (And _) (congrArg (And _) ((w_bipush t169_4 rfl).trans ((w_iald t169_6 rfl wl_6).trans (congrArg (And _) ((w_bipush t169_7 rfl).trans (w_icne t169_9 rfl wl_99 rfl rfl))))))))
set_option maxRecDepth 10000 in
theorem b169_12 {d : Nat} {l0 : Option sm_V} {l1 : Option sm_V} {l2 : Option sm_V} {l3 : Option sm_V} {l4 : Option sm_V} {l5 : Option sm_V} {l6 : Option sm_V} {Z : Nat → Nat → Int} {Rf : Nat → Nat → Option Nat} {K : Nat → Nat × Nat} {n z : Nat} {Q : Option sm_V → sm_S → Prop} : sm_wp d 169 12 [l0, l1, l2, l3, l4, l5, l6] [] (Z, Rf, K, n, z) Q = (Q none (Z, Rf, K, n, z)) := w_vret t169_12
set_option maxRecDepth 10000 in
theorem b169_13 {d : Nat} {r0 : Nat} {l1 : Option sm_V} {l2 : Option sm_V} {l3 : Option sm_V} {l4 : Option sm_V} {l5 : Option sm_V} {l6 : Option sm_V} {Z : Nat → Nat → Int} {Rf : Nat → Nat → Option Nat} {K : Nat → Nat × Nat} {n z : Nat} {Q : Option sm_V → sm_S → Prop} : sm_wp d 169 13 [some (.inr (some r0)), l1, l2, l3, l4, l5, l6] [] (Z, Rf, K, n, z) Q = ((K r0).1 = 11 ∧ (Rf r0 0).isSome = true ∧ sm_rd (K (((Rf r0 0).getD 0))) ((6 : Int)) ∧ (K r0).1 = 11 ∧ (if wr (Z r0 6) = 0 then sm_wp d 169 35 [some (.inr (some r0)), l1, l2, l3, l4, l5, some (.inl (1340 + (5 * (Z (((Rf r0 0).getD 0)) 6))))] [] (Z, Rf, K, n, z) Q else sm_wp d 169 85 [some (.inr (some r0)), l1, l2, l3, l4, l5, some (.inl (1340 + (5 * (Z (((Rf r0 0).getD 0)) 6))))] [] (Z, Rf, K, n, z) Q)) := (w_sipush t169_13 rfl).trans ((w_iconst t169_16 rfl).trans ((w_aload_n t169_17 rfl rfl).trans ((w_getR t169_18 rfl (by decide)).trans (congrArg (And _) (congrArg (And _) ((w_bipush t169_21 rfl).trans ((w_iald t169_23 rfl wl_6).trans (congrArg (And _) ((w_imul t169_24 rfl).trans ((w_iadd t169_25 rfl).trans ((w_istore t169_26 rfl (Nat.le_of_ble_eq_true rfl) rfl).trans ((w_aload_n t169_28 rfl rfl).trans ((w_getI t169_29 rfl (by decide)).trans (congrArg (And _) (w_ifne t169_32 rfl rfl rfl)))))))))))))))
set_option maxRecDepth 10000 in
theorem b169_35 {d : Nat} {r0 : Nat} {x1 : Int} {x2 : Int} {x3 : Int} {x4 : Int} {x5 : Int} {x6 : Int} {Z : Nat → Nat → Int} {Rf : Nat → Nat → Option Nat} {K : Nat → Nat × Nat} {n z : Nat} {Q : Option sm_V → sm_S → Prop} : sm_wp d 169 35 [some (.inr (some r0)), some (.inl x1), some (.inl x2), some (.inl x3), some (.inl x4), some (.inl x5), some (.inl x6)] [] (Z, Rf, K, n, z) Q = ((K r0).1 = 11 ∧ (Rf r0 0).isSome = true ∧ sm_wt (K (((Rf r0 0).getD 0))) (wr x6) ∧ (K r0).1 = 11 ∧ (Rf r0 0).isSome = true ∧ sm_wt (K (((Rf r0 0).getD 0))) (wr (x6 + 1)) ∧ (K r0).1 = 11 ∧ (Rf r0 0).isSome = true ∧ sm_wt (K (((Rf r0 0).getD 0))) (wr (x6 + 2)) ∧ (K r0).1 = 11 ∧ (Rf r0 0).isSome = true ∧ sm_wt (K (((Rf r0 0).getD 0))) (wr (x6 + 3)) ∧ (K r0).1 = 11 ∧ (Rf r0 0).isSome = true ∧ sm_wt (K (((Rf r0 0).getD 0))) (wr (x6 + 4)) ∧ sm_wp d 169 85 [some (.inr (some r0)), some (.inl x1), some (.inl x2), some (.inl x3), some (.inl x4), some (.inl x5), some (.inl x6)] [] (sm_u (sm_u (sm_u (sm_u (sm_u Z (((Rf r0 0).getD 0)) ((wr x6).toNat) x1) (((Rf r0 0).getD 0)) ((wr (x6 + 1)).toNat) x2) (((Rf r0 0).getD 0)) ((wr (x6 + 2)).toNat) x3) (((Rf r0 0).getD 0)) ((wr (x6 + 3)).toNat) x4) (((Rf r0 0).getD 0)) ((wr (x6 + 4)).toNat) x5, Rf, K, n, z) Q) := (w_aload_n t169_35 rfl rfl).trans ((w_getR t169_36 rfl (by decide)).trans (congrArg (And _) (congrArg (And _) ((w_iload t169_39 rfl rfl).trans ((w_iload_n t169_41 rfl rfl).trans ((w_iast t169_42 rfl rfl).trans (congrArg (And _) ((w_aload_n t169_43 rfl rfl).trans ((w_getR t169_44 rfl (by decide)).trans (congrArg (And _) (congrArg (And _) ((w_iload t169_47 rfl rfl).trans ((w_iconst t169_49 rfl).trans ((w_iadd t169_50 rfl).trans ((w_iload_n t169_51 rfl rfl).trans ((w_iast t169_52 rfl rfl).trans (congrArg (And _) ((w_aload_n t169_53 rfl rfl).trans ((w_getR t169_54 rfl (by decide)).trans (congrArg (And _) (congrArg (And _) ((w_iload t169_57 rfl rfl).trans ((w_iconst t169_59 rfl).trans ((w_iadd t169_60 rfl).trans ((w_iload_n t169_61 rfl rfl).trans ((w_iast t169_62 rfl rfl).trans (congrArg (And _) ((w_aload_n t169_63 rfl rfl).trans ((w_getR t169_64 rfl (by decide)).trans (congrArg (And _) (congrArg (And _) ((w_iload t169_67 rfl rfl).trans ((w_iconst t169_69 rfl).trans ((w_iadd t169_70 rfl).trans ((w_iload t169_71 rfl rfl).trans ((w_iast t169_73 rfl rfl).trans (congrArg (And _) ((w_aload_n t169_74 rfl rfl).trans ((w_getR t169_75 rfl (by decide)).trans (congrArg (And _) (congrArg (And _) ((w_iload t169_78 rfl rfl).trans ((w_iconst t169_80 rfl).trans ((w_iadd t169_81 rfl).trans ((w_iload t169_82 rfl rfl).trans ((w_iast t169_84 rfl rfl).trans (congrArg (And _) rfl)))))))))))))))))))))))))))))))))))))))))))))))
set_option maxRecDepth 10000 in
theorem b169_85 {d : Nat} {r0 : Nat} {l1 : Option sm_V} {l2 : Option sm_V} {l3 : Option sm_V} {l4 : Option sm_V} {l5 : Option sm_V} {l6 : Option sm_V} {Z : Nat → Nat → Int} {Rf : Nat → Nat → Option Nat} {K : Nat → Nat × Nat} {n z : Nat} {Q : Option sm_V → sm_S → Prop} : sm_wp d 169 85 [some (.inr (some r0)), l1, l2, l3, l4, l5, l6] [] (Z, Rf, K, n, z) Q = ((K r0).1 = 11 ∧ (Rf r0 0).isSome = true ∧ sm_rd (K (((Rf r0 0).getD 0))) ((6 : Int)) ∧ sm_wt (K (((Rf r0 0).getD 0))) ((6 : Int)) ∧ Q none (sm_u Z (((Rf r0 0).getD 0)) 6 ((Z (((Rf r0 0).getD 0)) 6) + 1), Rf, K, n, z)) := (w_aload_n t169_85 rfl rfl).trans ((w_getR t169_86 rfl (by decide)).trans (congrArg (And _) (congrArg (And _) ((w_bipush t169_89 rfl).trans ((w_dup2 t169_91 rfl).trans ((w_iald t169_92 rfl wl_6).trans (congrArg (And _) ((w_iconst t169_93 rfl).trans ((w_iadd t169_94 rfl).trans ((w_iast t169_95 rfl wl_6).trans (congrArg (And _) (w_vret t169_96))))))))))))
theorem t170_0 : sm_at 170 0 = some (3, .sipush 1855, 0, 0, 0) := rfl
theorem t170_3 : sm_at 170 3 = some (1, .iconst 5, 0, 0, 0) := rfl
theorem t170_4 : sm_at 170 4 = some (1, .iload_n 1, 0, 0, 0) := rfl
theorem t170_5 : sm_at 170 5 = some (1, .imul, 0, 0, 0) := rfl
theorem t170_6 : sm_at 170 6 = some (1, .iadd, 0, 0, 0) := rfl
theorem t170_7 : sm_at 170 7 = some (1, .istore_n 2, 0, 0, 0) := rfl
theorem t170_8 : sm_at 170 8 = some (1, .aload_n 0, 0, 0, 0) := rfl
theorem t170_9 : sm_at 170 9 = some (3, .getfield 7, 11, 0, 0) := rfl
theorem t170_12 : sm_at 170 12 = some (1, .iload_n 2, 0, 0, 0) := rfl
theorem t170_13 : sm_at 170 13 = some (1, .iaload, 0, 0, 0) := rfl
theorem t170_14 : sm_at 170 14 = some (1, .istore_n 3, 0, 0, 0) := rfl
theorem t170_15 : sm_at 170 15 = some (1, .aload_n 0, 0, 0, 0) := rfl
theorem t170_16 : sm_at 170 16 = some (3, .getfield 7, 11, 0, 0) := rfl
theorem t170_19 : sm_at 170 19 = some (1, .iload_n 2, 0, 0, 0) := rfl
theorem t170_20 : sm_at 170 20 = some (1, .iconst 1, 0, 0, 0) := rfl
theorem t170_21 : sm_at 170 21 = some (1, .iadd, 0, 0, 0) := rfl
theorem t170_22 : sm_at 170 22 = some (1, .iaload, 0, 0, 0) := rfl
theorem t170_23 : sm_at 170 23 = some (2, .istore 4, 0, 0, 0) := rfl
theorem t170_25 : sm_at 170 25 = some (1, .aload_n 0, 0, 0, 0) := rfl
theorem t170_26 : sm_at 170 26 = some (3, .getfield 7, 11, 0, 0) := rfl
theorem t170_29 : sm_at 170 29 = some (1, .iload_n 2, 0, 0, 0) := rfl
theorem t170_30 : sm_at 170 30 = some (1, .iconst 2, 0, 0, 0) := rfl
theorem t170_31 : sm_at 170 31 = some (1, .iadd, 0, 0, 0) := rfl
theorem t170_32 : sm_at 170 32 = some (1, .iaload, 0, 0, 0) := rfl
theorem t170_33 : sm_at 170 33 = some (2, .istore 5, 0, 0, 0) := rfl
theorem t170_35 : sm_at 170 35 = some (1, .iconst 0, 0, 0, 0) := rfl
theorem t170_36 : sm_at 170 36 = some (2, .istore 6, 0, 0, 0) := rfl
theorem t170_38 : sm_at 170 38 = some (1, .iconst 1, 0, 0, 0) := rfl
theorem t170_39 : sm_at 170 39 = some (2, .istore 7, 0, 0, 0) := rfl
theorem t170_41 : sm_at 170 41 = some (2, .iload 7, 0, 0, 0) := rfl
theorem t170_43 : sm_at 170 43 = some (3, .ifCond .eq 270, 0, 0, 0) := rfl
theorem t170_46 : sm_at 170 46 = some (2, .iload 6, 0, 0, 0) := rfl
theorem t170_48 : sm_at 170 48 = some (1, .aload_n 0, 0, 0, 0) := rfl
theorem t170_49 : sm_at 170 49 = some (3, .getfield 7, 11, 0, 0) := rfl
theorem t170_52 : sm_at 170 52 = some (1, .iload_n 2, 0, 0, 0) := rfl
theorem t170_53 : sm_at 170 53 = some (1, .iconst 3, 0, 0, 0) := rfl
theorem t170_54 : sm_at 170 54 = some (1, .iadd, 0, 0, 0) := rfl
theorem t170_55 : sm_at 170 55 = some (1, .iaload, 0, 0, 0) := rfl
theorem t170_56 : sm_at 170 56 = some (3, .if_icmp .ge 257, 0, 0, 0) := rfl
theorem t170_59 : sm_at 170 59 = some (1, .aload_n 0, 0, 0, 0) := rfl
theorem t170_60 : sm_at 170 60 = some (1, .iload_n 3, 0, 0, 0) := rfl
theorem t170_61 : sm_at 170 61 = some (2, .iload 4, 0, 0, 0) := rfl
theorem t170_63 : sm_at 170 63 = some (2, .iload 5, 0, 0, 0) := rfl
theorem t170_65 : sm_at 170 65 = some (3, .invokevirtual 258, 165, 4, 0) := rfl
theorem t170_68 : sm_at 170 68 = some (1, .aload_n 0, 0, 0, 0) := rfl
theorem t170_69 : sm_at 170 69 = some (3, .getfield 34, 11, 11, 0) := rfl
theorem t170_72 : sm_at 170 72 = some (2, .bipush 7, 0, 0, 0) := rfl
theorem t170_74 : sm_at 170 74 = some (2, .iload 6, 0, 0, 0) := rfl
theorem t170_76 : sm_at 170 76 = some (1, .iastore, 0, 0, 0) := rfl
theorem t170_77 : sm_at 170 77 = some (1, .aload_n 0, 0, 0, 0) := rfl
theorem t170_78 : sm_at 170 78 = some (3, .getfield 34, 11, 11, 0) := rfl
theorem t170_81 : sm_at 170 81 = some (2, .bipush 8, 0, 0, 0) := rfl
theorem t170_83 : sm_at 170 83 = some (1, .aload_n 0, 0, 0, 0) := rfl
theorem t170_84 : sm_at 170 84 = some (3, .getfield 7, 11, 0, 0) := rfl
theorem t170_87 : sm_at 170 87 = some (1, .iload_n 2, 0, 0, 0) := rfl
theorem t170_88 : sm_at 170 88 = some (1, .iconst 3, 0, 0, 0) := rfl
theorem t170_89 : sm_at 170 89 = some (1, .iadd, 0, 0, 0) := rfl
theorem t170_90 : sm_at 170 90 = some (1, .iaload, 0, 0, 0) := rfl
theorem t170_91 : sm_at 170 91 = some (2, .iload 6, 0, 0, 0) := rfl
theorem t170_93 : sm_at 170 93 = some (1, .isub, 0, 0, 0) := rfl
set_option maxRecDepth 100000 in
theorem t170_94 : sm_at 170 94 = some (1, .iastore, 0, 0, 0) := rfl
set_option maxRecDepth 100000 in
theorem t170_95 : sm_at 170 95 = some (1, .aload_n 0, 0, 0, 0) := rfl
set_option maxRecDepth 100000 in
theorem t170_96 : sm_at 170 96 = some (3, .getfield 34, 11, 11, 0) := rfl
set_option maxRecDepth 100000 in
theorem t170_99 : sm_at 170 99 = some (2, .bipush 9, 0, 0, 0) := rfl
set_option maxRecDepth 100000 in
theorem t170_101 : sm_at 170 101 = some (1, .iload_n 1, 0, 0, 0) := rfl
set_option maxRecDepth 100000 in
theorem t170_102 : sm_at 170 102 = some (1, .iastore, 0, 0, 0) := rfl
set_option maxRecDepth 100000 in
theorem t170_103 : sm_at 170 103 = some (1, .aload_n 0, 0, 0, 0) := rfl
set_option maxRecDepth 100000 in
theorem t170_104 : sm_at 170 104 = some (1, .aload_n 0, 0, 0, 0) := rfl
set_option maxRecDepth 100000 in
theorem t170_105 : sm_at 170 105 = some (3, .getfield 7, 11, 0, 0) := rfl
set_option maxRecDepth 100000 in
theorem t170_108 : sm_at 170 108 = some (1, .iload_n 2, 0, 0, 0) := rfl
set_option maxRecDepth 100000 in
theorem t170_109 : sm_at 170 109 = some (1, .iconst 4, 0, 0, 0) := rfl
set_option maxRecDepth 100000 in
theorem t170_110 : sm_at 170 110 = some (1, .iadd, 0, 0, 0) := rfl
set_option maxRecDepth 100000 in
theorem t170_111 : sm_at 170 111 = some (1, .iaload, 0, 0, 0) := rfl
set_option maxRecDepth 100000 in
theorem t170_112 : sm_at 170 112 = some (3, .invokevirtual 262, 166, 2, 0) := rfl
set_option maxRecDepth 100000 in
theorem t170_115 : sm_at 170 115 = some (2, .istore 8, 0, 0, 0) := rfl
set_option maxRecDepth 100000 in
theorem t170_117 : sm_at 170 117 = some (2, .iload 8, 0, 0, 0) := rfl
set_option maxRecDepth 100000 in
theorem t170_119 : sm_at 170 119 = some (1, .iconst 4, 0, 0, 0) := rfl
set_option maxRecDepth 100000 in
theorem t170_120 : sm_at 170 120 = some (3, .if_icmp .ne 6, 0, 0, 0) := rfl
set_option maxRecDepth 100000 in
theorem t170_123 : sm_at 170 123 = some (3, .goto 190, 0, 0, 0) := rfl
set_option maxRecDepth 100000 in
theorem t170_126 : sm_at 170 126 = some (1, .aload_n 0, 0, 0, 0) := rfl
set_option maxRecDepth 100000 in
theorem t170_127 : sm_at 170 127 = some (3, .getfield 7, 11, 0, 0) := rfl
set_option maxRecDepth 100000 in
theorem t170_130 : sm_at 170 130 = some (3, .sipush 720, 0, 0, 0) := rfl
set_option maxRecDepth 100000 in
theorem t170_133 : sm_at 170 133 = some (2, .bipush 11, 0, 0, 0) := rfl
set_option maxRecDepth 100000 in
theorem t170_135 : sm_at 170 135 = some (2, .iload 4, 0, 0, 0) := rfl
set_option maxRecDepth 100000 in
theorem t170_137 : sm_at 170 137 = some (1, .imul, 0, 0, 0) := rfl
set_option maxRecDepth 100000 in
theorem t170_138 : sm_at 170 138 = some (1, .iadd, 0, 0, 0) := rfl
set_option maxRecDepth 100000 in
theorem t170_139 : sm_at 170 139 = some (1, .iload_n 3, 0, 0, 0) := rfl
set_option maxRecDepth 100000 in
theorem t170_140 : sm_at 170 140 = some (1, .iadd, 0, 0, 0) := rfl
set_option maxRecDepth 100000 in
theorem t170_141 : sm_at 170 141 = some (1, .iaload, 0, 0, 0) := rfl
set_option maxRecDepth 100000 in
theorem t170_142 : sm_at 170 142 = some (1, .iconst 1, 0, 0, 0) := rfl
set_option maxRecDepth 100000 in
theorem t170_143 : sm_at 170 143 = some (3, .if_icmp .ne 17, 0, 0, 0) := rfl
set_option maxRecDepth 100000 in
theorem t170_146 : sm_at 170 146 = some (2, .iload 8, 0, 0, 0) := rfl
set_option maxRecDepth 100000 in
theorem t170_148 : sm_at 170 148 = some (1, .iconst 2, 0, 0, 0) := rfl
set_option maxRecDepth 100000 in
theorem t170_149 : sm_at 170 149 = some (1, .irem, 0, 0, 0) := rfl
set_option maxRecDepth 100000 in
theorem t170_150 : sm_at 170 150 = some (1, .iconst 1, 0, 0, 0) := rfl
set_option maxRecDepth 100000 in
theorem t170_151 : sm_at 170 151 = some (3, .if_icmp .ne 9, 0, 0, 0) := rfl
set_option maxRecDepth 100000 in
theorem t170_154 : sm_at 170 154 = some (1, .iconst 4, 0, 0, 0) := rfl
set_option maxRecDepth 100000 in
theorem t170_155 : sm_at 170 155 = some (2, .iload 8, 0, 0, 0) := rfl
set_option maxRecDepth 100000 in
theorem t170_157 : sm_at 170 157 = some (1, .isub, 0, 0, 0) := rfl
set_option maxRecDepth 100000 in
theorem t170_158 : sm_at 170 158 = some (2, .istore 8, 0, 0, 0) := rfl
set_option maxRecDepth 100000 in
theorem t170_160 : sm_at 170 160 = some (2, .iload 5, 0, 0, 0) := rfl
set_option maxRecDepth 100000 in
theorem t170_162 : sm_at 170 162 = some (2, .iload 8, 0, 0, 0) := rfl
set_option maxRecDepth 100000 in
theorem t170_164 : sm_at 170 164 = some (1, .iadd, 0, 0, 0) := rfl
set_option maxRecDepth 100000 in
theorem t170_165 : sm_at 170 165 = some (1, .iconst 4, 0, 0, 0) := rfl
set_option maxRecDepth 100000 in
theorem t170_166 : sm_at 170 166 = some (1, .irem, 0, 0, 0) := rfl
set_option maxRecDepth 100000 in
theorem t170_167 : sm_at 170 167 = some (2, .istore 5, 0, 0, 0) := rfl
set_option maxRecDepth 100000 in
theorem t170_169 : sm_at 170 169 = some (1, .aload_n 0, 0, 0, 0) := rfl
set_option maxRecDepth 100000 in
theorem t170_170 : sm_at 170 170 = some (1, .iload_n 3, 0, 0, 0) := rfl
set_option maxRecDepth 100000 in
theorem t170_171 : sm_at 170 171 = some (2, .iload 5, 0, 0, 0) := rfl
set_option maxRecDepth 100000 in
theorem t170_173 : sm_at 170 173 = some (3, .invokestatic 239, 160, 1, 0) := rfl
set_option maxRecDepth 100000 in
theorem t170_176 : sm_at 170 176 = some (1, .iadd, 0, 0, 0) := rfl
set_option maxRecDepth 100000 in
theorem t170_177 : sm_at 170 177 = some (2, .iload 4, 0, 0, 0) := rfl
set_option maxRecDepth 100000 in
theorem t170_179 : sm_at 170 179 = some (2, .iload 5, 0, 0, 0) := rfl
set_option maxRecDepth 100000 in
theorem t170_181 : sm_at 170 181 = some (3, .invokestatic 242, 161, 1, 0) := rfl
set_option maxRecDepth 100000 in
theorem t170_184 : sm_at 170 184 = some (1, .iadd, 0, 0, 0) := rfl
set_option maxRecDepth 100000 in
theorem t170_185 : sm_at 170 185 = some (3, .invokevirtual 93, 123, 3, 0) := rfl
set_option maxRecDepth 100000 in
theorem t170_188 : sm_at 170 188 = some (3, .ifCond .ne 6, 0, 0, 0) := rfl
set_option maxRecDepth 100000 in
theorem t170_191 : sm_at 170 191 = some (3, .goto 122, 0, 0, 0) := rfl
set_option maxRecDepth 100000 in
theorem t170_194 : sm_at 170 194 = some (1, .iload_n 3, 0, 0, 0) := rfl
set_option maxRecDepth 100000 in
theorem t170_195 : sm_at 170 195 = some (2, .iload 4, 0, 0, 0) := rfl
set_option maxRecDepth 100000 in
theorem t170_197 : sm_at 170 197 = some (2, .iload 5, 0, 0, 0) := rfl
set_option maxRecDepth 100000 in
theorem t170_199 : sm_at 170 199 = some (3, .invokestatic 248, 162, 3, 0) := rfl
set_option maxRecDepth 100000 in
theorem t170_202 : sm_at 170 202 = some (2, .istore 9, 0, 0, 0) := rfl
set_option maxRecDepth 100000 in
theorem t170_204 : sm_at 170 204 = some (1, .aload_n 0, 0, 0, 0) := rfl
set_option maxRecDepth 100000 in
theorem t170_205 : sm_at 170 205 = some (3, .getfield 7, 11, 0, 0) := rfl
set_option maxRecDepth 100000 in
theorem t170_208 : sm_at 170 208 = some (3, .sipush 850, 0, 0, 0) := rfl
set_option maxRecDepth 100000 in
theorem t170_211 : sm_at 170 211 = some (2, .iload 9, 0, 0, 0) := rfl
set_option maxRecDepth 100000 in
theorem t170_213 : sm_at 170 213 = some (1, .iadd, 0, 0, 0) := rfl
set_option maxRecDepth 100000 in
theorem t170_214 : sm_at 170 214 = some (1, .iaload, 0, 0, 0) := rfl
set_option maxRecDepth 100000 in
theorem t170_215 : sm_at 170 215 = some (1, .iconst (-1), 0, 0, 0) := rfl
set_option maxRecDepth 100000 in
theorem t170_216 : sm_at 170 216 = some (3, .if_icmp .ne 28, 0, 0, 0) := rfl
set_option maxRecDepth 100000 in
theorem t170_219 : sm_at 170 219 = some (1, .aload_n 0, 0, 0, 0) := rfl
set_option maxRecDepth 100000 in
theorem t170_220 : sm_at 170 220 = some (3, .getfield 7, 11, 0, 0) := rfl
set_option maxRecDepth 100000 in
theorem t170_223 : sm_at 170 223 = some (3, .sipush 850, 0, 0, 0) := rfl
set_option maxRecDepth 100000 in
theorem t170_226 : sm_at 170 226 = some (2, .iload 9, 0, 0, 0) := rfl
set_option maxRecDepth 100000 in
theorem t170_228 : sm_at 170 228 = some (1, .iadd, 0, 0, 0) := rfl
set_option maxRecDepth 100000 in
theorem t170_229 : sm_at 170 229 = some (1, .iload_n 1, 0, 0, 0) := rfl
set_option maxRecDepth 100000 in
theorem t170_230 : sm_at 170 230 = some (1, .iastore, 0, 0, 0) := rfl
set_option maxRecDepth 100000 in
theorem t170_231 : sm_at 170 231 = some (1, .aload_n 0, 0, 0, 0) := rfl
set_option maxRecDepth 100000 in
theorem t170_232 : sm_at 170 232 = some (3, .getfield 7, 11, 0, 0) := rfl
set_option maxRecDepth 100000 in
theorem t170_235 : sm_at 170 235 = some (3, .sipush 1092, 0, 0, 0) := rfl
set_option maxRecDepth 100000 in
theorem t170_238 : sm_at 170 238 = some (2, .iload 9, 0, 0, 0) := rfl
set_option maxRecDepth 100000 in
theorem t170_240 : sm_at 170 240 = some (1, .iadd, 0, 0, 0) := rfl
set_option maxRecDepth 100000 in
theorem t170_241 : sm_at 170 241 = some (2, .iload 6, 0, 0, 0) := rfl
set_option maxRecDepth 100000 in
theorem t170_243 : sm_at 170 243 = some (1, .iastore, 0, 0, 0) := rfl
set_option maxRecDepth 100000 in
theorem t170_244 : sm_at 170 244 = some (1, .iload_n 3, 0, 0, 0) := rfl
set_option maxRecDepth 100000 in
theorem t170_245 : sm_at 170 245 = some (2, .iload 5, 0, 0, 0) := rfl
set_option maxRecDepth 100000 in
theorem t170_247 : sm_at 170 247 = some (3, .invokestatic 239, 160, 1, 0) := rfl
set_option maxRecDepth 100000 in
theorem t170_250 : sm_at 170 250 = some (1, .iadd, 0, 0, 0) := rfl
set_option maxRecDepth 100000 in
theorem t170_251 : sm_at 170 251 = some (1, .istore_n 3, 0, 0, 0) := rfl
set_option maxRecDepth 100000 in
theorem t170_252 : sm_at 170 252 = some (2, .iload 4, 0, 0, 0) := rfl
set_option maxRecDepth 100000 in
theorem t170_254 : sm_at 170 254 = some (2, .iload 5, 0, 0, 0) := rfl
set_option maxRecDepth 100000 in
theorem t170_256 : sm_at 170 256 = some (3, .invokestatic 242, 161, 1, 0) := rfl
set_option maxRecDepth 100000 in
theorem t170_259 : sm_at 170 259 = some (1, .iadd, 0, 0, 0) := rfl
set_option maxRecDepth 100000 in
theorem t170_260 : sm_at 170 260 = some (2, .istore 4, 0, 0, 0) := rfl
set_option maxRecDepth 100000 in
theorem t170_262 : sm_at 170 262 = some (1, .aload_n 0, 0, 0, 0) := rfl
set_option maxRecDepth 100000 in
theorem t170_263 : sm_at 170 263 = some (1, .iload_n 1, 0, 0, 0) := rfl
set_option maxRecDepth 100000 in
theorem t170_264 : sm_at 170 264 = some (1, .iload_n 3, 0, 0, 0) := rfl
set_option maxRecDepth 100000 in
theorem t170_265 : sm_at 170 265 = some (2, .iload 4, 0, 0, 0) := rfl
set_option maxRecDepth 100000 in
theorem t170_267 : sm_at 170 267 = some (3, .invokevirtual 265, 167, 4, 0) := rfl
set_option maxRecDepth 100000 in
theorem t170_270 : sm_at 170 270 = some (2, .istore 10, 0, 0, 0) := rfl
set_option maxRecDepth 100000 in
theorem t170_272 : sm_at 170 272 = some (2, .iload 10, 0, 0, 0) := rfl
set_option maxRecDepth 100000 in
theorem t170_274 : sm_at 170 274 = some (1, .iconst (-1), 0, 0, 0) := rfl
set_option maxRecDepth 100000 in
theorem t170_275 : sm_at 170 275 = some (3, .if_icmp .eq 15, 0, 0, 0) := rfl
set_option maxRecDepth 100000 in
theorem t170_278 : sm_at 170 278 = some (1, .aload_n 0, 0, 0, 0) := rfl
set_option maxRecDepth 100000 in
theorem t170_279 : sm_at 170 279 = some (1, .iload_n 1, 0, 0, 0) := rfl
set_option maxRecDepth 100000 in
theorem t170_280 : sm_at 170 280 = some (2, .iload 10, 0, 0, 0) := rfl
set_option maxRecDepth 100000 in
theorem t170_282 : sm_at 170 282 = some (1, .iload_n 3, 0, 0, 0) := rfl
set_option maxRecDepth 100000 in
theorem t170_283 : sm_at 170 283 = some (2, .iload 4, 0, 0, 0) := rfl
set_option maxRecDepth 100000 in
theorem t170_285 : sm_at 170 285 = some (2, .iload 6, 0, 0, 0) := rfl
set_option maxRecDepth 100000 in
theorem t170_287 : sm_at 170 287 = some (3, .invokevirtual 268, 169, 6, 0) := rfl
set_option maxRecDepth 100000 in
theorem t170_290 : sm_at 170 290 = some (3, .iinc 6 1, 0, 0, 0) := rfl
set_option maxRecDepth 100000 in
theorem t170_293 : sm_at 170 293 = some (1, .aload_n 0, 0, 0, 0) := rfl
set_option maxRecDepth 100000 in
theorem t170_294 : sm_at 170 294 = some (1, .iload_n 3, 0, 0, 0) := rfl
set_option maxRecDepth 100000 in
theorem t170_295 : sm_at 170 295 = some (2, .iload 4, 0, 0, 0) := rfl
set_option maxRecDepth 100000 in
theorem t170_297 : sm_at 170 297 = some (3, .invokevirtual 272, 168, 3, 0) := rfl
set_option maxRecDepth 100000 in
theorem t170_300 : sm_at 170 300 = some (3, .ifCond .ne 7, 0, 0, 0) := rfl
set_option maxRecDepth 100000 in
theorem t170_303 : sm_at 170 303 = some (1, .iconst 1, 0, 0, 0) := rfl
set_option maxRecDepth 100000 in
theorem t170_304 : sm_at 170 304 = some (3, .goto 4, 0, 0, 0) := rfl
set_option maxRecDepth 100000 in
theorem t170_307 : sm_at 170 307 = some (1, .iconst 0, 0, 0, 0) := rfl
set_option maxRecDepth 100000 in
theorem t170_308 : sm_at 170 308 = some (2, .istore 7, 0, 0, 0) := rfl
set_option maxRecDepth 100000 in
theorem t170_310 : sm_at 170 310 = some (3, .goto (-269), 0, 0, 0) := rfl
set_option maxRecDepth 100000 in
theorem t170_313 : sm_at 170 313 = some (1, .aload_n 0, 0, 0, 0) := rfl
set_option maxRecDepth 100000 in
theorem t170_314 : sm_at 170 314 = some (3, .getfield 41, 11, 24, 0) := rfl
set_option maxRecDepth 100000 in
theorem t170_317 : sm_at 170 317 = some (1, .iload_n 1, 0, 0, 0) := rfl
set_option maxRecDepth 100000 in
theorem t170_318 : sm_at 170 318 = some (1, .iload_n 3, 0, 0, 0) := rfl
set_option maxRecDepth 100000 in
theorem t170_319 : sm_at 170 319 = some (1, .iastore, 0, 0, 0) := rfl
set_option maxRecDepth 100000 in
theorem t170_320 : sm_at 170 320 = some (1, .aload_n 0, 0, 0, 0) := rfl
set_option maxRecDepth 100000 in
theorem t170_321 : sm_at 170 321 = some (3, .getfield 44, 11, 25, 0) := rfl
set_option maxRecDepth 100000 in
theorem t170_324 : sm_at 170 324 = some (1, .iload_n 1, 0, 0, 0) := rfl
set_option maxRecDepth 100000 in
theorem t170_325 : sm_at 170 325 = some (2, .iload 4, 0, 0, 0) := rfl
set_option maxRecDepth 100000 in
theorem t170_327 : sm_at 170 327 = some (1, .iastore, 0, 0, 0) := rfl
set_option maxRecDepth 100000 in
theorem t170_328 : sm_at 170 328 = some (1, .aload_n 0, 0, 0, 0) := rfl
set_option maxRecDepth 100000 in
theorem t170_329 : sm_at 170 329 = some (3, .getfield 47, 11, 26, 0) := rfl
set_option maxRecDepth 100000 in
theorem t170_332 : sm_at 170 332 = some (1, .iload_n 1, 0, 0, 0) := rfl
set_option maxRecDepth 100000 in
theorem t170_333 : sm_at 170 333 = some (2, .iload 6, 0, 0, 0) := rfl
set_option maxRecDepth 100000 in
theorem t170_335 : sm_at 170 335 = some (1, .iastore, 0, 0, 0) := rfl
set_option maxRecDepth 100000 in
theorem t170_336 : sm_at 170 336 = some (1, .aload_n 0, 0, 0, 0) := rfl
set_option maxRecDepth 100000 in
theorem t170_337 : sm_at 170 337 = some (3, .getfield 50, 11, 27, 0) := rfl
set_option maxRecDepth 100000 in
theorem t170_340 : sm_at 170 340 = some (1, .iload_n 1, 0, 0, 0) := rfl
set_option maxRecDepth 100000 in
theorem t170_341 : sm_at 170 341 = some (2, .iload 5, 0, 0, 0) := rfl
set_option maxRecDepth 100000 in
theorem t170_343 : sm_at 170 343 = some (1, .iastore, 0, 0, 0) := rfl
set_option maxRecDepth 100000 in
theorem t170_344 : sm_at 170 344 = some (1, .return_, 0, 0, 0) := rfl
set_option maxRecDepth 10000 in
theorem b170_0 {d : Nat} {r0 : Nat} {x1 : Int} {l2 : Option sm_V} {l3 : Option sm_V} {l4 : Option sm_V} {l5 : Option sm_V} {l6 : Option sm_V} {l7 : Option sm_V} {l8 : Option sm_V} {l9 : Option sm_V} {l10 : Option sm_V} {Z : Nat → Nat → Int} {Rf : Nat → Nat → Option Nat} {K : Nat → Nat × Nat} {n z : Nat} {Q : Option sm_V → sm_S → Prop} : sm_wp d 170 0 [some (.inr (some r0)), some (.inl x1), l2, l3, l4, l5, l6, l7, l8, l9, l10] [] (Z, Rf, K, n, z) Q = ((K r0).1 = 11 ∧ (Rf r0 0).isSome = true ∧ sm_rd (K (((Rf r0 0).getD 0))) (wr (1855 + (5 * x1))) ∧ (K r0).1 = 11 ∧ (Rf r0 0).isSome = true ∧ sm_rd (K (((Rf r0 0).getD 0))) (wr ((1855 + (5 * x1)) + 1)) ∧ (K r0).1 = 11 ∧ (Rf r0 0).isSome = true ∧ sm_rd (K (((Rf r0 0).getD 0))) (wr ((1855 + (5 * x1)) + 2)) ∧ sm_wp d 170 41 [some (.inr (some r0)), some (.inl x1), some (.inl (1855 + (5 * x1))), some (.inl (Z (((Rf r0 0).getD 0)) ((wr (1855 + (5 * x1))).toNat))), some (.inl (Z (((Rf r0 0).getD 0)) ((wr ((1855 + (5 * x1)) + 1)).toNat))), some (.inl (Z (((Rf r0 0).getD 0)) ((wr ((1855 + (5 * x1)) + 2)).toNat))), some (.inl 0), some (.inl 1), l8, l9, l10] [] (Z, Rf, K, n, z) Q) := (w_sipush t170_0 rfl).trans ((w_iconst t170_3 rfl).trans ((w_iload_n t170_4 rfl rfl).trans ((w_imul t170_5 rfl).trans ((w_iadd t170_6 rfl).trans ((w_istore_n t170_7 rfl (Nat.le_of_ble_eq_true rfl) rfl).trans ((w_aload_n t170_8 rfl rfl).trans ((w_getR t170_9 rfl (by decide)).trans (congrArg (And _) (congrArg (And _) ((w_iload_n t170_12 rfl rfl).trans ((w_iald t170_13 rfl rfl).trans (congrArg (And _) ((w_istore_n t170_14 rfl (Nat.le_of_ble_eq_true rfl) rfl).trans ((w_aload_n t170_15 rfl rfl).trans ((w_getR t170_16 rfl (by decide)).trans (congrArg (And _) (congrArg (And _) ((w_iload_n t170_19 rfl rfl).trans ((w_iconst t170_20 rfl).trans ((w_iadd t170_21 rfl).trans ((w_iald t170_22 rfl rfl).trans (congrArg (And _) ((w_istore t170_23 rfl (Nat.le_of_ble_eq_true rfl) rfl).trans ((w_aload_n t170_25 rfl rfl).trans ((w_getR t170_26 rfl (by decide)).trans (congrArg (And _) (congrArg (And _) ((w_iload_n t170_29 rfl rfl).trans ((w_iconst t170_30 rfl).trans ((w_iadd t170_31 rfl).trans ((w_iald t170_32 rfl rfl).trans (congrArg (And _) ((w_istore t170_33 rfl (Nat.le_of_ble_eq_true rfl) rfl).trans ((w_iconst t170_35 rfl).trans ((w_istore t170_36 rfl (Nat.le_of_ble_eq_true rfl) rfl).trans ((w_iconst t170_38 rfl).trans (w_istore t170_39 rfl (Nat.le_of_ble_eq_true rfl) rfl)))))))))))))))))))))))))))))))))))))
set_option maxRecDepth 10000 in
theorem b170_41 {d : Nat} {l0 : Option sm_V} {l1 : Option sm_V} {l2 : Option sm_V} {l3 : Option sm_V} {l4 : Option sm_V} {l5 : Option sm_V} {l6 : Option sm_V} {x7 : Int} {l8 : Option sm_V} {l9 : Option sm_V} {l10 : Option sm_V} {Z : Nat → Nat → Int} {Rf : Nat → Nat → Option Nat} {K : Nat → Nat × Nat} {n z : Nat} {Q : Option sm_V → sm_S → Prop} : sm_wp d 170 41 [l0, l1, l2, l3, l4, l5, l6, some (.inl x7), l8, l9, l10] [] (Z, Rf, K, n, z) Q = (if wr x7 = 0 then sm_wp d 170 313 [l0, l1, l2, l3, l4, l5, l6, some (.inl x7), l8, l9, l10] [] (Z, Rf, K, n, z) Q else sm_wp d 170 46 [l0, l1, l2, l3, l4, l5, l6, some (.inl x7), l8, l9, l10] [] (Z, Rf, K, n, z) Q) := (w_iload t170_41 rfl rfl).trans (w_ifeq t170_43 rfl rfl rfl)
set_option maxRecDepth 10000 in
theorem b170_46 {d : Nat} {r0 : Nat} {l1 : Option sm_V} {x2 : Int} {l3 : Option sm_V} {l4 : Option sm_V} {l5 : Option sm_V} {x6 : Int} {l7 : Option sm_V} {l8 : Option sm_V} {l9 : Option sm_V} {l10 : Option sm_V} {Z : Nat → Nat → Int} {Rf : Nat → Nat → Option Nat} {K : Nat → Nat × Nat} {n z : Nat} {Q : Option sm_V → sm_S → Prop} : sm_wp d 170 46 [some (.inr (some r0)), l1, some (.inl x2), l3, l4, l5, some (.inl x6), l7, l8, l9, l10] [] (Z, Rf, K, n, z) Q = ((K r0).1 = 11 ∧ (Rf r0 0).isSome = true ∧ sm_rd (K (((Rf r0 0).getD 0))) (wr (x2 + 3)) ∧ (if wr (Z (((Rf r0 0).getD 0)) ((wr (x2 + 3)).toNat)) ≤ wr x6 then sm_wp d 170 313 [some (.inr (some r0)), l1, some (.inl x2), l3, l4, l5, some (.inl x6), l7, l8, l9, l10] [] (Z, Rf, K, n, z) Q else sm_wp d 170 59 [some (.inr (some r0)), l1, some (.inl x2), l3, l4, l5, some (.inl x6), l7, l8, l9, l10] [] (Z, Rf, K, n, z) Q)) := (w_iload t170_46 rfl rfl).trans ((w_aload_n t170_48 rfl rfl).trans ((w_getR t170_49 rfl (by decide)).trans (congrArg (And _) (congrArg (And _) ((w_iload_n t170_52 rfl rfl).trans ((w_iconst t170_53 rfl).trans ((w_iadd t170_54 rfl).trans ((w_iald t170_55 rfl rfl).trans (congrArg (And _) (w_icge t170_56 rfl rfl rfl rfl))))))))))
set_option maxRecDepth 10000 in
theorem b170_59 {d : Nat} {r0 : Nat} {l1 : Option sm_V} {l2 : Option sm_V} {x3 : Int} {x4 : Int} {x5 : Int} {l6 : Option sm_V} {l7 : Option sm_V} {l8 : Option sm_V} {l9 : Option sm_V} {l10 : Option sm_V} {Z : Nat → Nat → Int} {Rf : Nat → Nat → Option Nat} {K : Nat → Nat × Nat} {n z : Nat} {Q : Option sm_V → sm_S → Prop} : sm_wp (d + 1) 170 59 [some (.inr (some r0)), l1, l2, some (.inl x3), some (.inl x4), some (.inl x5), l6, l7, l8, l9, l10] [] (Z, Rf, K, n, z) Q = ((K r0).1 = 11 ∧ sm_call d 165 [.inr (some r0), .inl x3, .inl x4, .inl x5] (Z, Rf, K, n, z) (sm_cont (d + 1) 170 68 [some (.inr (some r0)), l1, l2, some (.inl x3), some (.inl x4), some (.inl x5), l6, l7, l8, l9, l10] [] Q)) := (w_aload_n t170_59 rfl rfl).trans ((w_iload_n t170_60 rfl rfl).trans ((w_iload t170_61 rfl rfl).trans ((w_iload t170_63 rfl rfl).trans (w_callV t170_65 rfl rfl rfl rfl (Nat.le_of_ble_eq_true rfl) (Nat.le_of_ble_eq_true rfl) rfl (by decide)))))
set_option maxRecDepth 10000 in
theorem b170_68 {d : Nat} {r0 : Nat} {x1 : Int} {x2 : Int} {l3 : Option sm_V} {l4 : Option sm_V} {l5 : Option sm_V} {x6 : Int} {l7 : Option sm_V} {l8 : Option sm_V} {l9 : Option sm_V} {l10 : Option sm_V} {Z : Nat → Nat → Int} {Rf : Nat → Nat → Option Nat} {K : Nat → Nat × Nat} {n z : Nat} {Q : Option sm_V → sm_S → Prop} : sm_wp (d + 1) 170 68 [some (.inr (some r0)), some (.inl x1), some (.inl x2), l3, l4, l5, some (.inl x6), l7, l8, l9, l10] [] (Z, Rf, K, n, z) Q = ((K r0).1 = 11 ∧ (Rf r0 11).isSome = true ∧ sm_wt (K (((Rf r0 11).getD 0))) ((7 : Int)) ∧ (K r0).1 = 11 ∧ (Rf r0 11).isSome = true ∧ (K r0).1 = 11 ∧ (Rf r0 0).isSome = true ∧ sm_rd (K (((Rf r0 0).getD 0))) (wr (x2 + 3)) ∧ sm_wt (K (((Rf r0 11).getD 0))) ((8 : Int)) ∧ (K r0).1 = 11 ∧ (Rf r0 11).isSome = true ∧ sm_wt (K (((Rf r0 11).getD 0))) ((9 : Int)) ∧ (K r0).1 = 11 ∧ (Rf r0 0).isSome = true ∧ sm_rd (K (((Rf r0 0).getD 0))) (wr (x2 + 4)) ∧ (K r0).1 = 11 ∧ sm_call d 166 [.inr (some r0), .inl ((sm_u (sm_u (sm_u Z (((Rf r0 11).getD 0)) 7 x6) (((Rf r0 11).getD 0)) 8 (((sm_u Z (((Rf r0 11).getD 0)) 7 x6) (((Rf r0 0).getD 0)) ((wr (x2 + 3)).toNat)) - x6)) (((Rf r0 11).getD 0)) 9 x1) (((Rf r0 0).getD 0)) ((wr (x2 + 4)).toNat))] (sm_u (sm_u (sm_u Z (((Rf r0 11).getD 0)) 7 x6) (((Rf r0 11).getD 0)) 8 (((sm_u Z (((Rf r0 11).getD 0)) 7 x6) (((Rf r0 0).getD 0)) ((wr (x2 + 3)).toNat)) - x6)) (((Rf r0 11).getD 0)) 9 x1, Rf, K, n, z) (sm_cont (d + 1) 170 115 [some (.inr (some r0)), some (.inl x1), some (.inl x2), l3, l4, l5, some (.inl x6), l7, l8, l9, l10] [] Q)) := (w_aload_n t170_68 rfl rfl).trans ((w_getR t170_69 rfl (by decide)).trans (congrArg (And _) (congrArg (And _) ((w_bipush t170_72 rfl).trans ((w_iload t170_74 rfl rfl).trans ((w_iast t170_76 rfl wl_7).trans (congrArg (And _) ((w_aload_n t170_77 rfl rfl).trans ((w_getR t170_78 rfl (by decide)).trans (congrArg (And _) (congrArg (And _) ((w_bipush t170_81 rfl).trans ((w_aload_n t170_83 rfl rfl).trans ((w_getR t170_84 rfl (by decide)).trans (congrArg (And _) (congrArg (And _) ((w_iload_n t170_87 rfl rfl).trans ((w_iconst t170_88 rfl).trans ((w_iadd t170_89 rfl).trans ((w_iald t170_90 rfl rfl).trans (congrArg (And _) ((w_iload t170_91 rfl rfl).trans ((w_isub t170_93 rfl).trans ((w_iast t170_94 rfl wl_8).trans (congrArg (And _) ((w_aload_n t170_95 rfl rfl).trans ((w_getR t170_96 rfl (by decide)).trans (congrArg (And _) (congrArg (And _) ((w_bipush t170_99 rfl).trans ((w_iload_n t170_101 rfl rfl).trans ((w_iast t170_102 rfl wl_9).trans (congrArg (And _) ((w_aload_n t170_103 rfl rfl).trans ((w_aload_n t170_104 rfl rfl).trans ((w_getR t170_105 rfl (by decide)).trans (congrArg (And _) (congrArg (And _) ((w_iload_n t170_108 rfl rfl).trans ((w_iconst t170_109 rfl).trans ((w_iadd t170_110 rfl).trans ((w_iald t170_111 rfl rfl).trans (congrArg (And _) (w_callV t170_112 rfl rfl rfl rfl (Nat.le_of_ble_eq_true rfl) (Nat.le_of_ble_eq_true rfl) rfl (by decide)))))))))))))))))))))))))))))))))))))))))))))
set_option maxRecDepth 10000 in
theorem b170_115 {d : Nat} {l0 : Option sm_V} {l1 : Option sm_V} {l2 : Option sm_V} {l3 : Option sm_V} {l4 : Option sm_V} {l5 : Option sm_V} {l6 : Option sm_V} {l7 : Option sm_V} {l8 : Option sm_V} {l9 : Option sm_V} {l10 : Option sm_V} {s0 : Int} {Z : Nat → Nat → Int} {Rf : Nat → Nat → Option Nat} {K : Nat → Nat × Nat} {n z : Nat} {Q : Option sm_V → sm_S → Prop} : sm_wp d 170 115 [l0, l1, l2, l3, l4, l5, l6, l7, l8, l9, l10] [.inl s0] (Z, Rf, K, n, z) Q = (if wr s0 = (4 : Int) then sm_wp d 170 123 [l0, l1, l2, l3, l4, l5, l6, l7, some (.inl s0), l9, l10] [] (Z, Rf, K, n, z) Q else sm_wp d 170 126 [l0, l1, l2, l3, l4, l5, l6, l7, some (.inl s0), l9, l10] [] (Z, Rf, K, n, z) Q) := (w_istore t170_115 rfl (Nat.le_of_ble_eq_true rfl) rfl).trans ((w_iload t170_117 rfl rfl).trans ((w_iconst t170_119 rfl).trans (w_icne t170_120 rfl wl_4 rfl rfl)))
set_option maxRecDepth 10000 in
theorem b170_123 {d : Nat} {l0 : Option sm_V} {l1 : Option sm_V} {l2 : Option sm_V} {l3 : Option sm_V} {l4 : Option sm_V} {l5 : Option sm_V} {l6 : Option sm_V} {l7 : Option sm_V} {l8 : Option sm_V} {l9 : Option sm_V} {l10 : Option sm_V} {Z : Nat → Nat → Int} {Rf : Nat → Nat → Option Nat} {K : Nat → Nat × Nat} {n z : Nat} {Q : Option sm_V → sm_S → Prop} : sm_wp d 170 123 [l0, l1, l2, l3, l4, l5, l6, l7, l8, l9, l10] [] (Z, Rf, K, n, z) Q = (sm_wp d 170 313 [l0, l1, l2, l3, l4, l5, l6, l7, l8, l9, l10] [] (Z, Rf, K, n, z) Q) := w_goto t170_123 rfl
set_option maxRecDepth 10000 in
theorem b170_126 {d : Nat} {r0 : Nat} {l1 : Option sm_V} {l2 : Option sm_V} {x3 : Int} {x4 : Int} {l5 : Option sm_V} {l6 : Option sm_V} {l7 : Option sm_V} {l8 : Option sm_V} {l9 : Option sm_V} {l10 : Option sm_V} {Z : Nat → Nat → Int} {Rf : Nat → Nat → Option Nat} {K : Nat → Nat × Nat} {n z : Nat} {Q : Option sm_V → sm_S → Prop} : sm_wp d 170 126 [some (.inr (some r0)), l1, l2, some (.inl x3), some (.inl x4), l5, l6, l7, l8, l9, l10] [] (Z, Rf, K, n, z) Q = ((K r0).1 = 11 ∧ (Rf r0 0).isSome = true ∧ sm_rd (K (((Rf r0 0).getD 0))) (wr ((720 + (11 * x4)) + x3)) ∧ (if wr (Z (((Rf r0 0).getD 0)) ((wr ((720 + (11 * x4)) + x3)).toNat)) = (1 : Int) then sm_wp d 170 146 [some (.inr (some r0)), l1, l2, some (.inl x3), some (.inl x4), l5, l6, l7, l8, l9, l10] [] (Z, Rf, K, n, z) Q else sm_wp d 170 160 [some (.inr (some r0)), l1, l2, some (.inl x3), some (.inl x4), l5, l6, l7, l8, l9, l10] [] (Z, Rf, K, n, z) Q)) := (w_aload_n t170_126 rfl rfl).trans ((w_getR t170_127 rfl (by decide)).trans (congrArg (And _) (congrArg (And _) ((w_sipush t170_130 rfl).trans ((w_bipush t170_133 rfl).trans ((w_iload t170_135 rfl rfl).trans ((w_imul t170_137 rfl).trans ((w_iadd t170_138 rfl).trans ((w_iload_n t170_139 rfl rfl).trans ((w_iadd t170_140 rfl).trans ((w_iald t170_141 rfl rfl).trans (congrArg (And _) ((w_iconst t170_142 rfl).trans (w_icne t170_143 rfl wl_1 rfl rfl))))))))))))))
set_option maxRecDepth 10000 in
theorem b170_146 {d : Nat} {l0 : Option sm_V} {l1 : Option sm_V} {l2 : Option sm_V} {l3 : Option sm_V} {l4 : Option sm_V} {l5 : Option sm_V} {l6 : Option sm_V} {l7 : Option sm_V} {x8 : Int} {l9 : Option sm_V} {l10 : Option sm_V} {Z : Nat → Nat → Int} {Rf : Nat → Nat → Option Nat} {K : Nat → Nat × Nat} {n z : Nat} {Q : Option sm_V → sm_S → Prop} : sm_wp d 170 146 [l0, l1, l2, l3, l4, l5, l6, l7, some (.inl x8), l9, l10] [] (Z, Rf, K, n, z) Q = (¬ (2 : Int) = 0 ∧ (if wr (sm_rem x8 2) = (1 : Int) then sm_wp d 170 154 [l0, l1, l2, l3, l4, l5, l6, l7, some (.inl x8), l9, l10] [] (Z, Rf, K, n, z) Q else sm_wp d 170 160 [l0, l1, l2, l3, l4, l5, l6, l7, some (.inl x8), l9, l10] [] (Z, Rf, K, n, z) Q)) := (w_iload t170_146 rfl rfl).trans ((w_iconst t170_148 rfl).trans ((w_irem t170_149 rfl wl_2).trans (congrArg (And _) ((w_iconst t170_150 rfl).trans (w_icne t170_151 rfl wl_1 rfl rfl)))))
set_option maxRecDepth 10000 in
theorem b170_154 {d : Nat} {l0 : Option sm_V} {l1 : Option sm_V} {l2 : Option sm_V} {l3 : Option sm_V} {l4 : Option sm_V} {l5 : Option sm_V} {l6 : Option sm_V} {l7 : Option sm_V} {x8 : Int} {l9 : Option sm_V} {l10 : Option sm_V} {Z : Nat → Nat → Int} {Rf : Nat → Nat → Option Nat} {K : Nat → Nat × Nat} {n z : Nat} {Q : Option sm_V → sm_S → Prop} : sm_wp d 170 154 [l0, l1, l2, l3, l4, l5, l6, l7, some (.inl x8), l9, l10] [] (Z, Rf, K, n, z) Q = (sm_wp d 170 160 [l0, l1, l2, l3, l4, l5, l6, l7, some (.inl (4 - x8)), l9, l10] [] (Z, Rf, K, n, z) Q) := (w_iconst t170_154 rfl).trans ((w_iload t170_155 rfl rfl).trans ((w_isub t170_157 rfl).trans (w_istore t170_158 rfl (Nat.le_of_ble_eq_true rfl) rfl)))
set_option maxRecDepth 10000 in
theorem b170_160 {d : Nat} {q0 : Option Nat} {l1 : Option sm_V} {l2 : Option sm_V} {x3 : Int} {l4 : Option sm_V} {x5 : Int} {l6 : Option sm_V} {l7 : Option sm_V} {x8 : Int} {l9 : Option sm_V} {l10 : Option sm_V} {Z : Nat → Nat → Int} {Rf : Nat → Nat → Option Nat} {K : Nat → Nat × Nat} {n z : Nat} {Q : Option sm_V → sm_S → Prop} : sm_wp (d + 1) 170 160 [some (.inr q0), l1, l2, some (.inl x3), l4, some (.inl x5), l6, l7, some (.inl x8), l9, l10] [] (Z, Rf, K, n, z) Q = (¬ (4 : Int) = 0 ∧ sm_call d 160 [.inl (sm_rem (x5 + x8) 4)] (Z, Rf, K, n, z) (sm_cont (d + 1) 170 176 [some (.inr q0), l1, l2, some (.inl x3), l4, some (.inl (sm_rem (x5 + x8) 4)), l6, l7, some (.inl x8), l9, l10] [.inl x3, .inr q0] Q)) := (w_iload t170_160 rfl rfl).trans ((w_iload t170_162 rfl rfl).trans ((w_iadd t170_164 rfl).trans ((w_iconst t170_165 rfl).trans ((w_irem t170_166 rfl wl_4).trans (congrArg (And _) ((w_istore t170_167 rfl (Nat.le_of_ble_eq_true rfl) rfl).trans ((w_aload_n t170_169 rfl rfl).trans ((w_iload_n t170_170 rfl rfl).trans ((w_iload t170_171 rfl rfl).trans (w_callS t170_173 rfl rfl rfl rfl (Nat.le_of_ble_eq_true rfl) (Nat.le_of_ble_eq_true rfl) rfl))))))))))
set_option maxRecDepth 10000 in
theorem b170_176 {d : Nat} {l0 : Option sm_V} {l1 : Option sm_V} {l2 : Option sm_V} {l3 : Option sm_V} {x4 : Int} {x5 : Int} {l6 : Option sm_V} {l7 : Option sm_V} {l8 : Option sm_V} {l9 : Option sm_V} {l10 : Option sm_V} {qs0 : Option Nat} {s1 : Int} {s2 : Int} {Z : Nat → Nat → Int} {Rf : Nat → Nat → Option Nat} {K : Nat → Nat × Nat} {n z : Nat} {Q : Option sm_V → sm_S → Prop} : sm_wp (d + 1) 170 176 [l0, l1, l2, l3, some (.inl x4), some (.inl x5), l6, l7, l8, l9, l10] [.inl s2, .inl s1, .inr qs0] (Z, Rf, K, n, z) Q = (sm_call d 161 [.inl x5] (Z, Rf, K, n, z) (sm_cont (d + 1) 170 184 [l0, l1, l2, l3, some (.inl x4), some (.inl x5), l6, l7, l8, l9, l10] [.inl x4, .inl (s1 + s2), .inr qs0] Q)) := (w_iadd t170_176 rfl).trans ((w_iload t170_177 rfl rfl).trans ((w_iload t170_179 rfl rfl).trans (w_callS t170_181 rfl rfl rfl rfl (Nat.le_of_ble_eq_true rfl) (Nat.le_of_ble_eq_true rfl) rfl)))
set_option maxRecDepth 10000 in
theorem b170_184 {d : Nat} {l0 : Option sm_V} {l1 : Option sm_V} {l2 : Option sm_V} {l3 : Option sm_V} {l4 : Option sm_V} {l5 : Option sm_V} {l6 : Option sm_V} {l7 : Option sm_V} {l8 : Option sm_V} {l9 : Option sm_V} {l10 : Option sm_V} {rs0 : Nat} {s1 : Int} {s2 : Int} {s3 : Int} {Z : Nat → Nat → Int} {Rf : Nat → Nat → Option Nat} {K : Nat → Nat × Nat} {n z : Nat} {Q : Option sm_V → sm_S → Prop} : sm_wp (d + 1) 170 184 [l0, l1, l2, l3, l4, l5, l6, l7, l8, l9, l10] [.inl s3, .inl s2, .inl s1, .inr (some rs0)] (Z, Rf, K, n, z) Q = ((K rs0).1 = 11 ∧ sm_call d 123 [.inr (some rs0), .inl s1, .inl (s2 + s3)] (Z, Rf, K, n, z) (sm_cont (d + 1) 170 188 [l0, l1, l2, l3, l4, l5, l6, l7, l8, l9, l10] [] Q)) := (w_iadd t170_184 rfl).trans (w_callV t170_185 rfl rfl rfl rfl (Nat.le_of_ble_eq_true rfl) (Nat.le_of_ble_eq_true rfl) rfl (by decide))
set_option maxRecDepth 10000 in
theorem b170_188 {d : Nat} {l0 : Option sm_V} {l1 : Option sm_V} {l2 : Option sm_V} {l3 : Option sm_V} {l4 : Option sm_V} {l5 : Option sm_V} {l6 : Option sm_V} {l7 : Option sm_V} {l8 : Option sm_V} {l9 : Option sm_V} {l10 : Option sm_V} {s0 : Int} {Z : Nat → Nat → Int} {Rf : Nat → Nat → Option Nat} {K : Nat → Nat × Nat} {n z : Nat} {Q : Option sm_V → sm_S → Prop} : sm_wp d 170 188 [l0, l1, l2, l3, l4, l5, l6, l7, l8, l9, l10] [.inl s0] (Z, Rf, K, n, z) Q = (if wr s0 = 0 then sm_wp d 170 191 [l0, l1, l2, l3, l4, l5, l6, l7, l8, l9, l10] [] (Z, Rf, K, n, z) Q else sm_wp d 170 194 [l0, l1, l2, l3, l4, l5, l6, l7, l8, l9, l10] [] (Z, Rf, K, n, z) Q) := w_ifne t170_188 rfl rfl rfl
set_option maxRecDepth 10000 in
theorem b170_191 {d : Nat} {l0 : Option sm_V} {l1 : Option sm_V} {l2 : Option sm_V} {l3 : Option sm_V} {l4 : Option sm_V} {l5 : Option sm_V} {l6 : Option sm_V} {l7 : Option sm_V} {l8 : Option sm_V} {l9 : Option sm_V} {l10 : Option sm_V} {Z : Nat → Nat → Int} {Rf : Nat → Nat → Option Nat} {K : Nat → Nat × Nat} {n z : Nat} {Q : Option sm_V → sm_S → Prop} : sm_wp d 170 191 [l0, l1, l2, l3, l4, l5, l6, l7, l8, l9, l10] [] (Z, Rf, K, n, z) Q = (sm_wp d 170 313 [l0, l1, l2, l3, l4, l5, l6, l7, l8, l9, l10] [] (Z, Rf, K, n, z) Q) := w_goto t170_191 rfl
set_option maxRecDepth 10000 in
theorem b170_194 {d : Nat} {l0 : Option sm_V} {l1 : Option sm_V} {l2 : Option sm_V} {x3 : Int} {x4 : Int} {x5 : Int} {l6 : Option sm_V} {l7 : Option sm_V} {l8 : Option sm_V} {l9 : Option sm_V} {l10 : Option sm_V} {Z : Nat → Nat → Int} {Rf : Nat → Nat → Option Nat} {K : Nat → Nat × Nat} {n z : Nat} {Q : Option sm_V → sm_S → Prop} : sm_wp (d + 1) 170 194 [l0, l1, l2, some (.inl x3), some (.inl x4), some (.inl x5), l6, l7, l8, l9, l10] [] (Z, Rf, K, n, z) Q = (sm_call d 162 [.inl x3, .inl x4, .inl x5] (Z, Rf, K, n, z) (sm_cont (d + 1) 170 202 [l0, l1, l2, some (.inl x3), some (.inl x4), some (.inl x5), l6, l7, l8, l9, l10] [] Q)) := (w_iload_n t170_194 rfl rfl).trans ((w_iload t170_195 rfl rfl).trans ((w_iload t170_197 rfl rfl).trans (w_callS t170_199 rfl rfl rfl rfl (Nat.le_of_ble_eq_true rfl) (Nat.le_of_ble_eq_true rfl) rfl)))
set_option maxRecDepth 10000 in
theorem b170_202 {d : Nat} {r0 : Nat} {l1 : Option sm_V} {l2 : Option sm_V} {l3 : Option sm_V} {l4 : Option sm_V} {l5 : Option sm_V} {l6 : Option sm_V} {l7 : Option sm_V} {l8 : Option sm_V} {l9 : Option sm_V} {l10 : Option sm_V} {s0 : Int} {Z : Nat → Nat → Int} {Rf : Nat → Nat → Option Nat} {K : Nat → Nat × Nat} {n z : Nat} {Q : Option sm_V → sm_S → Prop} : sm_wp d 170 202 [some (.inr (some r0)), l1, l2, l3, l4, l5, l6, l7, l8, l9, l10] [.inl s0] (Z, Rf, K, n, z) Q = ((K r0).1 = 11 ∧ (Rf r0 0).isSome = true ∧ sm_rd (K (((Rf r0 0).getD 0))) (wr (850 + s0)) ∧ (if wr (Z (((Rf r0 0).getD 0)) ((wr (850 + s0)).toNat)) = (-1 : Int) then sm_wp d 170 219 [some (.inr (some r0)), l1, l2, l3, l4, l5, l6, l7, l8, some (.inl s0), l10] [] (Z, Rf, K, n, z) Q else sm_wp d 170 244 [some (.inr (some r0)), l1, l2, l3, l4, l5, l6, l7, l8, some (.inl s0), l10] [] (Z, Rf, K, n, z) Q)) := (w_istore t170_202 rfl (Nat.le_of_ble_eq_true rfl) rfl).trans ((w_aload_n t170_204 rfl rfl).trans ((w_getR t170_205 rfl (by decide)).trans (congrArg (And _) (congrArg (And _) ((w_sipush t170_208 rfl).trans ((w_iload t170_211 rfl rfl).trans ((w_iadd t170_213 rfl).trans ((w_iald t170_214 rfl rfl).trans (congrArg (And _) ((w_iconst t170_215 rfl).trans (w_icne t170_216 rfl wl_m1 rfl rfl)))))))))))
set_option maxRecDepth 10000 in
theorem b170_219 {d : Nat} {r0 : Nat} {x1 : Int} {l2 : Option sm_V} {l3 : Option sm_V} {l4 : Option sm_V} {l5 : Option sm_V} {x6 : Int} {l7 : Option sm_V} {l8 : Option sm_V} {x9 : Int} {l10 : Option sm_V} {Z : Nat → Nat → Int} {Rf : Nat → Nat → Option Nat} {K : Nat → Nat × Nat} {n z : Nat} {Q : Option sm_V → sm_S → Prop} : sm_wp d 170 219 [some (.inr (some r0)), some (.inl x1), l2, l3, l4, l5, some (.inl x6), l7, l8, some (.inl x9), l10] [] (Z, Rf, K, n, z) Q = ((K r0).1 = 11 ∧ (Rf r0 0).isSome = true ∧ sm_wt (K (((Rf r0 0).getD 0))) (wr (850 + x9)) ∧ (K r0).1 = 11 ∧ (Rf r0 0).isSome = true ∧ sm_wt (K (((Rf r0 0).getD 0))) (wr (1092 + x9)) ∧ sm_wp d 170 244 [some (.inr (some r0)), some (.inl x1), l2, l3, l4, l5, some (.inl x6), l7, l8, some (.inl x9), l10] [] (sm_u (sm_u Z (((Rf r0 0).getD 0)) ((wr (850 + x9)).toNat) x1) (((Rf r0 0).getD 0)) ((wr (1092 + x9)).toNat) x6, Rf, K, n, z) Q) := (w_aload_n t170_219 rfl rfl).trans ((w_getR t170_220 rfl (by decide)).trans (congrArg (And _) (congrArg (And _) ((w_sipush t170_223 rfl).trans ((w_iload t170_226 rfl rfl).trans ((w_iadd t170_228 rfl).trans ((w_iload_n t170_229 rfl rfl).trans ((w_iast t170_230 rfl rfl).trans (congrArg (And _) ((w_aload_n t170_231 rfl rfl).trans ((w_getR t170_232 rfl (by decide)).trans (congrArg (And _) (congrArg (And _) ((w_sipush t170_235 rfl).trans ((w_iload t170_238 rfl rfl).trans ((w_iadd t170_240 rfl).trans ((w_iload t170_241 rfl rfl).trans ((w_iast t170_243 rfl rfl).trans (congrArg (And _) rfl)))))))))))))))))))
set_option maxRecDepth 10000 in
theorem b170_244 {d : Nat} {l0 : Option sm_V} {l1 : Option sm_V} {l2 : Option sm_V} {x3 : Int} {l4 : Option sm_V} {x5 : Int} {l6 : Option sm_V} {l7 : Option sm_V} {l8 : Option sm_V} {l9 : Option sm_V} {l10 : Option sm_V} {Z : Nat → Nat → Int} {Rf : Nat → Nat → Option Nat} {K : Nat → Nat × Nat} {n z : Nat} {Q : Option sm_V → sm_S → Prop} : sm_wp (d + 1) 170 244 [l0, l1, l2, some (.inl x3), l4, some (.inl x5), l6, l7, l8, l9, l10] [] (Z, Rf, K, n, z) Q = (sm_call d 160 [.inl x5] (Z, Rf, K, n, z) (sm_cont (d + 1) 170 250 [l0, l1, l2, some (.inl x3), l4, some (.inl x5), l6, l7, l8, l9, l10] [.inl x3] Q)) := (w_iload_n t170_244 rfl rfl).trans ((w_iload t170_245 rfl rfl).trans (w_callS t170_247 rfl rfl rfl rfl (Nat.le_of_ble_eq_true rfl) (Nat.le_of_ble_eq_true rfl) rfl))
set_option maxRecDepth 10000 in
theorem b170_250 {d : Nat} {l0 : Option sm_V} {l1 : Option sm_V} {l2 : Option sm_V} {l3 : Option sm_V} {x4 : Int} {x5 : Int} {l6 : Option sm_V} {l7 : Option sm_V} {l8 : Option sm_V} {l9 : Option sm_V} {l10 : Option sm_V} {s0 : Int} {s1 : Int} {Z : Nat → Nat → Int} {Rf : Nat → Nat → Option Nat} {K : Nat → Nat × Nat} {n z : Nat} {Q : Option sm_V → sm_S → Prop} : sm_wp (d + 1) 170 250 [l0, l1, l2, l3, some (.inl x4), some (.inl x5), l6, l7, l8, l9, l10] [.inl s1, .inl s0] (Z, Rf, K, n, z) Q = (sm_call d 161 [.inl x5] (Z, Rf, K, n, z) (sm_cont (d + 1) 170 259 [l0, l1, l2, some (.inl (s0 + s1)), some (.inl x4), some (.inl x5), l6, l7, l8, l9, l10] [.inl x4] Q)) := (w_iadd t170_250 rfl).trans ((w_istore_n t170_251 rfl (Nat.le_of_ble_eq_true rfl) rfl).trans ((w_iload t170_252 rfl rfl).trans ((w_iload t170_254 rfl rfl).trans (w_callS t170_256 rfl rfl rfl rfl (Nat.le_of_ble_eq_true rfl) (Nat.le_of_ble_eq_true rfl) rfl))))
set_option maxRecDepth 10000 in
theorem b170_259 {d : Nat} {r0 : Nat} {x1 : Int} {l2 : Option sm_V} {x3 : Int} {l4 : Option sm_V} {l5 : Option sm_V} {l6 : Option sm_V} {l7 : Option sm_V} {l8 : Option sm_V} {l9 : Option sm_V} {l10 : Option sm_V} {s0 : Int} {s1 : Int} {Z : Nat → Nat → Int} {Rf : Nat → Nat → Option Nat} {K : Nat → Nat × Nat} {n z : Nat} {Q : Option sm_V → sm_S → Prop} : sm_wp (d + 1) 170 259 [some (.inr (some r0)), some (.inl x1), l2, some (.inl x3), l4, l5, l6, l7, l8, l9, l10] [.inl s1, .inl s0] (Z, Rf, K, n, z) Q = ((K r0).1 = 11 ∧ sm_call d 167 [.inr (some r0), .inl x1, .inl x3, .inl (s0 + s1)] (Z, Rf, K, n, z) (sm_cont (d + 1) 170 270 [some (.inr (some r0)), some (.inl x1), l2, some (.inl x3), some (.inl (s0 + s1)), l5, l6, l7, l8, l9, l10] [] Q)) := (w_iadd t170_259 rfl).trans ((w_istore t170_260 rfl (Nat.le_of_ble_eq_true rfl) rfl).trans ((w_aload_n t170_262 rfl rfl).trans ((w_iload_n t170_263 rfl rfl).trans ((w_iload_n t170_264 rfl rfl).trans ((w_iload t170_265 rfl rfl).trans (w_callV t170_267 rfl rfl rfl rfl (Nat.le_of_ble_eq_true rfl) (Nat.le_of_ble_eq_true rfl) rfl (by decide)))))))
set_option maxRecDepth 10000 in
theorem b170_270 {d : Nat} {l0 : Option sm_V} {l1 : Option sm_V} {l2 : Option sm_V} {l3 : Option sm_V} {l4 : Option sm_V} {l5 : Option sm_V} {l6 : Option sm_V} {l7 : Option sm_V} {l8 : Option sm_V} {l9 : Option sm_V} {l10 : Option sm_V} {s0 : Int} {Z : Nat → Nat → Int} {Rf : Nat → Nat → Option Nat} {K : Nat → Nat × Nat} {n z : Nat} {Q : Option sm_V → sm_S → Prop} : sm_wp d 170 270 [l0, l1, l2, l3, l4, l5, l6, l7, l8, l9, l10] [.inl s0] (Z, Rf, K, n, z) Q = (if wr s0 = (-1 : Int) then sm_wp d 170 290 [l0, l1, l2, l3, l4, l5, l6, l7, l8, l9, some (.inl s0)] [] (Z, Rf, K, n, z) Q else sm_wp d 170 278 [l0, l1, l2, l3, l4, l5, l6, l7, l8, l9, some (.inl s0)] [] (Z, Rf, K, n, z) Q) := (w_istore t170_270 rfl (Nat.le_of_ble_eq_true rfl) rfl).trans ((w_iload t170_272 rfl rfl).trans ((w_iconst t170_274 rfl).trans (w_iceq t170_275 rfl wl_m1 rfl rfl)))
set_option maxRecDepth 10000 in
theorem b170_278 {d : Nat} {r0 : Nat} {x1 : Int} {l2 : Option sm_V} {x3 : Int} {x4 : Int} {l5 : Option sm_V} {x6 : Int} {l7 : Option sm_V} {l8 : Option sm_V} {l9 : Option sm_V} {x10 : Int} {Z : Nat → Nat → Int} {Rf : Nat → Nat → Option Nat} {K : Nat → Nat × Nat} {n z : Nat} {Q : Option sm_V → sm_S → Prop} : sm_wp (d + 1) 170 278 [some (.inr (some r0)), some (.inl x1), l2, some (.inl x3), some (.inl x4), l5, some (.inl x6), l7, l8, l9, some (.inl x10)] [] (Z, Rf, K, n, z) Q = ((K r0).1 = 11 ∧ sm_call d 169 [.inr (some r0), .inl x1, .inl x10, .inl x3, .inl x4, .inl x6] (Z, Rf, K, n, z) (sm_cont (d + 1) 170 290 [some (.inr (some r0)), some (.inl x1), l2, some (.inl x3), some (.inl x4), l5, some (.inl x6), l7, l8, l9, some (.inl x10)] [] Q)) := (w_aload_n t170_278 rfl rfl).trans ((w_iload_n t170_279 rfl rfl).trans ((w_iload t170_280 rfl rfl).trans ((w_iload_n t170_282 rfl rfl).trans ((w_iload t170_283 rfl rfl).trans ((w_iload t170_285 rfl rfl).trans (w_callV t170_287 rfl rfl rfl rfl (Nat.le_of_ble_eq_true rfl) (Nat.le_of_ble_eq_true rfl) rfl (by decide)))))))
set_option maxRecDepth 10000 in
theorem b170_290 {d : Nat} {r0 : Nat} {l1 : Option sm_V} {l2 : Option sm_V} {x3 : Int} {x4 : Int} {l5 : Option sm_V} {x6 : Int} {l7 : Option sm_V} {l8 : Option sm_V} {l9 : Option sm_V} {l10 : Option sm_V} {Z : Nat → Nat → Int} {Rf : Nat → Nat → Option Nat} {K : Nat → Nat × Nat} {n z : Nat} {Q : Option sm_V → sm_S → Prop} : sm_wp (d + 1) 170 290 [some (.inr (some r0)), l1, l2, some (.inl x3), some (.inl x4), l5, some (.inl x6), l7, l8, l9, l10] [] (Z, Rf, K, n, z) Q = ((K r0).1 = 11 ∧ sm_call d 168 [.inr (some r0), .inl x3, .inl x4] (Z, Rf, K, n, z) (sm_cont (d + 1) 170 300 [some (.inr (some r0)), l1, l2, some (.inl x3), some (.inl x4), l5, some (.inl (x6 + 1)), l7, l8, l9, l10] [] Q)) := (w_iinc t170_290 rfl rfl (Nat.le_of_ble_eq_true rfl) rfl).trans ((w_aload_n t170_293 rfl rfl).trans ((w_iload_n t170_294 rfl rfl).trans ((w_iload t170_295 rfl rfl).trans (w_callV t170_297 rfl rfl rfl rfl (Nat.le_of_ble_eq_true rfl) (Nat.le_of_ble_eq_true rfl) rfl (by decide)))))
set_option maxRecDepth 10000 in
theorem b170_300 {d : Nat} {l0 : Option sm_V} {l1 : Option sm_V} {l2 : Option sm_V} {l3 : Option sm_V} {l4 : Option sm_V} {l5 : Option sm_V} {l6 : Option sm_V} {l7 : Option sm_V} {l8 : Option sm_V} {l9 : Option sm_V} {l10 : Option sm_V} {s0 : Int} {Z : Nat → Nat → Int} {Rf : Nat → Nat → Option Nat} {K : Nat → Nat × Nat} {n z : Nat} {Q : Option sm_V → sm_S → Prop} : sm_wp d 170 300 [l0, l1, l2, l3, l4, l5, l6, l7, l8, l9, l10] [.inl s0] (Z, Rf, K, n, z) Q = (if wr s0 = 0 then sm_wp d 170 303 [l0, l1, l2, l3, l4, l5, l6, l7, l8, l9, l10] [] (Z, Rf, K, n, z) Q else sm_wp d 170 307 [l0, l1, l2, l3, l4, l5, l6, l7, l8, l9, l10] [] (Z, Rf, K, n, z) Q) := w_ifne t170_300 rfl rfl rfl
set_option maxRecDepth 10000 in
theorem b170_303 {d : Nat} {l0 : Option sm_V} {l1 : Option sm_V} {l2 : Option sm_V} {l3 : Option sm_V} {l4 : Option sm_V} {l5 : Option sm_V} {l6 : Option sm_V} {l7 : Option sm_V} {l8 : Option sm_V} {l9 : Option sm_V} {l10 : Option sm_V} {Z : Nat → Nat → Int} {Rf : Nat → Nat → Option Nat} {K : Nat → Nat × Nat} {n z : Nat} {Q : Option sm_V → sm_S → Prop} : sm_wp d 170 303 [l0, l1, l2, l3, l4, l5, l6, l7, l8, l9, l10] [] (Z, Rf, K, n, z) Q = (sm_wp d 170 308 [l0, l1, l2, l3, l4, l5, l6, l7, l8, l9, l10] [.inl 1] (Z, Rf, K, n, z) Q) := (w_iconst t170_303 rfl).trans (w_goto t170_304 rfl)
set_option maxRecDepth 10000 in
theorem b170_307 {d : Nat} {l0 : Option sm_V} {l1 : Option sm_V} {l2 : Option sm_V} {l3 : Option sm_V} {l4 : Option sm_V} {l5 : Option sm_V} {l6 : Option sm_V} {l7 : Option sm_V} {l8 : Option sm_V} {l9 : Option sm_V} {l10 : Option sm_V} {Z : Nat → Nat → Int} {Rf : Nat → Nat → Option Nat} {K : Nat → Nat × Nat} {n z : Nat} {Q : Option sm_V → sm_S → Prop} : sm_wp d 170 307 [l0, l1, l2, l3, l4, l5, l6, l7, l8, l9, l10] [] (Z, Rf, K, n, z) Q = (sm_wp d 170 308 [l0, l1, l2, l3, l4, l5, l6, l7, l8, l9, l10] [.inl 0] (Z, Rf, K, n, z) Q) := w_iconst t170_307 rfl
set_option maxRecDepth 10000 in
theorem b170_308 {d : Nat} {l0 : Option sm_V} {l1 : Option sm_V} {l2 : Option sm_V} {l3 : Option sm_V} {l4 : Option sm_V} {l5 : Option sm_V} {l6 : Option sm_V} {l7 : Option sm_V} {l8 : Option sm_V} {l9 : Option sm_V} {l10 : Option sm_V} {s0 : Int} {Z : Nat → Nat → Int} {Rf : Nat → Nat → Option Nat} {K : Nat → Nat × Nat} {n z : Nat} {Q : Option sm_V → sm_S → Prop} : sm_wp d 170 308 [l0, l1, l2, l3, l4, l5, l6, l7, l8, l9, l10] [.inl s0] (Z, Rf, K, n, z) Q = (sm_wp d 170 41 [l0, l1, l2, l3, l4, l5, l6, some (.inl s0), l8, l9, l10] [] (Z, Rf, K, n, z) Q) := (w_istore t170_308 rfl (Nat.le_of_ble_eq_true rfl) rfl).trans (w_goto t170_310 rfl)
set_option maxRecDepth 10000 in
theorem b170_313 {d : Nat} {r0 : Nat} {x1 : Int} {l2 : Option sm_V} {x3 : Int} {x4 : Int} {x5 : Int} {x6 : Int} {l7 : Option sm_V} {l8 : Option sm_V} {l9 : Option sm_V} {l10 : Option sm_V} {Z : Nat → Nat → Int} {Rf : Nat → Nat → Option Nat} {K : Nat → Nat × Nat} {n z : Nat} {Q : Option sm_V → sm_S → Prop} : sm_wp d 170 313 [some (.inr (some r0)), some (.inl x1), l2, some (.inl x3), some (.inl x4), some (.inl x5), some (.inl x6), l7, l8, l9, l10] [] (Z, Rf, K, n, z) Q = ((K r0).1 = 11 ∧ (Rf r0 24).isSome = true ∧ sm_wt (K (((Rf r0 24).getD 0))) (wr x1) ∧ (K r0).1 = 11 ∧ (Rf r0 25).isSome = true ∧ sm_wt (K (((Rf r0 25).getD 0))) (wr x1) ∧ (K r0).1 = 11 ∧ (Rf r0 26).isSome = true ∧ sm_wt (K (((Rf r0 26).getD 0))) (wr x1) ∧ (K r0).1 = 11 ∧ (Rf r0 27).isSome = true ∧ sm_wt (K (((Rf r0 27).getD 0))) (wr x1) ∧ Q none (sm_u (sm_u (sm_u (sm_u Z (((Rf r0 24).getD 0)) ((wr x1).toNat) x3) (((Rf r0 25).getD 0)) ((wr x1).toNat) x4) (((Rf r0 26).getD 0)) ((wr x1).toNat) x6) (((Rf r0 27).getD 0)) ((wr x1).toNat) x5, Rf, K, n, z)) := (w_aload_n t170_313 rfl rfl).trans ((w_getR t170_314 rfl (by decide)).trans (congrArg (And _) (congrArg (And _) ((w_iload_n t170_317 rfl rfl).trans ((w_iload_n t170_318 rfl rfl).trans ((w_iast t170_319 rfl rfl).trans (congrArg (And _) ((w_aload_n t170_320 rfl rfl).trans ((w_getR t170_321 rfl (by decide)).trans (congrArg (And _) (congrArg (And _) ((w_iload_n t170_324 rfl rfl).trans ((w_iload t170_325 rfl rfl).trans ((w_iast t170_327 rfl rfl).trans (congrArg (And _) ((w_aload_n t170_328 rfl rfl).trans ((w_getR t170_329 rfl (by decide)).trans (congrArg (And _) (congrArg (And _) ((w_iload_n t170_332 rfl rfl).trans ((w_iload t170_333 rfl rfl).trans ((w_iast t170_335 rfl rfl).trans (congrArg (And _) ((w_aload_n t170_336 rfl rfl).trans ((w_getR t170_337 rfl (by decide)).trans (congrArg (And _) (congrArg (And _) ((w_iload_n t170_340 rfl rfl).trans ((w_iload t170_341 rfl rfl).trans ((w_iast t170_343 rfl rfl).trans (congrArg (And _) (w_vret t170_344))))))))))))))))))))))))))))))))
theorem t171_0 : sm_at 171 0 = some (1, .aload_n 0, 0, 0, 0) := rfl
theorem t171_1 : sm_at 171 1 = some (3, .invokevirtual 69, 119, 1, 0) := rfl
theorem t171_4 : sm_at 171 4 = some (1, .iconst 0, 0, 0, 0) := rfl
theorem t171_5 : sm_at 171 5 = some (1, .istore_n 1, 0, 0, 0) := rfl
theorem t171_6 : sm_at 171 6 = some (1, .iload_n 1, 0, 0, 0) := rfl
theorem t171_7 : sm_at 171 7 = some (1, .aload_n 0, 0, 0, 0) := rfl
theorem t171_8 : sm_at 171 8 = some (3, .getfield 7, 11, 0, 0) := rfl
theorem t171_11 : sm_at 171 11 = some (1, .iconst 4, 0, 0, 0) := rfl
theorem t171_12 : sm_at 171 12 = some (1, .iaload, 0, 0, 0) := rfl
theorem t171_13 : sm_at 171 13 = some (3, .if_icmp .ge 14, 0, 0, 0) := rfl
theorem t171_16 : sm_at 171 16 = some (1, .aload_n 0, 0, 0, 0) := rfl
theorem t171_17 : sm_at 171 17 = some (1, .iload_n 1, 0, 0, 0) := rfl
theorem t171_18 : sm_at 171 18 = some (3, .invokevirtual 275, 170, 2, 0) := rfl
theorem t171_21 : sm_at 171 21 = some (3, .iinc 1 1, 0, 0, 0) := rfl
theorem t171_24 : sm_at 171 24 = some (3, .goto (-18), 0, 0, 0) := rfl
theorem t171_27 : sm_at 171 27 = some (1, .return_, 0, 0, 0) := rfl
set_option maxRecDepth 10000 in
theorem b171_0 {d : Nat} {r0 : Nat} {l1 : Option sm_V} {Z : Nat → Nat → Int} {Rf : Nat → Nat → Option Nat} {K : Nat → Nat × Nat} {n z : Nat} {Q : Option sm_V → sm_S → Prop} : sm_wp (d + 1) 171 0 [some (.inr (some r0)), l1] [] (Z, Rf, K, n, z) Q = ((K r0).1 = 11 ∧ sm_call d 119 [.inr (some r0)] (Z, Rf, K, n, z) (sm_cont (d + 1) 171 4 [some (.inr (some r0)), l1] [] Q)) := (w_aload_n t171_0 rfl rfl).trans (w_callV t171_1 rfl rfl rfl rfl (Nat.le_of_ble_eq_true rfl) (Nat.le_of_ble_eq_true rfl) rfl (by decide))
set_option maxRecDepth 10000 in
theorem b171_4 {d : Nat} {l0 : Option sm_V} {l1 : Option sm_V} {Z : Nat → Nat → Int} {Rf : Nat → Nat → Option Nat} {K : Nat → Nat × Nat} {n z : Nat} {Q : Option sm_V → sm_S → Prop} : sm_wp d 171 4 [l0, l1] [] (Z, Rf, K, n, z) Q = (sm_wp d 171 6 [l0, some (.inl 0)] [] (Z, Rf, K, n, z) Q) := (w_iconst t171_4 rfl).trans (w_istore_n t171_5 rfl (Nat.le_of_ble_eq_true rfl) rfl)
set_option maxRecDepth 10000 in
theorem b171_6 {d : Nat} {r0 : Nat} {x1 : Int} {Z : Nat → Nat → Int} {Rf : Nat → Nat → Option Nat} {K : Nat → Nat × Nat} {n z : Nat} {Q : Option sm_V → sm_S → Prop} : sm_wp d 171 6 [some (.inr (some r0)), some (.inl x1)] [] (Z, Rf, K, n, z) Q = ((K r0).1 = 11 ∧ (Rf r0 0).isSome = true ∧ sm_rd (K (((Rf r0 0).getD 0))) ((4 : Int)) ∧ (if wr (Z (((Rf r0 0).getD 0)) 4) ≤ wr x1 then sm_wp d 171 27 [some (.inr (some r0)), some (.inl x1)] [] (Z, Rf, K, n, z) Q else sm_wp d 171 16 [some (.inr (some r0)), some (.inl x1)] [] (Z, Rf, K, n, z) Q)) := (w_iload_n t171_6 rfl rfl).trans ((w_aload_n t171_7 rfl rfl).trans ((w_getR t171_8 rfl (by decide)).trans (congrArg (And _) (congrArg (And _) ((w_iconst t171_11 rfl).trans ((w_iald t171_12 rfl wl_4).trans (congrArg (And _) (w_icge t171_13 rfl rfl rfl rfl))))))))
set_option maxRecDepth 10000 in
theorem b171_16 {d : Nat} {r0 : Nat} {x1 : Int} {Z : Nat → Nat → Int} {Rf : Nat → Nat → Option Nat} {K : Nat → Nat × Nat} {n z : Nat} {Q : Option sm_V → sm_S → Prop} : sm_wp (d + 1) 171 16 [some (.inr (some r0)), some (.inl x1)] [] (Z, Rf, K, n, z) Q = ((K r0).1 = 11 ∧ sm_call d 170 [.inr (some r0), .inl x1] (Z, Rf, K, n, z) (sm_cont (d + 1) 171 21 [some (.inr (some r0)), some (.inl x1)] [] Q)) := (w_aload_n t171_16 rfl rfl).trans ((w_iload_n t171_17 rfl rfl).trans (w_callV t171_18 rfl rfl rfl rfl (Nat.le_of_ble_eq_true rfl) (Nat.le_of_ble_eq_true rfl) rfl (by decide)))
set_option maxRecDepth 10000 in
theorem b171_21 {d : Nat} {l0 : Option sm_V} {x1 : Int} {Z : Nat → Nat → Int} {Rf : Nat → Nat → Option Nat} {K : Nat → Nat × Nat} {n z : Nat} {Q : Option sm_V → sm_S → Prop} : sm_wp d 171 21 [l0, some (.inl x1)] [] (Z, Rf, K, n, z) Q = (sm_wp d 171 6 [l0, some (.inl (x1 + 1))] [] (Z, Rf, K, n, z) Q) := (w_iinc t171_21 rfl rfl (Nat.le_of_ble_eq_true rfl) rfl).trans (w_goto t171_24 rfl)
set_option maxRecDepth 10000 in
theorem b171_27 {d : Nat} {l0 : Option sm_V} {l1 : Option sm_V} {Z : Nat → Nat → Int} {Rf : Nat → Nat → Option Nat} {K : Nat → Nat × Nat} {n z : Nat} {Q : Option sm_V → sm_S → Prop} : sm_wp d 171 27 [l0, l1] [] (Z, Rf, K, n, z) Q = (Q none (Z, Rf, K, n, z)) := w_vret t171_27
theorem t172_0 : sm_at 172 0 = some (1, .aload_n 0, 0, 0, 0) := rfl
theorem t172_1 : sm_at 172 1 = some (1, .iload_n 1, 0, 0, 0) := rfl
theorem t172_2 : sm_at 172 2 = some (1, .iload_n 3, 0, 0, 0) := rfl
theorem t172_3 : sm_at 172 3 = some (3, .invokestatic 239, 160, 1, 0) := rfl
theorem t172_6 : sm_at 172 6 = some (1, .iadd, 0, 0, 0) := rfl
theorem t172_7 : sm_at 172 7 = some (1, .iload_n 2, 0, 0, 0) := rfl
theorem t172_8 : sm_at 172 8 = some (1, .iload_n 3, 0, 0, 0) := rfl
theorem t172_9 : sm_at 172 9 = some (3, .invokestatic 242, 161, 1, 0) := rfl
theorem t172_12 : sm_at 172 12 = some (1, .iadd, 0, 0, 0) := rfl
theorem t172_13 : sm_at 172 13 = some (3, .invokevirtual 79, 121, 3, 0) := rfl
theorem t172_16 : sm_at 172 16 = some (3, .ifCond .ne 5, 0, 0, 0) := rfl
theorem t172_19 : sm_at 172 19 = some (1, .iconst 0, 0, 0, 0) := rfl
theorem t172_20 : sm_at 172 20 = some (1, .ireturn, 1, 0, 0) := rfl
theorem t172_21 : sm_at 172 21 = some (1, .iload_n 3, 0, 0, 0) := rfl
theorem t172_22 : sm_at 172 22 = some (3, .ifCond .ne 12, 0, 0, 0) := rfl
theorem t172_25 : sm_at 172 25 = some (1, .iload_n 1, 0, 0, 0) := rfl
theorem t172_26 : sm_at 172 26 = some (1, .iload_n 2, 0, 0, 0) := rfl
theorem t172_27 : sm_at 172 27 = some (1, .iconst 1, 0, 0, 0) := rfl
theorem t172_28 : sm_at 172 28 = some (3, .invokestatic 248, 162, 3, 0) := rfl
theorem t172_31 : sm_at 172 31 = some (3, .goto 41, 0, 0, 0) := rfl
theorem t172_34 : sm_at 172 34 = some (1, .iload_n 3, 0, 0, 0) := rfl
theorem t172_35 : sm_at 172 35 = some (1, .iconst 1, 0, 0, 0) := rfl
theorem t172_36 : sm_at 172 36 = some (3, .if_icmp .ne 14, 0, 0, 0) := rfl
theorem t172_39 : sm_at 172 39 = some (1, .iload_n 1, 0, 0, 0) := rfl
theorem t172_40 : sm_at 172 40 = some (1, .iconst 1, 0, 0, 0) := rfl
theorem t172_41 : sm_at 172 41 = some (1, .iadd, 0, 0, 0) := rfl
theorem t172_42 : sm_at 172 42 = some (1, .iload_n 2, 0, 0, 0) := rfl
theorem t172_43 : sm_at 172 43 = some (1, .iconst 2, 0, 0, 0) := rfl
theorem t172_44 : sm_at 172 44 = some (3, .invokestatic 248, 162, 3, 0) := rfl
theorem t172_47 : sm_at 172 47 = some (3, .goto 25, 0, 0, 0) := rfl
theorem t172_50 : sm_at 172 50 = some (1, .iload_n 3, 0, 0, 0) := rfl
theorem t172_51 : sm_at 172 51 = some (1, .iconst 2, 0, 0, 0) := rfl
theorem t172_52 : sm_at 172 52 = some (3, .if_icmp .ne 14, 0, 0, 0) := rfl
theorem t172_55 : sm_at 172 55 = some (1, .iload_n 1, 0, 0, 0) := rfl
theorem t172_56 : sm_at 172 56 = some (1, .iload_n 2, 0, 0, 0) := rfl
theorem t172_57 : sm_at 172 57 = some (1, .iconst 1, 0, 0, 0) := rfl
theorem t172_58 : sm_at 172 58 = some (1, .iadd, 0, 0, 0) := rfl
theorem t172_59 : sm_at 172 59 = some (1, .iconst 1, 0, 0, 0) := rfl
theorem t172_60 : sm_at 172 60 = some (3, .invokestatic 248, 162, 3, 0) := rfl
theorem t172_63 : sm_at 172 63 = some (3, .goto 9, 0, 0, 0) := rfl
theorem t172_66 : sm_at 172 66 = some (1, .iload_n 1, 0, 0, 0) := rfl
theorem t172_67 : sm_at 172 67 = some (1, .iload_n 2, 0, 0, 0) := rfl
theorem t172_68 : sm_at 172 68 = some (1, .iconst 2, 0, 0, 0) := rfl
theorem t172_69 : sm_at 172 69 = some (3, .invokestatic 248, 162, 3, 0) := rfl
theorem t172_72 : sm_at 172 72 = some (2, .istore 4, 0, 0, 0) := rfl
theorem t172_74 : sm_at 172 74 = some (1, .aload_n 0, 0, 0, 0) := rfl
theorem t172_75 : sm_at 172 75 = some (3, .getfield 7, 11, 0, 0) := rfl
theorem t172_78 : sm_at 172 78 = some (3, .sipush 850, 0, 0, 0) := rfl
theorem t172_81 : sm_at 172 81 = some (2, .iload 4, 0, 0, 0) := rfl
theorem t172_83 : sm_at 172 83 = some (1, .iadd, 0, 0, 0) := rfl
theorem t172_84 : sm_at 172 84 = some (1, .iaload, 0, 0, 0) := rfl
theorem t172_85 : sm_at 172 85 = some (1, .iconst (-1), 0, 0, 0) := rfl
theorem t172_86 : sm_at 172 86 = some (3, .if_icmp .ne 7, 0, 0, 0) := rfl
theorem t172_89 : sm_at 172 89 = some (1, .iconst 1, 0, 0, 0) := rfl
theorem t172_90 : sm_at 172 90 = some (3, .goto 4, 0, 0, 0) := rfl
theorem t172_93 : sm_at 172 93 = some (1, .iconst 0, 0, 0, 0) := rfl
theorem t172_94 : sm_at 172 94 = some (1, .ireturn, 1, 0, 0) := rfl
set_option maxRecDepth 10000 in
theorem b172_0 {d : Nat} {q0 : Option Nat} {x1 : Int} {l2 : Option sm_V} {x3 : Int} {l4 : Option sm_V} {Z : Nat → Nat → Int} {Rf : Nat → Nat → Option Nat} {K : Nat → Nat × Nat} {n z : Nat} {Q : Option sm_V → sm_S → Prop} : sm_wp (d + 1) 172 0 [some (.inr q0), some (.inl x1), l2, some (.inl x3), l4] [] (Z, Rf, K, n, z) Q = (sm_call d 160 [.inl x3] (Z, Rf, K, n, z) (sm_cont (d + 1) 172 6 [some (.inr q0), some (.inl x1), l2, some (.inl x3), l4] [.inl x1, .inr q0] Q)) := (w_aload_n t172_0 rfl rfl).trans ((w_iload_n t172_1 rfl rfl).trans ((w_iload_n t172_2 rfl rfl).trans (w_callS t172_3 rfl rfl rfl rfl (Nat.le_of_ble_eq_true rfl) (Nat.le_of_ble_eq_true rfl) rfl)))
set_option maxRecDepth 10000 in
theorem b172_6 {d : Nat} {l0 : Option sm_V} {l1 : Option sm_V} {x2 : Int} {x3 : Int} {l4 : Option sm_V} {qs0 : Option Nat} {s1 : Int} {s2 : Int} {Z : Nat → Nat → Int} {Rf : Nat → Nat → Option Nat} {K : Nat → Nat × Nat} {n z : Nat} {Q : Option sm_V → sm_S → Prop} : sm_wp (d + 1) 172 6 [l0, l1, some (.inl x2), some (.inl x3), l4] [.inl s2, .inl s1, .inr qs0] (Z, Rf, K, n, z) Q = (sm_call d 161 [.inl x3] (Z, Rf, K, n, z) (sm_cont (d + 1) 172 12 [l0, l1, some (.inl x2), some (.inl x3), l4] [.inl x2, .inl (s1 + s2), .inr qs0] Q)) := (w_iadd t172_6 rfl).trans ((w_iload_n t172_7 rfl rfl).trans ((w_iload_n t172_8 rfl rfl).trans (w_callS t172_9 rfl rfl rfl rfl (Nat.le_of_ble_eq_true rfl) (Nat.le_of_ble_eq_true rfl) rfl)))
set_option maxRecDepth 10000 in
theorem b172_12 {d : Nat} {l0 : Option sm_V} {l1 : Option sm_V} {l2 : Option sm_V} {l3 : Option sm_V} {l4 : Option sm_V} {rs0 : Nat} {s1 : Int} {s2 : Int} {s3 : Int} {Z : Nat → Nat → Int} {Rf : Nat → Nat → Option Nat} {K : Nat → Nat × Nat} {n z : Nat} {Q : Option sm_V → sm_S → Prop} : sm_wp (d + 1) 172 12 [l0, l1, l2, l3, l4] [.inl s3, .inl s2, .inl s1, .inr (some rs0)] (Z, Rf, K, n, z) Q = ((K rs0).1 = 11 ∧ sm_call d 121 [.inr (some rs0), .inl s1, .inl (s2 + s3)] (Z, Rf, K, n, z) (sm_cont (d + 1) 172 16 [l0, l1, l2, l3, l4] [] Q)) := (w_iadd t172_12 rfl).trans (w_callV t172_13 rfl rfl rfl rfl (Nat.le_of_ble_eq_true rfl) (Nat.le_of_ble_eq_true rfl) rfl (by decide))
set_option maxRecDepth 10000 in
theorem b172_16 {d : Nat} {l0 : Option sm_V} {l1 : Option sm_V} {l2 : Option sm_V} {l3 : Option sm_V} {l4 : Option sm_V} {s0 : Int} {Z : Nat → Nat → Int} {Rf : Nat → Nat → Option Nat} {K : Nat → Nat × Nat} {n z : Nat} {Q : Option sm_V → sm_S → Prop} : sm_wp d 172 16 [l0, l1, l2, l3, l4] [.inl s0] (Z, Rf, K, n, z) Q = (if wr s0 = 0 then sm_wp d 172 19 [l0, l1, l2, l3, l4] [] (Z, Rf, K, n, z) Q else sm_wp d 172 21 [l0, l1, l2, l3, l4] [] (Z, Rf, K, n, z) Q) := w_ifne t172_16 rfl rfl rfl
set_option maxRecDepth 10000 in
theorem b172_19 {d : Nat} {l0 : Option sm_V} {l1 : Option sm_V} {l2 : Option sm_V} {l3 : Option sm_V} {l4 : Option sm_V} {Z : Nat → Nat → Int} {Rf : Nat → Nat → Option Nat} {K : Nat → Nat × Nat} {n z : Nat} {Q : Option sm_V → sm_S → Prop} : sm_wp d 172 19 [l0, l1, l2, l3, l4] [] (Z, Rf, K, n, z) Q = (((0 : Int) = 0 ∨ (0 : Int) = 1) ∧ Q (some (.inl 0)) (Z, Rf, K, n, z)) := (w_iconst t172_19 rfl).trans (w_zret t172_20 wl_0)
set_option maxRecDepth 10000 in
theorem b172_21 {d : Nat} {l0 : Option sm_V} {l1 : Option sm_V} {l2 : Option sm_V} {x3 : Int} {l4 : Option sm_V} {Z : Nat → Nat → Int} {Rf : Nat → Nat → Option Nat} {K : Nat → Nat × Nat} {n z : Nat} {Q : Option sm_V → sm_S → Prop} : sm_wp d 172 21 [l0, l1, l2, some (.inl x3), l4] [] (Z, Rf, K, n, z) Q = (if wr x3 = 0 then sm_wp d 172 25 [l0, l1, l2, some (.inl x3), l4] [] (Z, Rf, K, n, z) Q else sm_wp d 172 34 [l0, l1, l2, some (.inl x3), l4] [] (Z, Rf, K, n, z) Q) := (w_iload_n t172_21 rfl rfl).trans (w_ifne t172_22 rfl rfl rfl)
set_option maxRecDepth 10000 in
theorem b172_25 {d : Nat} {l0 : Option sm_V} {x1 : Int} {x2 : Int} {l3 : Option sm_V} {l4 : Option sm_V} {Z : Nat → Nat → Int} {Rf : Nat → Nat → Option Nat} {K : Nat → Nat × Nat} {n z : Nat} {Q : Option sm_V → sm_S → Prop} : sm_wp (d + 1) 172 25 [l0, some (.inl x1), some (.inl x2), l3, l4] [] (Z, Rf, K, n, z) Q = (sm_call d 162 [.inl x1, .inl x2, .inl 1] (Z, Rf, K, n, z) (sm_cont (d + 1) 172 31 [l0, some (.inl x1), some (.inl x2), l3, l4] [] Q)) := (w_iload_n t172_25 rfl rfl).trans ((w_iload_n t172_26 rfl rfl).trans ((w_iconst t172_27 rfl).trans (w_callS t172_28 rfl rfl rfl rfl (Nat.le_of_ble_eq_true rfl) (Nat.le_of_ble_eq_true rfl) rfl)))
set_option maxRecDepth 10000 in
theorem b172_31 {d : Nat} {l0 : Option sm_V} {l1 : Option sm_V} {l2 : Option sm_V} {l3 : Option sm_V} {l4 : Option sm_V} {s0 : Int} {Z : Nat → Nat → Int} {Rf : Nat → Nat → Option Nat} {K : Nat → Nat × Nat} {n z : Nat} {Q : Option sm_V → sm_S → Prop} : sm_wp d 172 31 [l0, l1, l2, l3, l4] [.inl s0] (Z, Rf, K, n, z) Q = (sm_wp d 172 72 [l0, l1, l2, l3, l4] [.inl s0] (Z, Rf, K, n, z) Q) := w_goto t172_31 rfl
set_option maxRecDepth 10000 in
theorem b172_34 {d : Nat} {l0 : Option sm_V} {l1 : Option sm_V} {l2 : Option sm_V} {x3 : Int} {l4 : Option sm_V} {Z : Nat → Nat → Int} {Rf : Nat → Nat → Option Nat} {K : Nat → Nat × Nat} {n z : Nat} {Q : Option sm_V → sm_S → Prop} : sm_wp d 172 34 [l0, l1, l2, some (.inl x3), l4] [] (Z, Rf, K, n, z) Q = (if wr x3 = (1 : Int) then sm_wp d 172 39 [l0, l1, l2, some (.inl x3), l4] [] (Z, Rf, K, n, z) Q else sm_wp d 172 50 [l0, l1, l2, some (.inl x3), l4] [] (Z, Rf, K, n, z) Q) := (w_iload_n t172_34 rfl rfl).trans ((w_iconst t172_35 rfl).trans (w_icne t172_36 rfl wl_1 rfl rfl))
set_option maxRecDepth 10000 in
theorem b172_39 {d : Nat} {l0 : Option sm_V} {x1 : Int} {x2 : Int} {l3 : Option sm_V} {l4 : Option sm_V} {Z : Nat → Nat → Int} {Rf : Nat → Nat → Option Nat} {K : Nat → Nat × Nat} {n z : Nat} {Q : Option sm_V → sm_S → Prop} : sm_wp (d + 1) 172 39 [l0, some (.inl x1), some (.inl x2), l3, l4] [] (Z, Rf, K, n, z) Q = (sm_call d 162 [.inl (x1 + 1), .inl x2, .inl 2] (Z, Rf, K, n, z) (sm_cont (d + 1) 172 47 [l0, some (.inl x1), some (.inl x2), l3, l4] [] Q)) := (w_iload_n t172_39 rfl rfl).trans ((w_iconst t172_40 rfl).trans ((w_iadd t172_41 rfl).trans ((w_iload_n t172_42 rfl rfl).trans ((w_iconst t172_43 rfl).trans (w_callS t172_44 rfl rfl rfl rfl (Nat.le_of_ble_eq_true rfl) (Nat.le_of_ble_eq_true rfl) rfl)))))
set_option maxRecDepth 10000 in
theorem b172_47 {d : Nat} {l0 : Option sm_V} {l1 : Option sm_V} {l2 : Option sm_V} {l3 : Option sm_V} {l4 : Option sm_V} {s0 : Int} {Z : Nat → Nat → Int} {Rf : Nat → Nat → Option Nat} {K : Nat → Nat × Nat} {n z : Nat} {Q : Option sm_V → sm_S → Prop} : sm_wp d 172 47 [l0, l1, l2, l3, l4] [.inl s0] (Z, Rf, K, n, z) Q = (sm_wp d 172 72 [l0, l1, l2, l3, l4] [.inl s0] (Z, Rf, K, n, z) Q) := w_goto t172_47 rfl
set_option maxRecDepth 10000 in
theorem b172_50 {d : Nat} {l0 : Option sm_V} {l1 : Option sm_V} {l2 : Option sm_V} {x3 : Int} {l4 : Option sm_V} {Z : Nat → Nat → Int} {Rf : Nat → Nat → Option Nat} {K : Nat → Nat × Nat} {n z : Nat} {Q : Option sm_V → sm_S → Prop} : sm_wp d 172 50 [l0, l1, l2, some (.inl x3), l4] [] (Z, Rf, K, n, z) Q = (if wr x3 = (2 : Int) then sm_wp d 172 55 [l0, l1, l2, some (.inl x3), l4] [] (Z, Rf, K, n, z) Q else sm_wp d 172 66 [l0, l1, l2, some (.inl x3), l4] [] (Z, Rf, K, n, z) Q) := (w_iload_n t172_50 rfl rfl).trans ((w_iconst t172_51 rfl).trans (w_icne t172_52 rfl wl_2 rfl rfl))
set_option maxRecDepth 10000 in
theorem b172_55 {d : Nat} {l0 : Option sm_V} {x1 : Int} {x2 : Int} {l3 : Option sm_V} {l4 : Option sm_V} {Z : Nat → Nat → Int} {Rf : Nat → Nat → Option Nat} {K : Nat → Nat × Nat} {n z : Nat} {Q : Option sm_V → sm_S → Prop} : sm_wp (d + 1) 172 55 [l0, some (.inl x1), some (.inl x2), l3, l4] [] (Z, Rf, K, n, z) Q = (sm_call d 162 [.inl x1, .inl (x2 + 1), .inl 1] (Z, Rf, K, n, z) (sm_cont (d + 1) 172 63 [l0, some (.inl x1), some (.inl x2), l3, l4] [] Q)) := (w_iload_n t172_55 rfl rfl).trans ((w_iload_n t172_56 rfl rfl).trans ((w_iconst t172_57 rfl).trans ((w_iadd t172_58 rfl).trans ((w_iconst t172_59 rfl).trans (w_callS t172_60 rfl rfl rfl rfl (Nat.le_of_ble_eq_true rfl) (Nat.le_of_ble_eq_true rfl) rfl)))))
set_option maxRecDepth 10000 in
theorem b172_63 {d : Nat} {l0 : Option sm_V} {l1 : Option sm_V} {l2 : Option sm_V} {l3 : Option sm_V} {l4 : Option sm_V} {s0 : Int} {Z : Nat → Nat → Int} {Rf : Nat → Nat → Option Nat} {K : Nat → Nat × Nat} {n z : Nat} {Q : Option sm_V → sm_S → Prop} : sm_wp d 172 63 [l0, l1, l2, l3, l4] [.inl s0] (Z, Rf, K, n, z) Q = (sm_wp d 172 72 [l0, l1, l2, l3, l4] [.inl s0] (Z, Rf, K, n, z) Q) := w_goto t172_63 rfl
set_option maxRecDepth 10000 in
theorem b172_66 {d : Nat} {l0 : Option sm_V} {x1 : Int} {x2 : Int} {l3 : Option sm_V} {l4 : Option sm_V} {Z : Nat → Nat → Int} {Rf : Nat → Nat → Option Nat} {K : Nat → Nat × Nat} {n z : Nat} {Q : Option sm_V → sm_S → Prop} : sm_wp (d + 1) 172 66 [l0, some (.inl x1), some (.inl x2), l3, l4] [] (Z, Rf, K, n, z) Q = (sm_call d 162 [.inl x1, .inl x2, .inl 2] (Z, Rf, K, n, z) (sm_cont (d + 1) 172 72 [l0, some (.inl x1), some (.inl x2), l3, l4] [] Q)) := (w_iload_n t172_66 rfl rfl).trans ((w_iload_n t172_67 rfl rfl).trans ((w_iconst t172_68 rfl).trans (w_callS t172_69 rfl rfl rfl rfl (Nat.le_of_ble_eq_true rfl) (Nat.le_of_ble_eq_true rfl) rfl)))
set_option maxRecDepth 10000 in
theorem b172_72 {d : Nat} {r0 : Nat} {l1 : Option sm_V} {l2 : Option sm_V} {l3 : Option sm_V} {l4 : Option sm_V} {s0 : Int} {Z : Nat → Nat → Int} {Rf : Nat → Nat → Option Nat} {K : Nat → Nat × Nat} {n z : Nat} {Q : Option sm_V → sm_S → Prop} : sm_wp d 172 72 [some (.inr (some r0)), l1, l2, l3, l4] [.inl s0] (Z, Rf, K, n, z) Q = ((K r0).1 = 11 ∧ (Rf r0 0).isSome = true ∧ sm_rd (K (((Rf r0 0).getD 0))) (wr (850 + s0)) ∧ (if wr (Z (((Rf r0 0).getD 0)) ((wr (850 + s0)).toNat)) = (-1 : Int) then sm_wp d 172 89 [some (.inr (some r0)), l1, l2, l3, some (.inl s0)] [] (Z, Rf, K, n, z) Q else sm_wp d 172 93 [some (.inr (some r0)), l1, l2, l3, some (.inl s0)] [] (Z, Rf, K, n, z) Q)) := (w_istore t172_72 rfl (Nat.le_of_ble_eq_true rfl) rfl).trans ((w_aload_n t172_74 rfl rfl).trans ((w_getR t172_75 rfl (by decide)).trans (congrArg (And _) (congrArg (And _) ((w_sipush t172_78 rfl).trans ((w_iload t172_81 rfl rfl).trans ((w_iadd t172_83 rfl).trans ((w_iald t172_84 rfl rfl).trans (congrArg (And _) ((w_iconst t172_85 rfl).trans (w_icne t172_86 rfl wl_m1 rfl rfl)))))))))))
set_option maxRecDepth 10000 in
theorem b172_89 {d : Nat} {l0 : Option sm_V} {l1 : Option sm_V} {l2 : Option sm_V} {l3 : Option sm_V} {l4 : Option sm_V} {Z : Nat → Nat → Int} {Rf : Nat → Nat → Option Nat} {K : Nat → Nat × Nat} {n z : Nat} {Q : Option sm_V → sm_S → Prop} : sm_wp d 172 89 [l0, l1, l2, l3, l4] [] (Z, Rf, K, n, z) Q = (sm_wp d 172 94 [l0, l1, l2, l3, l4] [.inl 1] (Z, Rf, K, n, z) Q) := (w_iconst t172_89 rfl).trans (w_goto t172_90 rfl)
set_option maxRecDepth 10000 in
theorem b172_93 {d : Nat} {l0 : Option sm_V} {l1 : Option sm_V} {l2 : Option sm_V} {l3 : Option sm_V} {l4 : Option sm_V} {Z : Nat → Nat → Int} {Rf : Nat → Nat → Option Nat} {K : Nat → Nat × Nat} {n z : Nat} {Q : Option sm_V → sm_S → Prop} : sm_wp d 172 93 [l0, l1, l2, l3, l4] [] (Z, Rf, K, n, z) Q = (sm_wp d 172 94 [l0, l1, l2, l3, l4] [.inl 0] (Z, Rf, K, n, z) Q) := w_iconst t172_93 rfl
set_option maxRecDepth 10000 in
theorem b172_94 {d : Nat} {l0 : Option sm_V} {l1 : Option sm_V} {l2 : Option sm_V} {l3 : Option sm_V} {l4 : Option sm_V} {s0 : Int} {Z : Nat → Nat → Int} {Rf : Nat → Nat → Option Nat} {K : Nat → Nat × Nat} {n z : Nat} {Q : Option sm_V → sm_S → Prop} : sm_wp d 172 94 [l0, l1, l2, l3, l4] [.inl s0] (Z, Rf, K, n, z) Q = ((wr s0 = 0 ∨ wr s0 = 1) ∧ Q (some (.inl s0)) (Z, Rf, K, n, z)) := w_zret t172_94 rfl
theorem t173_0 : sm_at 173 0 = some (1, .iconst 0, 0, 0, 0) := rfl
theorem t173_1 : sm_at 173 1 = some (1, .istore_n 2, 0, 0, 0) := rfl
theorem t173_2 : sm_at 173 2 = some (1, .aload_n 0, 0, 0, 0) := rfl
theorem t173_3 : sm_at 173 3 = some (3, .getfield 56, 11, 29, 0) := rfl
theorem t173_6 : sm_at 173 6 = some (1, .iload_n 2, 0, 0, 0) := rfl
theorem t173_7 : sm_at 173 7 = some (1, .iload_n 1, 0, 0, 0) := rfl
theorem t173_8 : sm_at 173 8 = some (1, .iastore, 0, 0, 0) := rfl
theorem t173_9 : sm_at 173 9 = some (3, .iinc 2 1, 0, 0, 0) := rfl
theorem t173_12 : sm_at 173 12 = some (1, .aload_n 0, 0, 0, 0) := rfl
theorem t173_13 : sm_at 173 13 = some (3, .getfield 53, 11, 28, 0) := rfl
theorem t173_16 : sm_at 173 16 = some (1, .iload_n 1, 0, 0, 0) := rfl
theorem t173_17 : sm_at 173 17 = some (1, .iload_n 1, 0, 0, 0) := rfl
theorem t173_18 : sm_at 173 18 = some (1, .iastore, 0, 0, 0) := rfl
theorem t173_19 : sm_at 173 19 = some (1, .iconst 0, 0, 0, 0) := rfl
theorem t173_20 : sm_at 173 20 = some (1, .istore_n 3, 0, 0, 0) := rfl
theorem t173_21 : sm_at 173 21 = some (1, .iload_n 3, 0, 0, 0) := rfl
theorem t173_22 : sm_at 173 22 = some (1, .iload_n 2, 0, 0, 0) := rfl
theorem t173_23 : sm_at 173 23 = some (3, .if_icmp .ge 117, 0, 0, 0) := rfl
theorem t173_26 : sm_at 173 26 = some (1, .aload_n 0, 0, 0, 0) := rfl
theorem t173_27 : sm_at 173 27 = some (3, .getfield 56, 11, 29, 0) := rfl
theorem t173_30 : sm_at 173 30 = some (1, .iload_n 3, 0, 0, 0) := rfl
theorem t173_31 : sm_at 173 31 = some (1, .iaload, 0, 0, 0) := rfl
theorem t173_32 : sm_at 173 32 = some (2, .bipush 10, 0, 0, 0) := rfl
theorem t173_34 : sm_at 173 34 = some (1, .irem, 0, 0, 0) := rfl
theorem t173_35 : sm_at 173 35 = some (2, .istore 4, 0, 0, 0) := rfl
theorem t173_37 : sm_at 173 37 = some (1, .aload_n 0, 0, 0, 0) := rfl
theorem t173_38 : sm_at 173 38 = some (3, .getfield 56, 11, 29, 0) := rfl
theorem t173_41 : sm_at 173 41 = some (1, .iload_n 3, 0, 0, 0) := rfl
theorem t173_42 : sm_at 173 42 = some (1, .iaload, 0, 0, 0) := rfl
theorem t173_43 : sm_at 173 43 = some (2, .bipush 10, 0, 0, 0) := rfl
theorem t173_45 : sm_at 173 45 = some (1, .idiv, 0, 0, 0) := rfl
theorem t173_46 : sm_at 173 46 = some (2, .istore 5, 0, 0, 0) := rfl
theorem t173_48 : sm_at 173 48 = some (1, .iconst 0, 0, 0, 0) := rfl
theorem t173_49 : sm_at 173 49 = some (2, .istore 6, 0, 0, 0) := rfl
theorem t173_51 : sm_at 173 51 = some (2, .iload 6, 0, 0, 0) := rfl
theorem t173_53 : sm_at 173 53 = some (1, .iconst 4, 0, 0, 0) := rfl
theorem t173_54 : sm_at 173 54 = some (3, .if_icmp .ge 80, 0, 0, 0) := rfl
theorem t173_57 : sm_at 173 57 = some (1, .aload_n 0, 0, 0, 0) := rfl
theorem t173_58 : sm_at 173 58 = some (2, .iload 4, 0, 0, 0) := rfl
theorem t173_60 : sm_at 173 60 = some (2, .iload 5, 0, 0, 0) := rfl
theorem t173_62 : sm_at 173 62 = some (2, .iload 6, 0, 0, 0) := rfl
theorem t173_64 : sm_at 173 64 = some (3, .invokevirtual 278, 172, 4, 0) := rfl
theorem t173_67 : sm_at 173 67 = some (3, .ifCond .ne 6, 0, 0, 0) := rfl
theorem t173_70 : sm_at 173 70 = some (3, .goto 58, 0, 0, 0) := rfl
theorem t173_73 : sm_at 173 73 = some (2, .bipush 10, 0, 0, 0) := rfl
theorem t173_75 : sm_at 173 75 = some (2, .iload 5, 0, 0, 0) := rfl
theorem t173_77 : sm_at 173 77 = some (2, .iload 6, 0, 0, 0) := rfl
theorem t173_79 : sm_at 173 79 = some (3, .invokestatic 242, 161, 1, 0) := rfl
theorem t173_82 : sm_at 173 82 = some (1, .iadd, 0, 0, 0) := rfl
theorem t173_83 : sm_at 173 83 = some (1, .imul, 0, 0, 0) := rfl
theorem t173_84 : sm_at 173 84 = some (2, .iload 4, 0, 0, 0) := rfl
theorem t173_86 : sm_at 173 86 = some (1, .iadd, 0, 0, 0) := rfl
theorem t173_87 : sm_at 173 87 = some (2, .iload 6, 0, 0, 0) := rfl
theorem t173_89 : sm_at 173 89 = some (3, .invokestatic 239, 160, 1, 0) := rfl
theorem t173_92 : sm_at 173 92 = some (1, .iadd, 0, 0, 0) := rfl
theorem t173_93 : sm_at 173 93 = some (2, .istore 7, 0, 0, 0) := rfl
theorem t173_95 : sm_at 173 95 = some (1, .aload_n 0, 0, 0, 0) := rfl
theorem t173_96 : sm_at 173 96 = some (3, .getfield 53, 11, 28, 0) := rfl
theorem t173_99 : sm_at 173 99 = some (2, .iload 7, 0, 0, 0) := rfl
theorem t173_101 : sm_at 173 101 = some (1, .iaload, 0, 0, 0) := rfl
set_option maxRecDepth 100000 in
theorem t173_102 : sm_at 173 102 = some (1, .iconst (-1), 0, 0, 0) := rfl
set_option maxRecDepth 100000 in
theorem t173_103 : sm_at 173 103 = some (3, .if_icmp .eq 6, 0, 0, 0) := rfl
set_option maxRecDepth 100000 in
theorem t173_106 : sm_at 173 106 = some (3, .goto 22, 0, 0, 0) := rfl
set_option maxRecDepth 100000 in
theorem t173_109 : sm_at 173 109 = some (1, .aload_n 0, 0, 0, 0) := rfl
set_option maxRecDepth 100000 in
theorem t173_110 : sm_at 173 110 = some (3, .getfield 53, 11, 28, 0) := rfl
set_option maxRecDepth 100000 in
theorem t173_113 : sm_at 173 113 = some (2, .iload 7, 0, 0, 0) := rfl
set_option maxRecDepth 100000 in
theorem t173_115 : sm_at 173 115 = some (1, .iload_n 1, 0, 0, 0) := rfl
set_option maxRecDepth 100000 in
theorem t173_116 : sm_at 173 116 = some (1, .iastore, 0, 0, 0) := rfl
set_option maxRecDepth 100000 in
theorem t173_117 : sm_at 173 117 = some (1, .aload_n 0, 0, 0, 0) := rfl
set_option maxRecDepth 100000 in
theorem t173_118 : sm_at 173 118 = some (3, .getfield 56, 11, 29, 0) := rfl
set_option maxRecDepth 100000 in
theorem t173_121 : sm_at 173 121 = some (1, .iload_n 2, 0, 0, 0) := rfl
set_option maxRecDepth 100000 in
theorem t173_122 : sm_at 173 122 = some (2, .iload 7, 0, 0, 0) := rfl
set_option maxRecDepth 100000 in
theorem t173_124 : sm_at 173 124 = some (1, .iastore, 0, 0, 0) := rfl
set_option maxRecDepth 100000 in
theorem t173_125 : sm_at 173 125 = some (3, .iinc 2 1, 0, 0, 0) := rfl
set_option maxRecDepth 100000 in
theorem t173_128 : sm_at 173 128 = some (3, .iinc 6 1, 0, 0, 0) := rfl
set_option maxRecDepth 100000 in
theorem t173_131 : sm_at 173 131 = some (3, .goto (-80), 0, 0, 0) := rfl
set_option maxRecDepth 100000 in
theorem t173_134 : sm_at 173 134 = some (3, .iinc 3 1, 0, 0, 0) := rfl
set_option maxRecDepth 100000 in
theorem t173_137 : sm_at 173 137 = some (3, .goto (-116), 0, 0, 0) := rfl
set_option maxRecDepth 100000 in
theorem t173_140 : sm_at 173 140 = some (1, .return_, 0, 0, 0) := rfl
set_option maxRecDepth 10000 in
theorem b173_0 {d : Nat} {r0 : Nat} {x1 : Int} {l2 : Option sm_V} {l3 : Option sm_V} {l4 : Option sm_V} {l5 : Option sm_V} {l6 : Option sm_V} {l7 : Option sm_V} {Z : Nat → Nat → Int} {Rf : Nat → Nat → Option Nat} {K : Nat → Nat × Nat} {n z : Nat} {Q : Option sm_V → sm_S → Prop} : sm_wp d 173 0 [some (.inr (some r0)), some (.inl x1), l2, l3, l4, l5, l6, l7] [] (Z, Rf, K, n, z) Q = ((K r0).1 = 11 ∧ (Rf r0 29).isSome = true ∧ sm_wt (K (((Rf r0 29).getD 0))) ((0 : Int)) ∧ (K r0).1 = 11 ∧ (Rf r0 28).isSome = true ∧ sm_wt (K (((Rf r0 28).getD 0))) (wr x1) ∧ sm_wp d 173 21 [some (.inr (some r0)), some (.inl x1), some (.inl (0 + 1)), some (.inl 0), l4, l5, l6, l7] [] (sm_u (sm_u Z (((Rf r0 29).getD 0)) 0 x1) (((Rf r0 28).getD 0)) ((wr x1).toNat) x1, Rf, K, n, z) Q) := (w_iconst t173_0 rfl).trans ((w_istore_n t173_1 rfl (Nat.le_of_ble_eq_true rfl) rfl).trans ((w_aload_n t173_2 rfl rfl).trans ((w_getR t173_3 rfl (by decide)).trans (congrArg (And _) (congrArg (And _) ((w_iload_n t173_6 rfl rfl).trans ((w_iload_n t173_7 rfl rfl).trans ((w_iast t173_8 rfl wl_0).trans (congrArg (And _) ((w_iinc t173_9 rfl rfl (Nat.le_of_ble_eq_true rfl) rfl).trans ((w_aload_n t173_12 rfl rfl).trans ((w_getR t173_13 rfl (by decide)).trans (congrArg (And _) (congrArg (And _) ((w_iload_n t173_16 rfl rfl).trans ((w_iload_n t173_17 rfl rfl).trans ((w_iast t173_18 rfl rfl).trans (congrArg (And _) ((w_iconst t173_19 rfl).trans (w_istore_n t173_20 rfl (Nat.le_of_ble_eq_true rfl) rfl))))))))))))))))))))
set_option maxRecDepth 10000 in
theorem b173_21 {d : Nat} {l0 : Option sm_V} {l1 : Option sm_V} {x2 : Int} {x3 : Int} {l4 : Option sm_V} {l5 : Option sm_V} {l6 : Option sm_V} {l7 : Option sm_V} {Z : Nat → Nat → Int} {Rf : Nat → Nat → Option Nat} {K : Nat → Nat × Nat} {n z : Nat} {Q : Option sm_V → sm_S → Prop} : sm_wp d 173 21 [l0, l1, some (.inl x2), some (.inl x3), l4, l5, l6, l7] [] (Z, Rf, K, n, z) Q = (if wr x2 ≤ wr x3 then sm_wp d 173 140 [l0, l1, some (.inl x2), some (.inl x3), l4, l5, l6, l7] [] (Z, Rf, K, n, z) Q else sm_wp d 173 26 [l0, l1, some (.inl x2), some (.inl x3), l4, l5, l6, l7] [] (Z, Rf, K, n, z) Q) := (w_iload_n t173_21 rfl rfl).trans ((w_iload_n t173_22 rfl rfl).trans (w_icge t173_23 rfl rfl rfl rfl))
set_option maxRecDepth 10000 in
theorem b173_26 {d : Nat} {r0 : Nat} {l1 : Option sm_V} {l2 : Option sm_V} {x3 : Int} {l4 : Option sm_V} {l5 : Option sm_V} {l6 : Option sm_V} {l7 : Option sm_V} {Z : Nat → Nat → Int} {Rf : Nat → Nat → Option Nat} {K : Nat → Nat × Nat} {n z : Nat} {Q : Option sm_V → sm_S → Prop} : sm_wp d 173 26 [some (.inr (some r0)), l1, l2, some (.inl x3), l4, l5, l6, l7] [] (Z, Rf, K, n, z) Q = ((K r0).1 = 11 ∧ (Rf r0 29).isSome = true ∧ sm_rd (K (((Rf r0 29).getD 0))) (wr x3) ∧ ¬ (10 : Int) = 0 ∧ (K r0).1 = 11 ∧ (Rf r0 29).isSome = true ∧ sm_rd (K (((Rf r0 29).getD 0))) (wr x3) ∧ ¬ (10 : Int) = 0 ∧ sm_wp d 173 51 [some (.inr (some r0)), l1, l2, some (.inl x3), some (.inl (sm_rem (Z (((Rf r0 29).getD 0)) ((wr x3).toNat)) 10)), some (.inl (sm_div (Z (((Rf r0 29).getD 0)) ((wr x3).toNat)) 10)), some (.inl 0), l7] [] (Z, Rf, K, n, z) Q) := (w_aload_n t173_26 rfl rfl).trans ((w_getR t173_27 rfl (by decide)).trans (congrArg (And _) (congrArg (And _) ((w_iload_n t173_30 rfl rfl).trans ((w_iald t173_31 rfl rfl).trans (congrArg (And _) ((w_bipush t173_32 rfl).trans ((w_irem t173_34 rfl wl_10).trans (congrArg (And _) ((w_istore t173_35 rfl (Nat.le_of_ble_eq_true rfl) rfl).trans ((w_aload_n t173_37 rfl rfl).trans ((w_getR t173_38 rfl (by decide)).trans (congrArg (And _) (congrArg (And _) ((w_iload_n t173_41 rfl rfl).trans ((w_iald t173_42 rfl rfl).trans (congrArg (And _) ((w_bipush t173_43 rfl).trans ((w_idiv t173_45 rfl wl_10).trans (congrArg (And _) ((w_istore t173_46 rfl (Nat.le_of_ble_eq_true rfl) rfl).trans ((w_iconst t173_48 rfl).trans (w_istore t173_49 rfl (Nat.le_of_ble_eq_true rfl) rfl)))))))))))))))))))))))
set_option maxRecDepth 10000 in
theorem b173_51 {d : Nat} {l0 : Option sm_V} {l1 : Option sm_V} {l2 : Option sm_V} {l3 : Option sm_V} {l4 : Option sm_V} {l5 : Option sm_V} {x6 : Int} {l7 : Option sm_V} {Z : Nat → Nat → Int} {Rf : Nat → Nat → Option Nat} {K : Nat → Nat × Nat} {n z : Nat} {Q : Option sm_V → sm_S → Prop} : sm_wp d 173 51 [l0, l1, l2, l3, l4, l5, some (.inl x6), l7] [] (Z, Rf, K, n, z) Q = (if (4 : Int) ≤ wr x6 then sm_wp d 173 134 [l0, l1, l2, l3, l4, l5, some (.inl x6), l7] [] (Z, Rf, K, n, z) Q else sm_wp d 173 57 [l0, l1, l2, l3, l4, l5, some (.inl x6), l7] [] (Z, Rf, K, n, z) Q) := (w_iload t173_51 rfl rfl).trans ((w_iconst t173_53 rfl).trans (w_icge t173_54 rfl wl_4 rfl rfl))
set_option maxRecDepth 10000 in
theorem b173_57 {d : Nat} {r0 : Nat} {l1 : Option sm_V} {l2 : Option sm_V} {l3 : Option sm_V} {x4 : Int} {x5 : Int} {x6 : Int} {l7 : Option sm_V} {Z : Nat → Nat → Int} {Rf : Nat → Nat → Option Nat} {K : Nat → Nat × Nat} {n z : Nat} {Q : Option sm_V → sm_S → Prop} : sm_wp (d + 1) 173 57 [some (.inr (some r0)), l1, l2, l3, some (.inl x4), some (.inl x5), some (.inl x6), l7] [] (Z, Rf, K, n, z) Q = ((K r0).1 = 11 ∧ sm_call d 172 [.inr (some r0), .inl x4, .inl x5, .inl x6] (Z, Rf, K, n, z) (sm_cont (d + 1) 173 67 [some (.inr (some r0)), l1, l2, l3, some (.inl x4), some (.inl x5), some (.inl x6), l7] [] Q)) := (w_aload_n t173_57 rfl rfl).trans ((w_iload t173_58 rfl rfl).trans ((w_iload t173_60 rfl rfl).trans ((w_iload t173_62 rfl rfl).trans (w_callV t173_64 rfl rfl rfl rfl (Nat.le_of_ble_eq_true rfl) (Nat.le_of_ble_eq_true rfl) rfl (by decide)))))
set_option maxRecDepth 10000 in
theorem b173_67 {d : Nat} {l0 : Option sm_V} {l1 : Option sm_V} {l2 : Option sm_V} {l3 : Option sm_V} {l4 : Option sm_V} {l5 : Option sm_V} {l6 : Option sm_V} {l7 : Option sm_V} {s0 : Int} {Z : Nat → Nat → Int} {Rf : Nat → Nat → Option Nat} {K : Nat → Nat × Nat} {n z : Nat} {Q : Option sm_V → sm_S → Prop} : sm_wp d 173 67 [l0, l1, l2, l3, l4, l5, l6, l7] [.inl s0] (Z, Rf, K, n, z) Q = (if wr s0 = 0 then sm_wp d 173 70 [l0, l1, l2, l3, l4, l5, l6, l7] [] (Z, Rf, K, n, z) Q else sm_wp d 173 73 [l0, l1, l2, l3, l4, l5, l6, l7] [] (Z, Rf, K, n, z) Q) := w_ifne t173_67 rfl rfl rfl
set_option maxRecDepth 10000 in
theorem b173_70 {d : Nat} {l0 : Option sm_V} {l1 : Option sm_V} {l2 : Option sm_V} {l3 : Option sm_V} {l4 : Option sm_V} {l5 : Option sm_V} {l6 : Option sm_V} {l7 : Option sm_V} {Z : Nat → Nat → Int} {Rf : Nat → Nat → Option Nat} {K : Nat → Nat × Nat} {n z : Nat} {Q : Option sm_V → sm_S → Prop} : sm_wp d 173 70 [l0, l1, l2, l3, l4, l5, l6, l7] [] (Z, Rf, K, n, z) Q = (sm_wp d 173 128 [l0, l1, l2, l3, l4, l5, l6, l7] [] (Z, Rf, K, n, z) Q) := w_goto t173_70 rfl
set_option maxRecDepth 10000 in
theorem b173_73 {d : Nat} {l0 : Option sm_V} {l1 : Option sm_V} {l2 : Option sm_V} {l3 : Option sm_V} {l4 : Option sm_V} {x5 : Int} {x6 : Int} {l7 : Option sm_V} {Z : Nat → Nat → Int} {Rf : Nat → Nat → Option Nat} {K : Nat → Nat × Nat} {n z : Nat} {Q : Option sm_V → sm_S → Prop} : sm_wp (d + 1) 173 73 [l0, l1, l2, l3, l4, some (.inl x5), some (.inl x6), l7] [] (Z, Rf, K, n, z) Q = (sm_call d 161 [.inl x6] (Z, Rf, K, n, z) (sm_cont (d + 1) 173 82 [l0, l1, l2, l3, l4, some (.inl x5), some (.inl x6), l7] [.inl x5, .inl 10] Q)) := (w_bipush t173_73 rfl).trans ((w_iload t173_75 rfl rfl).trans ((w_iload t173_77 rfl rfl).trans (w_callS t173_79 rfl rfl rfl rfl (Nat.le_of_ble_eq_true rfl) (Nat.le_of_ble_eq_true rfl) rfl)))
set_option maxRecDepth 10000 in
theorem b173_82 {d : Nat} {l0 : Option sm_V} {l1 : Option sm_V} {l2 : Option sm_V} {l3 : Option sm_V} {x4 : Int} {l5 : Option sm_V} {x6 : Int} {l7 : Option sm_V} {s0 : Int} {s1 : Int} {s2 : Int} {Z : Nat → Nat → Int} {Rf : Nat → Nat → Option Nat} {K : Nat → Nat × Nat} {n z : Nat} {Q : Option sm_V → sm_S → Prop} : sm_wp (d + 1) 173 82 [l0, l1, l2, l3, some (.inl x4), l5, some (.inl x6), l7] [.inl s2, .inl s1, .inl s0] (Z, Rf, K, n, z) Q = (sm_call d 160 [.inl x6] (Z, Rf, K, n, z) (sm_cont (d + 1) 173 92 [l0, l1, l2, l3, some (.inl x4), l5, some (.inl x6), l7] [.inl ((s0 * (s1 + s2)) + x4)] Q)) := (w_iadd t173_82 rfl).trans ((w_imul t173_83 rfl).trans ((w_iload t173_84 rfl rfl).trans ((w_iadd t173_86 rfl).trans ((w_iload t173_87 rfl rfl).trans (w_callS t173_89 rfl rfl rfl rfl (Nat.le_of_ble_eq_true rfl) (Nat.le_of_ble_eq_true rfl) rfl)))))
set_option maxRecDepth 10000 in
theorem b173_92 {d : Nat} {r0 : Nat} {l1 : Option sm_V} {l2 : Option sm_V} {l3 : Option sm_V} {l4 : Option sm_V} {l5 : Option sm_V} {l6 : Option sm_V} {l7 : Option sm_V} {s0 : Int} {s1 : Int} {Z : Nat → Nat → Int} {Rf : Nat → Nat → Option Nat} {K : Nat → Nat × Nat} {n z : Nat} {Q : Option sm_V → sm_S → Prop} : sm_wp d 173 92 [some (.inr (some r0)), l1, l2, l3, l4, l5, l6, l7] [.inl s1, .inl s0] (Z, Rf, K, n, z) Q = ((K r0).1 = 11 ∧ (Rf r0 28).isSome = true ∧ sm_rd (K (((Rf r0 28).getD 0))) (wr (s0 + s1)) ∧ (if wr (Z (((Rf r0 28).getD 0)) ((wr (s0 + s1)).toNat)) = (-1 : Int) then sm_wp d 173 109 [some (.inr (some r0)), l1, l2, l3, l4, l5, l6, some (.inl (s0 + s1))] [] (Z, Rf, K, n, z) Q else sm_wp d 173 106 [some (.inr (some r0)), l1, l2, l3, l4, l5, l6, some (.inl (s0 + s1))] [] (Z, Rf, K, n, z) Q)) := (w_iadd t173_92 rfl).trans ((w_istore t173_93 rfl (Nat.le_of_ble_eq_true rfl) rfl).trans ((w_aload_n t173_95 rfl rfl).trans ((w_getR t173_96 rfl (by decide)).trans (congrArg (And _) (congrArg (And _) ((w_iload t173_99 rfl rfl).trans ((w_iald t173_101 rfl rfl).trans (congrArg (And _) ((w_iconst t173_102 rfl).trans (w_iceq t173_103 rfl wl_m1 rfl rfl))))))))))
set_option maxRecDepth 10000 in
theorem b173_106 {d : Nat} {l0 : Option sm_V} {l1 : Option sm_V} {l2 : Option sm_V} {l3 : Option sm_V} {l4 : Option sm_V} {l5 : Option sm_V} {l6 : Option sm_V} {l7 : Option sm_V} {Z : Nat → Nat → Int} {Rf : Nat → Nat → Option Nat} {K : Nat → Nat × Nat} {n z : Nat} {Q : Option sm_V → sm_S → Prop} : sm_wp d 173 106 [l0, l1, l2, l3, l4, l5, l6, l7] [] (Z, Rf, K, n, z) Q = (sm_wp d 173 128 [l0, l1, l2, l3, l4, l5, l6, l7] [] (Z, Rf, K, n, z) Q) := w_goto t173_106 rfl
set_option maxRecDepth 10000 in
theorem b173_109 {d : Nat} {r0 : Nat} {x1 : Int} {x2 : Int} {l3 : Option sm_V} {l4 : Option sm_V} {l5 : Option sm_V} {l6 : Option sm_V} {x7 : Int} {Z : Nat → Nat → Int} {Rf : Nat → Nat → Option Nat} {K : Nat → Nat × Nat} {n z : Nat} {Q : Option sm_V → sm_S → Prop} : sm_wp d 173 109 [some (.inr (some r0)), some (.inl x1), some (.inl x2), l3, l4, l5, l6, some (.inl x7)] [] (Z, Rf, K, n, z) Q = ((K r0).1 = 11 ∧ (Rf r0 28).isSome = true ∧ sm_wt (K (((Rf r0 28).getD 0))) (wr x7) ∧ (K r0).1 = 11 ∧ (Rf r0 29).isSome = true ∧ sm_wt (K (((Rf r0 29).getD 0))) (wr x2) ∧ sm_wp d 173 128 [some (.inr (some r0)), some (.inl x1), some (.inl (x2 + 1)), l3, l4, l5, l6, some (.inl x7)] [] (sm_u (sm_u Z (((Rf r0 28).getD 0)) ((wr x7).toNat) x1) (((Rf r0 29).getD 0)) ((wr x2).toNat) x7, Rf, K, n, z) Q) := (w_aload_n t173_109 rfl rfl).trans ((w_getR t173_110 rfl (by decide)).trans (congrArg (And _) (congrArg (And _) ((w_iload t173_113 rfl rfl).trans ((w_iload_n t173_115 rfl rfl).trans ((w_iast t173_116 rfl rfl).trans (congrArg (And _) ((w_aload_n t173_117 rfl rfl).trans ((w_getR t173_118 rfl (by decide)).trans (congrArg (And _) (congrArg (And _) ((w_iload_n t173_121 rfl rfl).trans ((w_iload t173_122 rfl rfl).trans ((w_iast t173_124 rfl rfl).trans (congrArg (And _) (w_iinc t173_125 rfl rfl (Nat.le_of_ble_eq_true rfl) rfl))))))))))))))))
set_option maxRecDepth 10000 in
theorem b173_128 {d : Nat} {l0 : Option sm_V} {l1 : Option sm_V} {l2 : Option sm_V} {l3 : Option sm_V} {l4 : Option sm_V} {l5 : Option sm_V} {x6 : Int} {l7 : Option sm_V} {Z : Nat → Nat → Int} {Rf : Nat → Nat → Option Nat} {K : Nat → Nat × Nat} {n z : Nat} {Q : Option sm_V → sm_S → Prop} : sm_wp d 173 128 [l0, l1, l2, l3, l4, l5, some (.inl x6), l7] [] (Z, Rf, K, n, z) Q = (sm_wp d 173 51 [l0, l1, l2, l3, l4, l5, some (.inl (x6 + 1)), l7] [] (Z, Rf, K, n, z) Q) := (w_iinc t173_128 rfl rfl (Nat.le_of_ble_eq_true rfl) rfl).trans (w_goto t173_131 rfl)
set_option maxRecDepth 10000 in
theorem b173_134 {d : Nat} {l0 : Option sm_V} {l1 : Option sm_V} {l2 : Option sm_V} {x3 : Int} {l4 : Option sm_V} {l5 : Option sm_V} {l6 : Option sm_V} {l7 : Option sm_V} {Z : Nat → Nat → Int} {Rf : Nat → Nat → Option Nat} {K : Nat → Nat × Nat} {n z : Nat} {Q : Option sm_V → sm_S → Prop} : sm_wp d 173 134 [l0, l1, l2, some (.inl x3), l4, l5, l6, l7] [] (Z, Rf, K, n, z) Q = (sm_wp d 173 21 [l0, l1, l2, some (.inl (x3 + 1)), l4, l5, l6, l7] [] (Z, Rf, K, n, z) Q) := (w_iinc t173_134 rfl rfl (Nat.le_of_ble_eq_true rfl) rfl).trans (w_goto t173_137 rfl)
set_option maxRecDepth 10000 in
theorem b173_140 {d : Nat} {l0 : Option sm_V} {l1 : Option sm_V} {l2 : Option sm_V} {l3 : Option sm_V} {l4 : Option sm_V} {l5 : Option sm_V} {l6 : Option sm_V} {l7 : Option sm_V} {Z : Nat → Nat → Int} {Rf : Nat → Nat → Option Nat} {K : Nat → Nat × Nat} {n z : Nat} {Q : Option sm_V → sm_S → Prop} : sm_wp d 173 140 [l0, l1, l2, l3, l4, l5, l6, l7] [] (Z, Rf, K, n, z) Q = (Q none (Z, Rf, K, n, z)) := w_vret t173_140
theorem t174_0 : sm_at 174 0 = some (1, .aload_n 0, 0, 0, 0) := rfl
theorem t174_1 : sm_at 174 1 = some (1, .iconst 0, 0, 0, 0) := rfl
theorem t174_2 : sm_at 174 2 = some (3, .putfield 281, 11, 30, 0) := rfl
theorem t174_5 : sm_at 174 5 = some (1, .iconst 0, 0, 0, 0) := rfl
theorem t174_6 : sm_at 174 6 = some (1, .istore_n 1, 0, 0, 0) := rfl
theorem t174_7 : sm_at 174 7 = some (1, .iload_n 1, 0, 0, 0) := rfl
theorem t174_8 : sm_at 174 8 = some (2, .bipush 100, 0, 0, 0) := rfl
theorem t174_10 : sm_at 174 10 = some (3, .if_icmp .ge 16, 0, 0, 0) := rfl
theorem t174_13 : sm_at 174 13 = some (1, .aload_n 0, 0, 0, 0) := rfl
theorem t174_14 : sm_at 174 14 = some (3, .getfield 53, 11, 28, 0) := rfl
theorem t174_17 : sm_at 174 17 = some (1, .iload_n 1, 0, 0, 0) := rfl
theorem t174_18 : sm_at 174 18 = some (1, .iconst (-1), 0, 0, 0) := rfl
theorem t174_19 : sm_at 174 19 = some (1, .iastore, 0, 0, 0) := rfl
theorem t174_20 : sm_at 174 20 = some (3, .iinc 1 1, 0, 0, 0) := rfl
theorem t174_23 : sm_at 174 23 = some (3, .goto (-16), 0, 0, 0) := rfl
theorem t174_26 : sm_at 174 26 = some (1, .iconst 0, 0, 0, 0) := rfl
theorem t174_27 : sm_at 174 27 = some (1, .istore_n 1, 0, 0, 0) := rfl
theorem t174_28 : sm_at 174 28 = some (1, .iload_n 1, 0, 0, 0) := rfl
theorem t174_29 : sm_at 174 29 = some (2, .bipush 100, 0, 0, 0) := rfl
theorem t174_31 : sm_at 174 31 = some (3, .if_icmp .ge 45, 0, 0, 0) := rfl
theorem t174_34 : sm_at 174 34 = some (1, .aload_n 0, 0, 0, 0) := rfl
theorem t174_35 : sm_at 174 35 = some (1, .iload_n 1, 0, 0, 0) := rfl
theorem t174_36 : sm_at 174 36 = some (3, .invokevirtual 85, 122, 2, 0) := rfl
theorem t174_39 : sm_at 174 39 = some (3, .ifCond .eq 31, 0, 0, 0) := rfl
theorem t174_42 : sm_at 174 42 = some (1, .aload_n 0, 0, 0, 0) := rfl
theorem t174_43 : sm_at 174 43 = some (3, .getfield 53, 11, 28, 0) := rfl
theorem t174_46 : sm_at 174 46 = some (1, .iload_n 1, 0, 0, 0) := rfl
theorem t174_47 : sm_at 174 47 = some (1, .iaload, 0, 0, 0) := rfl
theorem t174_48 : sm_at 174 48 = some (1, .iconst (-1), 0, 0, 0) := rfl
theorem t174_49 : sm_at 174 49 = some (3, .if_icmp .eq 6, 0, 0, 0) := rfl
theorem t174_52 : sm_at 174 52 = some (3, .goto 18, 0, 0, 0) := rfl
theorem t174_55 : sm_at 174 55 = some (1, .aload_n 0, 0, 0, 0) := rfl
theorem t174_56 : sm_at 174 56 = some (1, .iload_n 1, 0, 0, 0) := rfl
theorem t174_57 : sm_at 174 57 = some (3, .invokevirtual 284, 173, 2, 0) := rfl
theorem t174_60 : sm_at 174 60 = some (1, .aload_n 0, 0, 0, 0) := rfl
theorem t174_61 : sm_at 174 61 = some (1, .dup, 0, 0, 0) := rfl
theorem t174_62 : sm_at 174 62 = some (3, .getfield 281, 11, 30, 0) := rfl
theorem t174_65 : sm_at 174 65 = some (1, .iconst 1, 0, 0, 0) := rfl
theorem t174_66 : sm_at 174 66 = some (1, .iadd, 0, 0, 0) := rfl
theorem t174_67 : sm_at 174 67 = some (3, .putfield 281, 11, 30, 0) := rfl
theorem t174_70 : sm_at 174 70 = some (3, .iinc 1 1, 0, 0, 0) := rfl
theorem t174_73 : sm_at 174 73 = some (3, .goto (-45), 0, 0, 0) := rfl
theorem t174_76 : sm_at 174 76 = some (1, .return_, 0, 0, 0) := rfl
set_option maxRecDepth 10000 in
theorem b174_0 {d : Nat} {r0 : Nat} {l1 : Option sm_V} {Z : Nat → Nat → Int} {Rf : Nat → Nat → Option Nat} {K : Nat → Nat × Nat} {n z : Nat} {Q : Option sm_V → sm_S → Prop} : sm_wp d 174 0 [some (.inr (some r0)), l1] [] (Z, Rf, K, n, z) Q = ((K r0).1 = 11 ∧ sm_wp d 174 7 [some (.inr (some r0)), some (.inl 0)] [] (sm_u Z r0 30 0, Rf, K, n, z) Q) := (w_aload_n t174_0 rfl rfl).trans ((w_iconst t174_1 rfl).trans ((w_putI t174_2 rfl (by decide)).trans (congrArg (And _) ((w_iconst t174_5 rfl).trans (w_istore_n t174_6 rfl (Nat.le_of_ble_eq_true rfl) rfl)))))
set_option maxRecDepth 10000 in
theorem b174_7 {d : Nat} {l0 : Option sm_V} {x1 : Int} {Z : Nat → Nat → Int} {Rf : Nat → Nat → Option Nat} {K : Nat → Nat × Nat} {n z : Nat} {Q : Option sm_V → sm_S → Prop} : sm_wp d 174 7 [l0, some (.inl x1)] [] (Z, Rf, K, n, z) Q = (if (100 : Int) ≤ wr x1 then sm_wp d 174 26 [l0, some (.inl x1)] [] (Z, Rf, K, n, z) Q else sm_wp d 174 13 [l0, some (.inl x1)] [] (Z, Rf, K, n, z) Q) := (w_iload_n t174_7 rfl rfl).trans ((w_bipush t174_8 rfl).trans (w_icge t174_10 rfl wl_100 rfl rfl))
set_option maxRecDepth 10000 in
theorem b174_13 {d : Nat} {r0 : Nat} {x1 : Int} {Z : Nat → Nat → Int} {Rf : Nat → Nat → Option Nat} {K : Nat → Nat × Nat} {n z : Nat} {Q : Option sm_V → sm_S → Prop} : sm_wp d 174 13 [some (.inr (some r0)), some (.inl x1)] [] (Z, Rf, K, n, z) Q = ((K r0).1 = 11 ∧ (Rf r0 28).isSome = true ∧ sm_wt (K (((Rf r0 28).getD 0))) (wr x1) ∧ sm_wp d 174 7 [some (.inr (some r0)), some (.inl (x1 + 1))] [] (sm_u Z (((Rf r0 28).getD 0)) ((wr x1).toNat) ((-1)), Rf, K, n, z) Q) := (w_aload_n t174_13 rfl rfl).trans ((w_getR t174_14 rfl (by decide)).trans (congrArg (And _) (congrArg (And _) ((w_iload_n t174_17 rfl rfl).trans ((w_iconst t174_18 rfl).trans ((w_iast t174_19 rfl rfl).trans (congrArg (And _) ((w_iinc t174_20 rfl rfl (Nat.le_of_ble_eq_true rfl) rfl).trans (w_goto t174_23 rfl)))))))))
set_option maxRecDepth 10000 in
theorem b174_26 {d : Nat} {l0 : Option sm_V} {l1 : Option sm_V} {Z : Nat → Nat → Int} {Rf : Nat → Nat → Option Nat} {K : Nat → Nat × Nat} {n z : Nat} {Q : Option sm_V → sm_S → Prop} : sm_wp d 174 26 [l0, l1] [] (Z, Rf, K, n, z) Q = (sm_wp d 174 28 [l0, some (.inl 0)] [] (Z, Rf, K, n, z) Q) := (w_iconst t174_26 rfl).trans (w_istore_n t174_27 rfl (Nat.le_of_ble_eq_true rfl) rfl)
set_option maxRecDepth 10000 in
theorem b174_28 {d : Nat} {l0 : Option sm_V} {x1 : Int} {Z : Nat → Nat → Int} {Rf : Nat → Nat → Option Nat} {K : Nat → Nat × Nat} {n z : Nat} {Q : Option sm_V → sm_S → Prop} : sm_wp d 174 28 [l0, some (.inl x1)] [] (Z, Rf, K, n, z) Q = (if (100 : Int) ≤ wr x1 then sm_wp d 174 76 [l0, some (.inl x1)] [] (Z, Rf, K, n, z) Q else sm_wp d 174 34 [l0, some (.inl x1)] [] (Z, Rf, K, n, z) Q) := (w_iload_n t174_28 rfl rfl).trans ((w_bipush t174_29 rfl).trans (w_icge t174_31 rfl wl_100 rfl rfl))
set_option maxRecDepth 10000 in
theorem b174_34 {d : Nat} {r0 : Nat} {x1 : Int} {Z : Nat → Nat → Int} {Rf : Nat → Nat → Option Nat} {K : Nat → Nat × Nat} {n z : Nat} {Q : Option sm_V → sm_S → Prop} : sm_wp (d + 1) 174 34 [some (.inr (some r0)), some (.inl x1)] [] (Z, Rf, K, n, z) Q = ((K r0).1 = 11 ∧ sm_call d 122 [.inr (some r0), .inl x1] (Z, Rf, K, n, z) (sm_cont (d + 1) 174 39 [some (.inr (some r0)), some (.inl x1)] [] Q)) := (w_aload_n t174_34 rfl rfl).trans ((w_iload_n t174_35 rfl rfl).trans (w_callV t174_36 rfl rfl rfl rfl (Nat.le_of_ble_eq_true rfl) (Nat.le_of_ble_eq_true rfl) rfl (by decide)))
set_option maxRecDepth 10000 in
theorem b174_39 {d : Nat} {l0 : Option sm_V} {l1 : Option sm_V} {s0 : Int} {Z : Nat → Nat → Int} {Rf : Nat → Nat → Option Nat} {K : Nat → Nat × Nat} {n z : Nat} {Q : Option sm_V → sm_S → Prop} : sm_wp d 174 39 [l0, l1] [.inl s0] (Z, Rf, K, n, z) Q = (if wr s0 = 0 then sm_wp d 174 70 [l0, l1] [] (Z, Rf, K, n, z) Q else sm_wp d 174 42 [l0, l1] [] (Z, Rf, K, n, z) Q) := w_ifeq t174_39 rfl rfl rfl
set_option maxRecDepth 10000 in
theorem b174_42 {d : Nat} {r0 : Nat} {x1 : Int} {Z : Nat → Nat → Int} {Rf : Nat → Nat → Option Nat} {K : Nat → Nat × Nat} {n z : Nat} {Q : Option sm_V → sm_S → Prop} : sm_wp d 174 42 [some (.inr (some r0)), some (.inl x1)] [] (Z, Rf, K, n, z) Q = ((K r0).1 = 11 ∧ (Rf r0 28).isSome = true ∧ sm_rd (K (((Rf r0 28).getD 0))) (wr x1) ∧ (if wr (Z (((Rf r0 28).getD 0)) ((wr x1).toNat)) = (-1 : Int) then sm_wp d 174 55 [some (.inr (some r0)), some (.inl x1)] [] (Z, Rf, K, n, z) Q else sm_wp d 174 52 [some (.inr (some r0)), some (.inl x1)] [] (Z, Rf, K, n, z) Q)) := (w_aload_n t174_42 rfl rfl).trans ((w_getR t174_43 rfl (by decide)).trans (congrArg (And _) (congrArg (And _) ((w_iload_n t174_46 rfl rfl).trans ((w_iald t174_47 rfl rfl).trans (congrArg (And _) ((w_iconst t174_48 rfl).trans (w_iceq t174_49 rfl wl_m1 rfl rfl))))))))
set_option maxRecDepth 10000 in
theorem b174_52 {d : Nat} {l0 : Option sm_V} {l1 : Option sm_V} {Z : Nat → Nat → Int} {Rf : Nat → Nat → Option Nat} {K : Nat → Nat × Nat} {n z : Nat} {Q : Option sm_V → sm_S → Prop} : sm_wp d 174 52 [l0, l1] [] (Z, Rf, K, n, z) Q = (sm_wp d 174 70 [l0, l1] [] (Z, Rf, K, n, z) Q) := w_goto t174_52 rfl
set_option maxRecDepth 10000 in
theorem b174_55 {d : Nat} {r0 : Nat} {x1 : Int} {Z : Nat → Nat → Int} {Rf : Nat → Nat → Option Nat} {K : Nat → Nat × Nat} {n z : Nat} {Q : Option sm_V → sm_S → Prop} : sm_wp (d + 1) 174 55 [some (.inr (some r0)), some (.inl x1)] [] (Z, Rf, K, n, z) Q = ((K r0).1 = 11 ∧ sm_call d 173 [.inr (some r0), .inl x1] (Z, Rf, K, n, z) (sm_cont (d + 1) 174 60 [some (.inr (some r0)), some (.inl x1)] [] Q)) := (w_aload_n t174_55 rfl rfl).trans ((w_iload_n t174_56 rfl rfl).trans (w_callV t174_57 rfl rfl rfl rfl (Nat.le_of_ble_eq_true rfl) (Nat.le_of_ble_eq_true rfl) rfl (by decide)))
set_option maxRecDepth 10000 in
theorem b174_60 {d : Nat} {r0 : Nat} {l1 : Option sm_V} {Z : Nat → Nat → Int} {Rf : Nat → Nat → Option Nat} {K : Nat → Nat × Nat} {n z : Nat} {Q : Option sm_V → sm_S → Prop} : sm_wp d 174 60 [some (.inr (some r0)), l1] [] (Z, Rf, K, n, z) Q = ((K r0).1 = 11 ∧ (K r0).1 = 11 ∧ sm_wp d 174 70 [some (.inr (some r0)), l1] [] (sm_u Z r0 30 ((Z r0 30) + 1), Rf, K, n, z) Q) := (w_aload_n t174_60 rfl rfl).trans ((w_dup t174_61 rfl).trans ((w_getI t174_62 rfl (by decide)).trans (congrArg (And _) ((w_iconst t174_65 rfl).trans ((w_iadd t174_66 rfl).trans ((w_putI t174_67 rfl (by decide)).trans (congrArg (And _) rfl)))))))
set_option maxRecDepth 10000 in
theorem b174_70 {d : Nat} {l0 : Option sm_V} {x1 : Int} {Z : Nat → Nat → Int} {Rf : Nat → Nat → Option Nat} {K : Nat → Nat × Nat} {n z : Nat} {Q : Option sm_V → sm_S → Prop} : sm_wp d 174 70 [l0, some (.inl x1)] [] (Z, Rf, K, n, z) Q = (sm_wp d 174 28 [l0, some (.inl (x1 + 1))] [] (Z, Rf, K, n, z) Q) := (w_iinc t174_70 rfl rfl (Nat.le_of_ble_eq_true rfl) rfl).trans (w_goto t174_73 rfl)
set_option maxRecDepth 10000 in
theorem b174_76 {d : Nat} {l0 : Option sm_V} {l1 : Option sm_V} {Z : Nat → Nat → Int} {Rf : Nat → Nat → Option Nat} {K : Nat → Nat × Nat} {n z : Nat} {Q : Option sm_V → sm_S → Prop} : sm_wp d 174 76 [l0, l1] [] (Z, Rf, K, n, z) Q = (Q none (Z, Rf, K, n, z)) := w_vret t174_76
theorem t175_0 : sm_at 175 0 = some (1, .aload_n 0, 0, 0, 0) := rfl
theorem t175_1 : sm_at 175 1 = some (3, .invokevirtual 287, 171, 1, 0) := rfl
theorem t175_4 : sm_at 175 4 = some (1, .aload_n 0, 0, 0, 0) := rfl
theorem t175_5 : sm_at 175 5 = some (3, .invokevirtual 290, 174, 1, 0) := rfl
theorem t175_8 : sm_at 175 8 = some (1, .iconst 0, 0, 0, 0) := rfl
theorem t175_9 : sm_at 175 9 = some (1, .istore_n 1, 0, 0, 0) := rfl
theorem t175_10 : sm_at 175 10 = some (1, .iload_n 1, 0, 0, 0) := rfl
theorem t175_11 : sm_at 175 11 = some (2, .bipush 100, 0, 0, 0) := rfl
theorem t175_13 : sm_at 175 13 = some (3, .if_icmp .ge 92, 0, 0, 0) := rfl
theorem t175_16 : sm_at 175 16 = some (1, .aload_n 0, 0, 0, 0) := rfl
theorem t175_17 : sm_at 175 17 = some (3, .getfield 7, 11, 0, 0) := rfl
theorem t175_20 : sm_at 175 20 = some (3, .sipush 220, 0, 0, 0) := rfl
theorem t175_23 : sm_at 175 23 = some (1, .iload_n 1, 0, 0, 0) := rfl
theorem t175_24 : sm_at 175 24 = some (1, .iadd, 0, 0, 0) := rfl
theorem t175_25 : sm_at 175 25 = some (1, .iaload, 0, 0, 0) := rfl
theorem t175_26 : sm_at 175 26 = some (3, .ifCond .ne 6, 0, 0, 0) := rfl
theorem t175_29 : sm_at 175 29 = some (3, .goto 70, 0, 0, 0) := rfl
theorem t175_32 : sm_at 175 32 = some (1, .aload_n 0, 0, 0, 0) := rfl
theorem t175_33 : sm_at 175 33 = some (3, .getfield 7, 11, 0, 0) := rfl
theorem t175_36 : sm_at 175 36 = some (3, .sipush 620, 0, 0, 0) := rfl
theorem t175_39 : sm_at 175 39 = some (1, .iload_n 1, 0, 0, 0) := rfl
theorem t175_40 : sm_at 175 40 = some (1, .iadd, 0, 0, 0) := rfl
theorem t175_41 : sm_at 175 41 = some (1, .dup2, 0, 0, 0) := rfl
theorem t175_42 : sm_at 175 42 = some (1, .iaload, 0, 0, 0) := rfl
theorem t175_43 : sm_at 175 43 = some (1, .aload_n 0, 0, 0, 0) := rfl
theorem t175_44 : sm_at 175 44 = some (3, .getfield 7, 11, 0, 0) := rfl
theorem t175_47 : sm_at 175 47 = some (3, .sipush 520, 0, 0, 0) := rfl
theorem t175_50 : sm_at 175 50 = some (1, .iload_n 1, 0, 0, 0) := rfl
theorem t175_51 : sm_at 175 51 = some (1, .iadd, 0, 0, 0) := rfl
theorem t175_52 : sm_at 175 52 = some (1, .iaload, 0, 0, 0) := rfl
theorem t175_53 : sm_at 175 53 = some (1, .iconst (-1), 0, 0, 0) := rfl
theorem t175_54 : sm_at 175 54 = some (3, .if_icmp .eq 26, 0, 0, 0) := rfl
theorem t175_57 : sm_at 175 57 = some (1, .aload_n 0, 0, 0, 0) := rfl
theorem t175_58 : sm_at 175 58 = some (3, .getfield 7, 11, 0, 0) := rfl
theorem t175_61 : sm_at 175 61 = some (3, .sipush 520, 0, 0, 0) := rfl
theorem t175_64 : sm_at 175 64 = some (1, .iload_n 1, 0, 0, 0) := rfl
theorem t175_65 : sm_at 175 65 = some (1, .iadd, 0, 0, 0) := rfl
theorem t175_66 : sm_at 175 66 = some (1, .iaload, 0, 0, 0) := rfl
theorem t175_67 : sm_at 175 67 = some (1, .aload_n 0, 0, 0, 0) := rfl
theorem t175_68 : sm_at 175 68 = some (3, .getfield 53, 11, 28, 0) := rfl
theorem t175_71 : sm_at 175 71 = some (1, .iload_n 1, 0, 0, 0) := rfl
theorem t175_72 : sm_at 175 72 = some (1, .iaload, 0, 0, 0) := rfl
theorem t175_73 : sm_at 175 73 = some (3, .if_icmp .eq 7, 0, 0, 0) := rfl
theorem t175_76 : sm_at 175 76 = some (1, .iconst 1, 0, 0, 0) := rfl
theorem t175_77 : sm_at 175 77 = some (3, .goto 4, 0, 0, 0) := rfl
theorem t175_80 : sm_at 175 80 = some (1, .iconst 0, 0, 0, 0) := rfl
theorem t175_81 : sm_at 175 81 = some (1, .iadd, 0, 0, 0) := rfl
theorem t175_82 : sm_at 175 82 = some (1, .iastore, 0, 0, 0) := rfl
theorem t175_83 : sm_at 175 83 = some (1, .aload_n 0, 0, 0, 0) := rfl
theorem t175_84 : sm_at 175 84 = some (3, .getfield 7, 11, 0, 0) := rfl
theorem t175_87 : sm_at 175 87 = some (3, .sipush 520, 0, 0, 0) := rfl
theorem t175_90 : sm_at 175 90 = some (1, .iload_n 1, 0, 0, 0) := rfl
theorem t175_91 : sm_at 175 91 = some (1, .iadd, 0, 0, 0) := rfl
theorem t175_92 : sm_at 175 92 = some (1, .aload_n 0, 0, 0, 0) := rfl
theorem t175_93 : sm_at 175 93 = some (3, .getfield 53, 11, 28, 0) := rfl
theorem t175_96 : sm_at 175 96 = some (1, .iload_n 1, 0, 0, 0) := rfl
theorem t175_97 : sm_at 175 97 = some (1, .iaload, 0, 0, 0) := rfl
theorem t175_98 : sm_at 175 98 = some (1, .iastore, 0, 0, 0) := rfl
theorem t175_99 : sm_at 175 99 = some (3, .iinc 1 1, 0, 0, 0) := rfl
theorem t175_102 : sm_at 175 102 = some (3, .goto (-92), 0, 0, 0) := rfl
set_option maxRecDepth 100000 in
theorem t175_105 : sm_at 175 105 = some (1, .aload_n 0, 0, 0, 0) := rfl
set_option maxRecDepth 100000 in
theorem t175_106 : sm_at 175 106 = some (1, .iconst 0, 0, 0, 0) := rfl
set_option maxRecDepth 100000 in
theorem t175_107 : sm_at 175 107 = some (3, .putfield 72, 11, 4, 0) := rfl
set_option maxRecDepth 100000 in
theorem t175_110 : sm_at 175 110 = some (1, .aload_n 0, 0, 0, 0) := rfl
set_option maxRecDepth 100000 in
theorem t175_111 : sm_at 175 111 = some (3, .getfield 281, 11, 30, 0) := rfl
set_option maxRecDepth 100000 in
theorem t175_114 : sm_at 175 114 = some (1, .ireturn, 0, 0, 0) := rfl
set_option maxRecDepth 10000 in
theorem b175_0 {d : Nat} {r0 : Nat} {l1 : Option sm_V} {Z : Nat → Nat → Int} {Rf : Nat → Nat → Option Nat} {K : Nat → Nat × Nat} {n z : Nat} {Q : Option sm_V → sm_S → Prop} : sm_wp (d + 1) 175 0 [some (.inr (some r0)), l1] [] (Z, Rf, K, n, z) Q = ((K r0).1 = 11 ∧ sm_call d 171 [.inr (some r0)] (Z, Rf, K, n, z) (sm_cont (d + 1) 175 4 [some (.inr (some r0)), l1] [] Q)) := (w_aload_n t175_0 rfl rfl).trans (w_callV t175_1 rfl rfl rfl rfl (Nat.le_of_ble_eq_true rfl) (Nat.le_of_ble_eq_true rfl) rfl (by decide))
set_option maxRecDepth 10000 in
theorem b175_4 {d : Nat} {r0 : Nat} {l1 : Option sm_V} {Z : Nat → Nat → Int} {Rf : Nat → Nat → Option Nat} {K : Nat → Nat × Nat} {n z : Nat} {Q : Option sm_V → sm_S → Prop} : sm_wp (d + 1) 175 4 [some (.inr (some r0)), l1] [] (Z, Rf, K, n, z) Q = ((K r0).1 = 11 ∧ sm_call d 174 [.inr (some r0)] (Z, Rf, K, n, z) (sm_cont (d + 1) 175 8 [some (.inr (some r0)), l1] [] Q)) := (w_aload_n t175_4 rfl rfl).trans (w_callV t175_5 rfl rfl rfl rfl (Nat.le_of_ble_eq_true rfl) (Nat.le_of_ble_eq_true rfl) rfl (by decide))
set_option maxRecDepth 10000 in
theorem b175_8 {d : Nat} {l0 : Option sm_V} {l1 : Option sm_V} {Z : Nat → Nat → Int} {Rf : Nat → Nat → Option Nat} {K : Nat → Nat × Nat} {n z : Nat} {Q : Option sm_V → sm_S → Prop} : sm_wp d 175 8 [l0, l1] [] (Z, Rf, K, n, z) Q = (sm_wp d 175 10 [l0, some (.inl 0)] [] (Z, Rf, K, n, z) Q) := (w_iconst t175_8 rfl).trans (w_istore_n t175_9 rfl (Nat.le_of_ble_eq_true rfl) rfl)
set_option maxRecDepth 10000 in
theorem b175_10 {d : Nat} {l0 : Option sm_V} {x1 : Int} {Z : Nat → Nat → Int} {Rf : Nat → Nat → Option Nat} {K : Nat → Nat × Nat} {n z : Nat} {Q : Option sm_V → sm_S → Prop} : sm_wp d 175 10 [l0, some (.inl x1)] [] (Z, Rf, K, n, z) Q = (if (100 : Int) ≤ wr x1 then sm_wp d 175 105 [l0, some (.inl x1)] [] (Z, Rf, K, n, z) Q else sm_wp d 175 16 [l0, some (.inl x1)] [] (Z, Rf, K, n, z) Q) := (w_iload_n t175_10 rfl rfl).trans ((w_bipush t175_11 rfl).trans (w_icge t175_13 rfl wl_100 rfl rfl))
set_option maxRecDepth 10000 in
theorem b175_16 {d : Nat} {r0 : Nat} {x1 : Int} {Z : Nat → Nat → Int} {Rf : Nat → Nat → Option Nat} {K : Nat → Nat × Nat} {n z : Nat} {Q : Option sm_V → sm_S → Prop} : sm_wp d 175 16 [some (.inr (some r0)), some (.inl x1)] [] (Z, Rf, K, n, z) Q = ((K r0).1 = 11 ∧ (Rf r0 0).isSome = true ∧ sm_rd (K (((Rf r0 0).getD 0))) (wr (220 + x1)) ∧ (if wr (Z (((Rf r0 0).getD 0)) ((wr (220 + x1)).toNat)) = 0 then sm_wp d 175 29 [some (.inr (some r0)), some (.inl x1)] [] (Z, Rf, K, n, z) Q else sm_wp d 175 32 [some (.inr (some r0)), some (.inl x1)] [] (Z, Rf, K, n, z) Q)) := (w_aload_n t175_16 rfl rfl).trans ((w_getR t175_17 rfl (by decide)).trans (congrArg (And _) (congrArg (And _) ((w_sipush t175_20 rfl).trans ((w_iload_n t175_23 rfl rfl).trans ((w_iadd t175_24 rfl).trans ((w_iald t175_25 rfl rfl).trans (congrArg (And _) (w_ifne t175_26 rfl rfl rfl)))))))))
set_option maxRecDepth 10000 in
theorem b175_29 {d : Nat} {l0 : Option sm_V} {l1 : Option sm_V} {Z : Nat → Nat → Int} {Rf : Nat → Nat → Option Nat} {K : Nat → Nat × Nat} {n z : Nat} {Q : Option sm_V → sm_S → Prop} : sm_wp d 175 29 [l0, l1] [] (Z, Rf, K, n, z) Q = (sm_wp d 175 99 [l0, l1] [] (Z, Rf, K, n, z) Q) := w_goto t175_29 rfl
set_option maxRecDepth 10000 in
theorem b175_32 {d : Nat} {r0 : Nat} {x1 : Int} {Z : Nat → Nat → Int} {Rf : Nat → Nat → Option Nat} {K : Nat → Nat × Nat} {n z : Nat} {Q : Option sm_V → sm_S → Prop} : sm_wp d 175 32 [some (.inr (some r0)), some (.inl x1)] [] (Z, Rf, K, n, z) Q = ((K r0).1 = 11 ∧ (Rf r0 0).isSome = true ∧ sm_rd (K (((Rf r0 0).getD 0))) (wr (620 + x1)) ∧ (K r0).1 = 11 ∧ (Rf r0 0).isSome = true ∧ sm_rd (K (((Rf r0 0).getD 0))) (wr (520 + x1)) ∧ (if wr (Z (((Rf r0 0).getD 0)) ((wr (520 + x1)).toNat)) = (-1 : Int) then sm_wp d 175 80 [some (.inr (some r0)), some (.inl x1)] [.inl (Z (((Rf r0 0).getD 0)) ((wr (620 + x1)).toNat)), .inl (620 + x1), .inr (some ((Rf r0 0).getD 0))] (Z, Rf, K, n, z) Q else sm_wp d 175 57 [some (.inr (some r0)), some (.inl x1)] [.inl (Z (((Rf r0 0).getD 0)) ((wr (620 + x1)).toNat)), .inl (620 + x1), .inr (some ((Rf r0 0).getD 0))] (Z, Rf, K, n, z) Q)) := (w_aload_n t175_32 rfl rfl).trans ((w_getR t175_33 rfl (by decide)).trans (congrArg (And _) (congrArg (And _) ((w_sipush t175_36 rfl).trans ((w_iload_n t175_39 rfl rfl).trans ((w_iadd t175_40 rfl).trans ((w_dup2 t175_41 rfl).trans ((w_iald t175_42 rfl rfl).trans (congrArg (And _) ((w_aload_n t175_43 rfl rfl).trans ((w_getR t175_44 rfl (by decide)).trans (congrArg (And _) (congrArg (And _) ((w_sipush t175_47 rfl).trans ((w_iload_n t175_50 rfl rfl).trans ((w_iadd t175_51 rfl).trans ((w_iald t175_52 rfl rfl).trans (congrArg (And _) ((w_iconst t175_53 rfl).trans (w_iceq t175_54 rfl wl_m1 rfl rfl))))))))))))))))))))
set_option maxRecDepth 10000 in
theorem b175_57 {d : Nat} {r0 : Nat} {x1 : Int} {qs0 : Option Nat} {s1 : Int} {s2 : Int} {Z : Nat → Nat → Int} {Rf : Nat → Nat → Option Nat} {K : Nat → Nat × Nat} {n z : Nat} {Q : Option sm_V → sm_S → Prop} : sm_wp d 175 57 [some (.inr (some r0)), some (.inl x1)] [.inl s2, .inl s1, .inr qs0] (Z, Rf, K, n, z) Q = ((K r0).1 = 11 ∧ (Rf r0 0).isSome = true ∧ sm_rd (K (((Rf r0 0).getD 0))) (wr (520 + x1)) ∧ (K r0).1 = 11 ∧ (Rf r0 28).isSome = true ∧ sm_rd (K (((Rf r0 28).getD 0))) (wr x1) ∧ (if wr (Z (((Rf r0 0).getD 0)) ((wr (520 + x1)).toNat)) = wr (Z (((Rf r0 28).getD 0)) ((wr x1).toNat)) then sm_wp d 175 80 [some (.inr (some r0)), some (.inl x1)] [.inl s2, .inl s1, .inr qs0] (Z, Rf, K, n, z) Q else sm_wp d 175 76 [some (.inr (some r0)), some (.inl x1)] [.inl s2, .inl s1, .inr qs0] (Z, Rf, K, n, z) Q)) := (w_aload_n t175_57 rfl rfl).trans ((w_getR t175_58 rfl (by decide)).trans (congrArg (And _) (congrArg (And _) ((w_sipush t175_61 rfl).trans ((w_iload_n t175_64 rfl rfl).trans ((w_iadd t175_65 rfl).trans ((w_iald t175_66 rfl rfl).trans (congrArg (And _) ((w_aload_n t175_67 rfl rfl).trans ((w_getR t175_68 rfl (by decide)).trans (congrArg (And _) (congrArg (And _) ((w_iload_n t175_71 rfl rfl).trans ((w_iald t175_72 rfl rfl).trans (congrArg (And _) (w_iceq t175_73 rfl rfl rfl rfl))))))))))))))))
set_option maxRecDepth 10000 in
theorem b175_76 {d : Nat} {l0 : Option sm_V} {l1 : Option sm_V} {qs0 : Option Nat} {s1 : Int} {s2 : Int} {Z : Nat → Nat → Int} {Rf : Nat → Nat → Option Nat} {K : Nat → Nat × Nat} {n z : Nat} {Q : Option sm_V → sm_S → Prop} : sm_wp d 175 76 [l0, l1] [.inl s2, .inl s1, .inr qs0] (Z, Rf, K, n, z) Q = (sm_wp d 175 81 [l0, l1] [.inl 1, .inl s2, .inl s1, .inr qs0] (Z, Rf, K, n, z) Q) := (w_iconst t175_76 rfl).trans (w_goto t175_77 rfl)
set_option maxRecDepth 10000 in
theorem b175_80 {d : Nat} {l0 : Option sm_V} {l1 : Option sm_V} {qs0 : Option Nat} {s1 : Int} {s2 : Int} {Z : Nat → Nat → Int} {Rf : Nat → Nat → Option Nat} {K : Nat → Nat × Nat} {n z : Nat} {Q : Option sm_V → sm_S → Prop} : sm_wp d 175 80 [l0, l1] [.inl s2, .inl s1, .inr qs0] (Z, Rf, K, n, z) Q = (sm_wp d 175 81 [l0, l1] [.inl 0, .inl s2, .inl s1, .inr qs0] (Z, Rf, K, n, z) Q) := w_iconst t175_80 rfl
set_option maxRecDepth 10000 in
theorem b175_81 {d : Nat} {r0 : Nat} {x1 : Int} {rs0 : Nat} {s1 : Int} {s2 : Int} {s3 : Int} {Z : Nat → Nat → Int} {Rf : Nat → Nat → Option Nat} {K : Nat → Nat × Nat} {n z : Nat} {Q : Option sm_V → sm_S → Prop} : sm_wp d 175 81 [some (.inr (some r0)), some (.inl x1)] [.inl s3, .inl s2, .inl s1, .inr (some rs0)] (Z, Rf, K, n, z) Q = (sm_wt (K rs0) (wr s1) ∧ (K r0).1 = 11 ∧ (Rf r0 0).isSome = true ∧ (K r0).1 = 11 ∧ (Rf r0 28).isSome = true ∧ sm_rd (K (((Rf r0 28).getD 0))) (wr x1) ∧ sm_wt (K (((Rf r0 0).getD 0))) (wr (520 + x1)) ∧ sm_wp d 175 99 [some (.inr (some r0)), some (.inl x1)] [] (sm_u (sm_u Z rs0 ((wr s1).toNat) (s2 + s3)) (((Rf r0 0).getD 0)) ((wr (520 + x1)).toNat) ((sm_u Z rs0 ((wr s1).toNat) (s2 + s3)) (((Rf r0 28).getD 0)) ((wr x1).toNat)), Rf, K, n, z) Q) := (w_iadd t175_81 rfl).trans ((w_iast t175_82 rfl rfl).trans (congrArg (And _) ((w_aload_n t175_83 rfl rfl).trans ((w_getR t175_84 rfl (by decide)).trans (congrArg (And _) (congrArg (And _) ((w_sipush t175_87 rfl).trans ((w_iload_n t175_90 rfl rfl).trans ((w_iadd t175_91 rfl).trans ((w_aload_n t175_92 rfl rfl).trans ((w_getR t175_93 rfl (by decide)).trans (congrArg (And _) (congrArg (And _) ((w_iload_n t175_96 rfl rfl).trans ((w_iald t175_97 rfl rfl).trans (congrArg (And _) ((w_iast t175_98 rfl rfl).trans (congrArg (And _) rfl))))))))))))))))))
set_option maxRecDepth 10000 in
theorem b175_99 {d : Nat} {l0 : Option sm_V} {x1 : Int} {Z : Nat → Nat → Int} {Rf : Nat → Nat → Option Nat} {K : Nat → Nat × Nat} {n z : Nat} {Q : Option sm_V → sm_S → Prop} : sm_wp d 175 99 [l0, some (.inl x1)] [] (Z, Rf, K, n, z) Q = (sm_wp d 175 10 [l0, some (.inl (x1 + 1))] [] (Z, Rf, K, n, z) Q) := (w_iinc t175_99 rfl rfl (Nat.le_of_ble_eq_true rfl) rfl).trans (w_goto t175_102 rfl)
set_option maxRecDepth 10000 in
theorem b175_105 {d : Nat} {r0 : Nat} {l1 : Option sm_V} {Z : Nat → Nat → Int} {Rf : Nat → Nat → Option Nat} {K : Nat → Nat × Nat} {n z : Nat} {Q : Option sm_V → sm_S → Prop} : sm_wp d 175 105 [some (.inr (some r0)), l1] [] (Z, Rf, K, n, z) Q = ((K r0).1 = 11 ∧ (K r0).1 = 11 ∧ Q (some (.inl ((sm_u Z r0 4 0) r0 30))) (sm_u Z r0 4 0, Rf, K, n, z)) := (w_aload_n t175_105 rfl rfl).trans ((w_iconst t175_106 rfl).trans ((w_putI t175_107 rfl (by decide)).trans (congrArg (And _) ((w_aload_n t175_110 rfl rfl).trans ((w_getI t175_111 rfl (by decide)).trans (congrArg (And _) (w_iret t175_114)))))))
theorem t176_0 : sm_at 176 0 = some (1, .aload_n 0, 0, 0, 0) := rfl
theorem t176_1 : sm_at 176 1 = some (3, .getfield 7, 11, 0, 0) := rfl
theorem t176_4 : sm_at 176 4 = some (1, .iconst 3, 0, 0, 0) := rfl
theorem t176_5 : sm_at 176 5 = some (1, .iaload, 0, 0, 0) := rfl
theorem t176_6 : sm_at 176 6 = some (3, .sipush 9999, 0, 0, 0) := rfl
theorem t176_9 : sm_at 176 9 = some (3, .if_icmp .ne 5, 0, 0, 0) := rfl
theorem t176_12 : sm_at 176 12 = some (1, .iconst (-1), 0, 0, 0) := rfl
theorem t176_13 : sm_at 176 13 = some (1, .ireturn, 0, 0, 0) := rfl
theorem t176_14 : sm_at 176 14 = some (1, .iconst 0, 0, 0, 0) := rfl
theorem t176_15 : sm_at 176 15 = some (1, .istore_n 1, 0, 0, 0) := rfl
theorem t176_16 : sm_at 176 16 = some (1, .iload_n 1, 0, 0, 0) := rfl
theorem t176_17 : sm_at 176 17 = some (2, .bipush 100, 0, 0, 0) := rfl
theorem t176_19 : sm_at 176 19 = some (3, .if_icmp .ge 50, 0, 0, 0) := rfl
theorem t176_22 : sm_at 176 22 = some (1, .aload_n 0, 0, 0, 0) := rfl
theorem t176_23 : sm_at 176 23 = some (1, .iload_n 1, 0, 0, 0) := rfl
theorem t176_24 : sm_at 176 24 = some (3, .invokevirtual 85, 122, 2, 0) := rfl
theorem t176_27 : sm_at 176 27 = some (3, .ifCond .eq 36, 0, 0, 0) := rfl
theorem t176_30 : sm_at 176 30 = some (1, .aload_n 0, 0, 0, 0) := rfl
theorem t176_31 : sm_at 176 31 = some (3, .getfield 7, 11, 0, 0) := rfl
theorem t176_34 : sm_at 176 34 = some (2, .bipush 20, 0, 0, 0) := rfl
theorem t176_36 : sm_at 176 36 = some (1, .iload_n 1, 0, 0, 0) := rfl
theorem t176_37 : sm_at 176 37 = some (1, .iadd, 0, 0, 0) := rfl
theorem t176_38 : sm_at 176 38 = some (1, .aload_n 0, 0, 0, 0) := rfl
theorem t176_39 : sm_at 176 39 = some (1, .aload_n 0, 0, 0, 0) := rfl
theorem t176_40 : sm_at 176 40 = some (3, .getfield 7, 11, 0, 0) := rfl
theorem t176_43 : sm_at 176 43 = some (2, .bipush 120, 0, 0, 0) := rfl
theorem t176_45 : sm_at 176 45 = some (1, .iload_n 1, 0, 0, 0) := rfl
theorem t176_46 : sm_at 176 46 = some (1, .iadd, 0, 0, 0) := rfl
theorem t176_47 : sm_at 176 47 = some (1, .iaload, 0, 0, 0) := rfl
theorem t176_48 : sm_at 176 48 = some (1, .iconst 1, 0, 0, 0) := rfl
theorem t176_49 : sm_at 176 49 = some (3, .if_icmp .ne 8, 0, 0, 0) := rfl
theorem t176_52 : sm_at 176 52 = some (2, .bipush 40, 0, 0, 0) := rfl
theorem t176_54 : sm_at 176 54 = some (3, .goto 5, 0, 0, 0) := rfl
theorem t176_57 : sm_at 176 57 = some (2, .bipush 10, 0, 0, 0) := rfl
theorem t176_59 : sm_at 176 59 = some (3, .invokevirtual 293, 125, 2, 0) := rfl
theorem t176_62 : sm_at 176 62 = some (1, .iastore, 0, 0, 0) := rfl
theorem t176_63 : sm_at 176 63 = some (3, .iinc 1 1, 0, 0, 0) := rfl
theorem t176_66 : sm_at 176 66 = some (3, .goto (-50), 0, 0, 0) := rfl
theorem t176_69 : sm_at 176 69 = some (1, .aload_n 0, 0, 0, 0) := rfl
theorem t176_70 : sm_at 176 70 = some (3, .invokevirtual 296, 175, 1, 0) := rfl
theorem t176_73 : sm_at 176 73 = some (1, .istore_n 1, 0, 0, 0) := rfl
theorem t176_74 : sm_at 176 74 = some (1, .aload_n 0, 0, 0, 0) := rfl
theorem t176_75 : sm_at 176 75 = some (3, .getfield 7, 11, 0, 0) := rfl
theorem t176_78 : sm_at 176 78 = some (1, .iconst 3, 0, 0, 0) := rfl
theorem t176_79 : sm_at 176 79 = some (1, .dup2, 0, 0, 0) := rfl
theorem t176_80 : sm_at 176 80 = some (1, .iaload, 0, 0, 0) := rfl
theorem t176_81 : sm_at 176 81 = some (1, .iconst 1, 0, 0, 0) := rfl
theorem t176_82 : sm_at 176 82 = some (1, .iadd, 0, 0, 0) := rfl
theorem t176_83 : sm_at 176 83 = some (1, .iastore, 0, 0, 0) := rfl
theorem t176_84 : sm_at 176 84 = some (1, .iload_n 1, 0, 0, 0) := rfl
theorem t176_85 : sm_at 176 85 = some (1, .ireturn, 0, 0, 0) := rfl
set_option maxRecDepth 10000 in
theorem b176_0 {d : Nat} {r0 : Nat} {l1 : Option sm_V} {Z : Nat → Nat → Int} {Rf : Nat → Nat → Option Nat} {K : Nat → Nat × Nat} {n z : Nat} {Q : Option sm_V → sm_S → Prop} : sm_wp d 176 0 [some (.inr (some r0)), l1] [] (Z, Rf, K, n, z) Q = ((K r0).1 = 11 ∧ (Rf r0 0).isSome = true ∧ sm_rd (K (((Rf r0 0).getD 0))) ((3 : Int)) ∧ (if wr (Z (((Rf r0 0).getD 0)) 3) = (9999 : Int) then sm_wp d 176 12 [some (.inr (some r0)), l1] [] (Z, Rf, K, n, z) Q else sm_wp d 176 14 [some (.inr (some r0)), l1] [] (Z, Rf, K, n, z) Q)) := (w_aload_n t176_0 rfl rfl).trans ((w_getR t176_1 rfl (by decide)).trans (congrArg (And _) (congrArg (And _) ((w_iconst t176_4 rfl).trans ((w_iald t176_5 rfl wl_3).trans (congrArg (And _) ((w_sipush t176_6 rfl).trans (w_icne t176_9 rfl wl_9999 rfl rfl))))))))
set_option maxRecDepth 10000 in
theorem b176_12 {d : Nat} {l0 : Option sm_V} {l1 : Option sm_V} {Z : Nat → Nat → Int} {Rf : Nat → Nat → Option Nat} {K : Nat → Nat × Nat} {n z : Nat} {Q : Option sm_V → sm_S → Prop} : sm_wp d 176 12 [l0, l1] [] (Z, Rf, K, n, z) Q = (Q (some (.inl ((-1)))) (Z, Rf, K, n, z)) := (w_iconst t176_12 rfl).trans (w_iret t176_13)
set_option maxRecDepth 10000 in
theorem b176_14 {d : Nat} {l0 : Option sm_V} {l1 : Option sm_V} {Z : Nat → Nat → Int} {Rf : Nat → Nat → Option Nat} {K : Nat → Nat × Nat} {n z : Nat} {Q : Option sm_V → sm_S → Prop} : sm_wp d 176 14 [l0, l1] [] (Z, Rf, K, n, z) Q = (sm_wp d 176 16 [l0, some (.inl 0)] [] (Z, Rf, K, n, z) Q) := (w_iconst t176_14 rfl).trans (w_istore_n t176_15 rfl (Nat.le_of_ble_eq_true rfl) rfl)
set_option maxRecDepth 10000 in
theorem b176_16 {d : Nat} {l0 : Option sm_V} {x1 : Int} {Z : Nat → Nat → Int} {Rf : Nat → Nat → Option Nat} {K : Nat → Nat × Nat} {n z : Nat} {Q : Option sm_V → sm_S → Prop} : sm_wp d 176 16 [l0, some (.inl x1)] [] (Z, Rf, K, n, z) Q = (if (100 : Int) ≤ wr x1 then sm_wp d 176 69 [l0, some (.inl x1)] [] (Z, Rf, K, n, z) Q else sm_wp d 176 22 [l0, some (.inl x1)] [] (Z, Rf, K, n, z) Q) := (w_iload_n t176_16 rfl rfl).trans ((w_bipush t176_17 rfl).trans (w_icge t176_19 rfl wl_100 rfl rfl))
set_option maxRecDepth 10000 in
theorem b176_22 {d : Nat} {r0 : Nat} {x1 : Int} {Z : Nat → Nat → Int} {Rf : Nat → Nat → Option Nat} {K : Nat → Nat × Nat} {n z : Nat} {Q : Option sm_V → sm_S → Prop} : sm_wp (d + 1) 176 22 [some (.inr (some r0)), some (.inl x1)] [] (Z, Rf, K, n, z) Q = ((K r0).1 = 11 ∧ sm_call d 122 [.inr (some r0), .inl x1] (Z, Rf, K, n, z) (sm_cont (d + 1) 176 27 [some (.inr (some r0)), some (.inl x1)] [] Q)) := (w_aload_n t176_22 rfl rfl).trans ((w_iload_n t176_23 rfl rfl).trans (w_callV t176_24 rfl rfl rfl rfl (Nat.le_of_ble_eq_true rfl) (Nat.le_of_ble_eq_true rfl) rfl (by decide)))
set_option maxRecDepth 10000 in
theorem b176_27 {d : Nat} {l0 : Option sm_V} {l1 : Option sm_V} {s0 : Int} {Z : Nat → Nat → Int} {Rf : Nat → Nat → Option Nat} {K : Nat → Nat × Nat} {n z : Nat} {Q : Option sm_V → sm_S → Prop} : sm_wp d 176 27 [l0, l1] [.inl s0] (Z, Rf, K, n, z) Q = (if wr s0 = 0 then sm_wp d 176 63 [l0, l1] [] (Z, Rf, K, n, z) Q else sm_wp d 176 30 [l0, l1] [] (Z, Rf, K, n, z) Q) := w_ifeq t176_27 rfl rfl rfl
set_option maxRecDepth 10000 in
theorem b176_30 {d : Nat} {r0 : Nat} {x1 : Int} {Z : Nat → Nat → Int} {Rf : Nat → Nat → Option Nat} {K : Nat → Nat × Nat} {n z : Nat} {Q : Option sm_V → sm_S → Prop} : sm_wp d 176 30 [some (.inr (some r0)), some (.inl x1)] [] (Z, Rf, K, n, z) Q = ((K r0).1 = 11 ∧ (Rf r0 0).isSome = true ∧ (K r0).1 = 11 ∧ (Rf r0 0).isSome = true ∧ sm_rd (K (((Rf r0 0).getD 0))) (wr (120 + x1)) ∧ (if wr (Z (((Rf r0 0).getD 0)) ((wr (120 + x1)).toNat)) = (1 : Int) then sm_wp d 176 52 [some (.inr (some r0)), some (.inl x1)] [.inr (some r0), .inl (20 + x1), .inr (some ((Rf r0 0).getD 0))] (Z, Rf, K, n, z) Q else sm_wp d 176 57 [some (.inr (some r0)), some (.inl x1)] [.inr (some r0), .inl (20 + x1), .inr (some ((Rf r0 0).getD 0))] (Z, Rf, K, n, z) Q)) := (w_aload_n t176_30 rfl rfl).trans ((w_getR t176_31 rfl (by decide)).trans (congrArg (And _) (congrArg (And _) ((w_bipush t176_34 rfl).trans ((w_iload_n t176_36 rfl rfl).trans ((w_iadd t176_37 rfl).trans ((w_aload_n t176_38 rfl rfl).trans ((w_aload_n t176_39 rfl rfl).trans ((w_getR t176_40 rfl (by decide)).trans (congrArg (And _) (congrArg (And _) ((w_bipush t176_43 rfl).trans ((w_iload_n t176_45 rfl rfl).trans ((w_iadd t176_46 rfl).trans ((w_iald t176_47 rfl rfl).trans (congrArg (And _) ((w_iconst t176_48 rfl).trans (w_icne t176_49 rfl wl_1 rfl rfl))))))))))))))))))
set_option maxRecDepth 10000 in
theorem b176_52 {d : Nat} {l0 : Option sm_V} {l1 : Option sm_V} {qs0 : Option Nat} {s1 : Int} {qs2 : Option Nat} {Z : Nat → Nat → Int} {Rf : Nat → Nat → Option Nat} {K : Nat → Nat × Nat} {n z : Nat} {Q : Option sm_V → sm_S → Prop} : sm_wp d 176 52 [l0, l1] [.inr qs2, .inl s1, .inr qs0] (Z, Rf, K, n, z) Q = (sm_wp d 176 59 [l0, l1] [.inl 40, .inr qs2, .inl s1, .inr qs0] (Z, Rf, K, n, z) Q) := (w_bipush t176_52 rfl).trans (w_goto t176_54 rfl)
set_option maxRecDepth 10000 in
theorem b176_57 {d : Nat} {l0 : Option sm_V} {l1 : Option sm_V} {qs0 : Option Nat} {s1 : Int} {qs2 : Option Nat} {Z : Nat → Nat → Int} {Rf : Nat → Nat → Option Nat} {K : Nat → Nat × Nat} {n z : Nat} {Q : Option sm_V → sm_S → Prop} : sm_wp d 176 57 [l0, l1] [.inr qs2, .inl s1, .inr qs0] (Z, Rf, K, n, z) Q = (sm_wp d 176 59 [l0, l1] [.inl 10, .inr qs2, .inl s1, .inr qs0] (Z, Rf, K, n, z) Q) := w_bipush t176_57 rfl
set_option maxRecDepth 10000 in
theorem b176_59 {d : Nat} {l0 : Option sm_V} {l1 : Option sm_V} {qs0 : Option Nat} {s1 : Int} {rs2 : Nat} {s3 : Int} {Z : Nat → Nat → Int} {Rf : Nat → Nat → Option Nat} {K : Nat → Nat × Nat} {n z : Nat} {Q : Option sm_V → sm_S → Prop} : sm_wp (d + 1) 176 59 [l0, l1] [.inl s3, .inr (some rs2), .inl s1, .inr qs0] (Z, Rf, K, n, z) Q = ((K rs2).1 = 11 ∧ sm_call d 125 [.inr (some rs2), .inl s3] (Z, Rf, K, n, z) (sm_cont (d + 1) 176 62 [l0, l1] [.inl s1, .inr qs0] Q)) := w_callV t176_59 rfl rfl rfl rfl (Nat.le_of_ble_eq_true rfl) (Nat.le_of_ble_eq_true rfl) rfl (by decide)
set_option maxRecDepth 10000 in
theorem b176_62 {d : Nat} {l0 : Option sm_V} {l1 : Option sm_V} {rs0 : Nat} {s1 : Int} {s2 : Int} {Z : Nat → Nat → Int} {Rf : Nat → Nat → Option Nat} {K : Nat → Nat × Nat} {n z : Nat} {Q : Option sm_V → sm_S → Prop} : sm_wp d 176 62 [l0, l1] [.inl s2, .inl s1, .inr (some rs0)] (Z, Rf, K, n, z) Q = (sm_wt (K rs0) (wr s1) ∧ sm_wp d 176 63 [l0, l1] [] (sm_u Z rs0 ((wr s1).toNat) s2, Rf, K, n, z) Q) := (w_iast t176_62 rfl rfl).trans (congrArg (And _) rfl)
set_option maxRecDepth 10000 in
theorem b176_63 {d : Nat} {l0 : Option sm_V} {x1 : Int} {Z : Nat → Nat → Int} {Rf : Nat → Nat → Option Nat} {K : Nat → Nat × Nat} {n z : Nat} {Q : Option sm_V → sm_S → Prop} : sm_wp d 176 63 [l0, some (.inl x1)] [] (Z, Rf, K, n, z) Q = (sm_wp d 176 16 [l0, some (.inl (x1 + 1))] [] (Z, Rf, K, n, z) Q) := (w_iinc t176_63 rfl rfl (Nat.le_of_ble_eq_true rfl) rfl).trans (w_goto t176_66 rfl)
set_option maxRecDepth 10000 in
theorem b176_69 {d : Nat} {r0 : Nat} {l1 : Option sm_V} {Z : Nat → Nat → Int} {Rf : Nat → Nat → Option Nat} {K : Nat → Nat × Nat} {n z : Nat} {Q : Option sm_V → sm_S → Prop} : sm_wp (d + 1) 176 69 [some (.inr (some r0)), l1] [] (Z, Rf, K, n, z) Q = ((K r0).1 = 11 ∧ sm_call d 175 [.inr (some r0)] (Z, Rf, K, n, z) (sm_cont (d + 1) 176 73 [some (.inr (some r0)), l1] [] Q)) := (w_aload_n t176_69 rfl rfl).trans (w_callV t176_70 rfl rfl rfl rfl (Nat.le_of_ble_eq_true rfl) (Nat.le_of_ble_eq_true rfl) rfl (by decide))
set_option maxRecDepth 10000 in
theorem b176_73 {d : Nat} {r0 : Nat} {l1 : Option sm_V} {s0 : Int} {Z : Nat → Nat → Int} {Rf : Nat → Nat → Option Nat} {K : Nat → Nat × Nat} {n z : Nat} {Q : Option sm_V → sm_S → Prop} : sm_wp d 176 73 [some (.inr (some r0)), l1] [.inl s0] (Z, Rf, K, n, z) Q = ((K r0).1 = 11 ∧ (Rf r0 0).isSome = true ∧ sm_rd (K (((Rf r0 0).getD 0))) ((3 : Int)) ∧ sm_wt (K (((Rf r0 0).getD 0))) ((3 : Int)) ∧ Q (some (.inl s0)) (sm_u Z (((Rf r0 0).getD 0)) 3 ((Z (((Rf r0 0).getD 0)) 3) + 1), Rf, K, n, z)) := (w_istore_n t176_73 rfl (Nat.le_of_ble_eq_true rfl) rfl).trans ((w_aload_n t176_74 rfl rfl).trans ((w_getR t176_75 rfl (by decide)).trans (congrArg (And _) (congrArg (And _) ((w_iconst t176_78 rfl).trans ((w_dup2 t176_79 rfl).trans ((w_iald t176_80 rfl wl_3).trans (congrArg (And _) ((w_iconst t176_81 rfl).trans ((w_iadd t176_82 rfl).trans ((w_iast t176_83 rfl wl_3).trans (congrArg (And _) ((w_iload_n t176_84 rfl rfl).trans (w_iret t176_85))))))))))))))
theorem t177_0 : sm_at 177 0 = some (1, .aload_n 0, 0, 0, 0) := rfl
theorem t177_1 : sm_at 177 1 = some (1, .iload_n 1, 0, 0, 0) := rfl
theorem t177_2 : sm_at 177 2 = some (3, .invokevirtual 85, 122, 2, 0) := rfl
theorem t177_5 : sm_at 177 5 = some (3, .ifCond .eq 13, 0, 0, 0) := rfl
theorem t177_8 : sm_at 177 8 = some (1, .iload_n 2, 0, 0, 0) := rfl
theorem t177_9 : sm_at 177 9 = some (1, .iconst 0, 0, 0, 0) := rfl
theorem t177_10 : sm_at 177 10 = some (2, .bipush 8, 0, 0, 0) := rfl
theorem t177_12 : sm_at 177 12 = some (3, .invokestatic 75, 120, 3, 0) := rfl
theorem t177_15 : sm_at 177 15 = some (3, .ifCond .ne 5, 0, 0, 0) := rfl
theorem t177_18 : sm_at 177 18 = some (1, .iconst (-1), 0, 0, 0) := rfl
theorem t177_19 : sm_at 177 19 = some (1, .ireturn, 0, 0, 0) := rfl
theorem t177_20 : sm_at 177 20 = some (1, .iload_n 2, 0, 0, 0) := rfl
theorem t177_21 : sm_at 177 21 = some (51, .tableswitch 146 0 8 #[51, 61, 74, 84, 95, 146, 146, 106, 135], 0, 0, 0) := rfl
theorem t177_72 : sm_at 177 72 = some (1, .aload_n 0, 0, 0, 0) := rfl
theorem t177_73 : sm_at 177 73 = some (3, .getfield 7, 11, 0, 0) := rfl
theorem t177_76 : sm_at 177 76 = some (2, .bipush 20, 0, 0, 0) := rfl
theorem t177_78 : sm_at 177 78 = some (1, .iload_n 1, 0, 0, 0) := rfl
theorem t177_79 : sm_at 177 79 = some (1, .iadd, 0, 0, 0) := rfl
theorem t177_80 : sm_at 177 80 = some (1, .iaload, 0, 0, 0) := rfl
theorem t177_81 : sm_at 177 81 = some (1, .ireturn, 0, 0, 0) := rfl
theorem t177_82 : sm_at 177 82 = some (1, .aload_n 0, 0, 0, 0) := rfl
theorem t177_83 : sm_at 177 83 = some (1, .iload_n 1, 0, 0, 0) := rfl
theorem t177_84 : sm_at 177 84 = some (2, .bipush 10, 0, 0, 0) := rfl
theorem t177_86 : sm_at 177 86 = some (1, .irem, 0, 0, 0) := rfl
theorem t177_87 : sm_at 177 87 = some (1, .iload_n 1, 0, 0, 0) := rfl
theorem t177_88 : sm_at 177 88 = some (2, .bipush 10, 0, 0, 0) := rfl
theorem t177_90 : sm_at 177 90 = some (1, .idiv, 0, 0, 0) := rfl
theorem t177_91 : sm_at 177 91 = some (3, .invokevirtual 245, 164, 3, 0) := rfl
theorem t177_94 : sm_at 177 94 = some (1, .ireturn, 0, 0, 0) := rfl
theorem t177_95 : sm_at 177 95 = some (1, .aload_n 0, 0, 0, 0) := rfl
theorem t177_96 : sm_at 177 96 = some (3, .getfield 7, 11, 0, 0) := rfl
theorem t177_99 : sm_at 177 99 = some (2, .bipush 120, 0, 0, 0) := rfl
theorem t177_101 : sm_at 177 101 = some (1, .iload_n 1, 0, 0, 0) := rfl
theorem t177_102 : sm_at 177 102 = some (1, .iadd, 0, 0, 0) := rfl
theorem t177_103 : sm_at 177 103 = some (1, .iaload, 0, 0, 0) := rfl
theorem t177_104 : sm_at 177 104 = some (1, .ireturn, 0, 0, 0) := rfl
theorem t177_105 : sm_at 177 105 = some (1, .aload_n 0, 0, 0, 0) := rfl
theorem t177_106 : sm_at 177 106 = some (3, .getfield 7, 11, 0, 0) := rfl
theorem t177_109 : sm_at 177 109 = some (3, .sipush 220, 0, 0, 0) := rfl
theorem t177_112 : sm_at 177 112 = some (1, .iload_n 1, 0, 0, 0) := rfl
theorem t177_113 : sm_at 177 113 = some (1, .iadd, 0, 0, 0) := rfl
theorem t177_114 : sm_at 177 114 = some (1, .iaload, 0, 0, 0) := rfl
theorem t177_115 : sm_at 177 115 = some (1, .ireturn, 0, 0, 0) := rfl
theorem t177_116 : sm_at 177 116 = some (1, .aload_n 0, 0, 0, 0) := rfl
theorem t177_117 : sm_at 177 117 = some (3, .getfield 7, 11, 0, 0) := rfl
theorem t177_120 : sm_at 177 120 = some (3, .sipush 320, 0, 0, 0) := rfl
theorem t177_123 : sm_at 177 123 = some (1, .iload_n 1, 0, 0, 0) := rfl
theorem t177_124 : sm_at 177 124 = some (1, .iadd, 0, 0, 0) := rfl
theorem t177_125 : sm_at 177 125 = some (1, .iaload, 0, 0, 0) := rfl
theorem t177_126 : sm_at 177 126 = some (1, .ireturn, 0, 0, 0) := rfl
theorem t177_127 : sm_at 177 127 = some (1, .aload_n 0, 0, 0, 0) := rfl
theorem t177_128 : sm_at 177 128 = some (3, .getfield 7, 11, 0, 0) := rfl
theorem t177_131 : sm_at 177 131 = some (3, .sipush 220, 0, 0, 0) := rfl
theorem t177_134 : sm_at 177 134 = some (1, .iload_n 1, 0, 0, 0) := rfl
theorem t177_135 : sm_at 177 135 = some (1, .iadd, 0, 0, 0) := rfl
theorem t177_136 : sm_at 177 136 = some (1, .iaload, 0, 0, 0) := rfl
theorem t177_137 : sm_at 177 137 = some (1, .iconst 1, 0, 0, 0) := rfl
theorem t177_138 : sm_at 177 138 = some (3, .if_icmp .ne 16, 0, 0, 0) := rfl
theorem t177_141 : sm_at 177 141 = some (1, .aload_n 0, 0, 0, 0) := rfl
theorem t177_142 : sm_at 177 142 = some (3, .getfield 7, 11, 0, 0) := rfl
set_option maxRecDepth 100000 in
theorem t177_145 : sm_at 177 145 = some (3, .sipush 620, 0, 0, 0) := rfl
set_option maxRecDepth 100000 in
theorem t177_148 : sm_at 177 148 = some (1, .iload_n 1, 0, 0, 0) := rfl
set_option maxRecDepth 100000 in
theorem t177_149 : sm_at 177 149 = some (1, .iadd, 0, 0, 0) := rfl
set_option maxRecDepth 100000 in
theorem t177_150 : sm_at 177 150 = some (1, .iaload, 0, 0, 0) := rfl
set_option maxRecDepth 100000 in
theorem t177_151 : sm_at 177 151 = some (3, .goto 4, 0, 0, 0) := rfl
set_option maxRecDepth 100000 in
theorem t177_154 : sm_at 177 154 = some (1, .iconst 0, 0, 0, 0) := rfl
set_option maxRecDepth 100000 in
theorem t177_155 : sm_at 177 155 = some (1, .ireturn, 0, 0, 0) := rfl
set_option maxRecDepth 100000 in
theorem t177_156 : sm_at 177 156 = some (1, .aload_n 0, 0, 0, 0) := rfl
set_option maxRecDepth 100000 in
theorem t177_157 : sm_at 177 157 = some (3, .getfield 7, 11, 0, 0) := rfl
set_option maxRecDepth 100000 in
theorem t177_160 : sm_at 177 160 = some (3, .sipush 420, 0, 0, 0) := rfl
set_option maxRecDepth 100000 in
theorem t177_163 : sm_at 177 163 = some (1, .iload_n 1, 0, 0, 0) := rfl
set_option maxRecDepth 100000 in
theorem t177_164 : sm_at 177 164 = some (1, .iadd, 0, 0, 0) := rfl
set_option maxRecDepth 100000 in
theorem t177_165 : sm_at 177 165 = some (1, .iaload, 0, 0, 0) := rfl
set_option maxRecDepth 100000 in
theorem t177_166 : sm_at 177 166 = some (1, .ireturn, 0, 0, 0) := rfl
set_option maxRecDepth 100000 in
theorem t177_167 : sm_at 177 167 = some (1, .aload_n 0, 0, 0, 0) := rfl
set_option maxRecDepth 100000 in
theorem t177_168 : sm_at 177 168 = some (3, .invokevirtual 290, 174, 1, 0) := rfl
set_option maxRecDepth 100000 in
theorem t177_171 : sm_at 177 171 = some (1, .iload_n 2, 0, 0, 0) := rfl
set_option maxRecDepth 100000 in
theorem t177_172 : sm_at 177 172 = some (1, .iconst 5, 0, 0, 0) := rfl
set_option maxRecDepth 100000 in
theorem t177_173 : sm_at 177 173 = some (3, .if_icmp .ne 10, 0, 0, 0) := rfl
set_option maxRecDepth 100000 in
theorem t177_176 : sm_at 177 176 = some (1, .aload_n 0, 0, 0, 0) := rfl
set_option maxRecDepth 100000 in
theorem t177_177 : sm_at 177 177 = some (3, .getfield 53, 11, 28, 0) := rfl
set_option maxRecDepth 100000 in
theorem t177_180 : sm_at 177 180 = some (1, .iload_n 1, 0, 0, 0) := rfl
set_option maxRecDepth 100000 in
theorem t177_181 : sm_at 177 181 = some (1, .iaload, 0, 0, 0) := rfl
set_option maxRecDepth 100000 in
theorem t177_182 : sm_at 177 182 = some (1, .ireturn, 0, 0, 0) := rfl
set_option maxRecDepth 100000 in
theorem t177_183 : sm_at 177 183 = some (1, .iconst 0, 0, 0, 0) := rfl
set_option maxRecDepth 100000 in
theorem t177_184 : sm_at 177 184 = some (1, .istore_n 3, 0, 0, 0) := rfl
set_option maxRecDepth 100000 in
theorem t177_185 : sm_at 177 185 = some (1, .iconst 0, 0, 0, 0) := rfl
set_option maxRecDepth 100000 in
theorem t177_186 : sm_at 177 186 = some (2, .istore 4, 0, 0, 0) := rfl
set_option maxRecDepth 100000 in
theorem t177_188 : sm_at 177 188 = some (2, .iload 4, 0, 0, 0) := rfl
set_option maxRecDepth 100000 in
theorem t177_190 : sm_at 177 190 = some (2, .bipush 100, 0, 0, 0) := rfl
set_option maxRecDepth 100000 in
theorem t177_192 : sm_at 177 192 = some (3, .if_icmp .ge 33, 0, 0, 0) := rfl
set_option maxRecDepth 100000 in
theorem t177_195 : sm_at 177 195 = some (1, .iload_n 3, 0, 0, 0) := rfl
set_option maxRecDepth 100000 in
theorem t177_196 : sm_at 177 196 = some (1, .aload_n 0, 0, 0, 0) := rfl
set_option maxRecDepth 100000 in
theorem t177_197 : sm_at 177 197 = some (3, .getfield 53, 11, 28, 0) := rfl
set_option maxRecDepth 100000 in
theorem t177_200 : sm_at 177 200 = some (2, .iload 4, 0, 0, 0) := rfl
set_option maxRecDepth 100000 in
theorem t177_202 : sm_at 177 202 = some (1, .iaload, 0, 0, 0) := rfl
set_option maxRecDepth 100000 in
theorem t177_203 : sm_at 177 203 = some (1, .aload_n 0, 0, 0, 0) := rfl
set_option maxRecDepth 100000 in
theorem t177_204 : sm_at 177 204 = some (3, .getfield 53, 11, 28, 0) := rfl
set_option maxRecDepth 100000 in
theorem t177_207 : sm_at 177 207 = some (1, .iload_n 1, 0, 0, 0) := rfl
set_option maxRecDepth 100000 in
theorem t177_208 : sm_at 177 208 = some (1, .iaload, 0, 0, 0) := rfl
set_option maxRecDepth 100000 in
theorem t177_209 : sm_at 177 209 = some (3, .if_icmp .ne 7, 0, 0, 0) := rfl
set_option maxRecDepth 100000 in
theorem t177_212 : sm_at 177 212 = some (1, .iconst 1, 0, 0, 0) := rfl
set_option maxRecDepth 100000 in
theorem t177_213 : sm_at 177 213 = some (3, .goto 4, 0, 0, 0) := rfl
set_option maxRecDepth 100000 in
theorem t177_216 : sm_at 177 216 = some (1, .iconst 0, 0, 0, 0) := rfl
set_option maxRecDepth 100000 in
theorem t177_217 : sm_at 177 217 = some (1, .iadd, 0, 0, 0) := rfl
set_option maxRecDepth 100000 in
theorem t177_218 : sm_at 177 218 = some (1, .istore_n 3, 0, 0, 0) := rfl
set_option maxRecDepth 100000 in
theorem t177_219 : sm_at 177 219 = some (3, .iinc 4 1, 0, 0, 0) := rfl
set_option maxRecDepth 100000 in
theorem t177_222 : sm_at 177 222 = some (3, .goto (-34), 0, 0, 0) := rfl
set_option maxRecDepth 100000 in
theorem t177_225 : sm_at 177 225 = some (1, .iload_n 3, 0, 0, 0) := rfl
set_option maxRecDepth 100000 in
theorem t177_226 : sm_at 177 226 = some (1, .ireturn, 0, 0, 0) := rfl
set_option maxRecDepth 10000 in
theorem b177_0 {d : Nat} {r0 : Nat} {x1 : Int} {l2 : Option sm_V} {l3 : Option sm_V} {l4 : Option sm_V} {Z : Nat → Nat → Int} {Rf : Nat → Nat → Option Nat} {K : Nat → Nat × Nat} {n z : Nat} {Q : Option sm_V → sm_S → Prop} : sm_wp (d + 1) 177 0 [some (.inr (some r0)), some (.inl x1), l2, l3, l4] [] (Z, Rf, K, n, z) Q = ((K r0).1 = 11 ∧ sm_call d 122 [.inr (some r0), .inl x1] (Z, Rf, K, n, z) (sm_cont (d + 1) 177 5 [some (.inr (some r0)), some (.inl x1), l2, l3, l4] [] Q)) := (w_aload_n t177_0 rfl rfl).trans ((w_iload_n t177_1 rfl rfl).trans (w_callV t177_2 rfl rfl rfl rfl (Nat.le_of_ble_eq_true rfl) (Nat.le_of_ble_eq_true rfl) rfl (by decide)))
set_option maxRecDepth 10000 in
theorem b177_5 {d : Nat} {l0 : Option sm_V} {l1 : Option sm_V} {l2 : Option sm_V} {l3 : Option sm_V} {l4 : Option sm_V} {s0 : Int} {Z : Nat → Nat → Int} {Rf : Nat → Nat → Option Nat} {K : Nat → Nat × Nat} {n z : Nat} {Q : Option sm_V → sm_S → Prop} : sm_wp d 177 5 [l0, l1, l2, l3, l4] [.inl s0] (Z, Rf, K, n, z) Q = (if wr s0 = 0 then sm_wp d 177 18 [l0, l1, l2, l3, l4] [] (Z, Rf, K, n, z) Q else sm_wp d 177 8 [l0, l1, l2, l3, l4] [] (Z, Rf, K, n, z) Q) := w_ifeq t177_5 rfl rfl rfl
set_option maxRecDepth 10000 in
theorem b177_8 {d : Nat} {l0 : Option sm_V} {l1 : Option sm_V} {x2 : Int} {l3 : Option sm_V} {l4 : Option sm_V} {Z : Nat → Nat → Int} {Rf : Nat → Nat → Option Nat} {K : Nat → Nat × Nat} {n z : Nat} {Q : Option sm_V → sm_S → Prop} : sm_wp (d + 1) 177 8 [l0, l1, some (.inl x2), l3, l4] [] (Z, Rf, K, n, z) Q = (sm_call d 120 [.inl x2, .inl 0, .inl 8] (Z, Rf, K, n, z) (sm_cont (d + 1) 177 15 [l0, l1, some (.inl x2), l3, l4] [] Q)) := (w_iload_n t177_8 rfl rfl).trans ((w_iconst t177_9 rfl).trans ((w_bipush t177_10 rfl).trans (w_callS t177_12 rfl rfl rfl rfl (Nat.le_of_ble_eq_true rfl) (Nat.le_of_ble_eq_true rfl) rfl)))
set_option maxRecDepth 10000 in
theorem b177_15 {d : Nat} {l0 : Option sm_V} {l1 : Option sm_V} {l2 : Option sm_V} {l3 : Option sm_V} {l4 : Option sm_V} {s0 : Int} {Z : Nat → Nat → Int} {Rf : Nat → Nat → Option Nat} {K : Nat → Nat × Nat} {n z : Nat} {Q : Option sm_V → sm_S → Prop} : sm_wp d 177 15 [l0, l1, l2, l3, l4] [.inl s0] (Z, Rf, K, n, z) Q = (if wr s0 = 0 then sm_wp d 177 18 [l0, l1, l2, l3, l4] [] (Z, Rf, K, n, z) Q else sm_wp d 177 20 [l0, l1, l2, l3, l4] [] (Z, Rf, K, n, z) Q) := w_ifne t177_15 rfl rfl rfl
set_option maxRecDepth 10000 in
theorem b177_18 {d : Nat} {l0 : Option sm_V} {l1 : Option sm_V} {l2 : Option sm_V} {l3 : Option sm_V} {l4 : Option sm_V} {Z : Nat → Nat → Int} {Rf : Nat → Nat → Option Nat} {K : Nat → Nat × Nat} {n z : Nat} {Q : Option sm_V → sm_S → Prop} : sm_wp d 177 18 [l0, l1, l2, l3, l4] [] (Z, Rf, K, n, z) Q = (Q (some (.inl ((-1)))) (Z, Rf, K, n, z)) := (w_iconst t177_18 rfl).trans (w_iret t177_19)
set_option maxRecDepth 10000 in
theorem b177_20 {d : Nat} {l0 : Option sm_V} {l1 : Option sm_V} {x2 : Int} {l3 : Option sm_V} {l4 : Option sm_V} {Z : Nat → Nat → Int} {Rf : Nat → Nat → Option Nat} {K : Nat → Nat × Nat} {n z : Nat} {Q : Option sm_V → sm_S → Prop} : sm_wp d 177 20 [l0, l1, some (.inl x2), l3, l4] [] (Z, Rf, K, n, z) Q = (sm_wp d 177 (sm_sel (wr x2) 167 [(0, 72), (1, 82), (2, 95), (3, 105), (4, 116), (5, 167), (6, 167), (7, 127), (8, 156)]) [l0, l1, some (.inl x2), l3, l4] [] (Z, Rf, K, n, z) Q) := (w_iload_n t177_20 rfl rfl).trans (w_tsw t177_21 rfl rfl rfl (by decide))
set_option maxRecDepth 10000 in
theorem b177_72 {d : Nat} {r0 : Nat} {x1 : Int} {l2 : Option sm_V} {l3 : Option sm_V} {l4 : Option sm_V} {Z : Nat → Nat → Int} {Rf : Nat → Nat → Option Nat} {K : Nat → Nat × Nat} {n z : Nat} {Q : Option sm_V → sm_S → Prop} : sm_wp d 177 72 [some (.inr (some r0)), some (.inl x1), l2, l3, l4] [] (Z, Rf, K, n, z) Q = ((K r0).1 = 11 ∧ (Rf r0 0).isSome = true ∧ sm_rd (K (((Rf r0 0).getD 0))) (wr (20 + x1)) ∧ Q (some (.inl (Z (((Rf r0 0).getD 0)) ((wr (20 + x1)).toNat)))) (Z, Rf, K, n, z)) := (w_aload_n t177_72 rfl rfl).trans ((w_getR t177_73 rfl (by decide)).trans (congrArg (And _) (congrArg (And _) ((w_bipush t177_76 rfl).trans ((w_iload_n t177_78 rfl rfl).trans ((w_iadd t177_79 rfl).trans ((w_iald t177_80 rfl rfl).trans (congrArg (And _) (w_iret t177_81)))))))))
set_option maxRecDepth 10000 in
theorem b177_82 {d : Nat} {r0 : Nat} {x1 : Int} {l2 : Option sm_V} {l3 : Option sm_V} {l4 : Option sm_V} {Z : Nat → Nat → Int} {Rf : Nat → Nat → Option Nat} {K : Nat → Nat × Nat} {n z : Nat} {Q : Option sm_V → sm_S → Prop} : sm_wp (d + 1) 177 82 [some (.inr (some r0)), some (.inl x1), l2, l3, l4] [] (Z, Rf, K, n, z) Q = (¬ (10 : Int) = 0 ∧ ¬ (10 : Int) = 0 ∧ (K r0).1 = 11 ∧ sm_call d 164 [.inr (some r0), .inl (sm_rem x1 10), .inl (sm_div x1 10)] (Z, Rf, K, n, z) (sm_cont (d + 1) 177 94 [some (.inr (some r0)), some (.inl x1), l2, l3, l4] [] Q)) := (w_aload_n t177_82 rfl rfl).trans ((w_iload_n t177_83 rfl rfl).trans ((w_bipush t177_84 rfl).trans ((w_irem t177_86 rfl wl_10).trans (congrArg (And _) ((w_iload_n t177_87 rfl rfl).trans ((w_bipush t177_88 rfl).trans ((w_idiv t177_90 rfl wl_10).trans (congrArg (And _) (w_callV t177_91 rfl rfl rfl rfl (Nat.le_of_ble_eq_true rfl) (Nat.le_of_ble_eq_true rfl) rfl (by decide))))))))))
set_option maxRecDepth 10000 in
theorem b177_94 {d : Nat} {l0 : Option sm_V} {l1 : Option sm_V} {l2 : Option sm_V} {l3 : Option sm_V} {l4 : Option sm_V} {s0 : Int} {Z : Nat → Nat → Int} {Rf : Nat → Nat → Option Nat} {K : Nat → Nat × Nat} {n z : Nat} {Q : Option sm_V → sm_S → Prop} : sm_wp d 177 94 [l0, l1, l2, l3, l4] [.inl s0] (Z, Rf, K, n, z) Q = (Q (some (.inl s0)) (Z, Rf, K, n, z)) := w_iret t177_94
set_option maxRecDepth 10000 in
theorem b177_95 {d : Nat} {r0 : Nat} {x1 : Int} {l2 : Option sm_V} {l3 : Option sm_V} {l4 : Option sm_V} {Z : Nat → Nat → Int} {Rf : Nat → Nat → Option Nat} {K : Nat → Nat × Nat} {n z : Nat} {Q : Option sm_V → sm_S → Prop} : sm_wp d 177 95 [some (.inr (some r0)), some (.inl x1), l2, l3, l4] [] (Z, Rf, K, n, z) Q = ((K r0).1 = 11 ∧ (Rf r0 0).isSome = true ∧ sm_rd (K (((Rf r0 0).getD 0))) (wr (120 + x1)) ∧ Q (some (.inl (Z (((Rf r0 0).getD 0)) ((wr (120 + x1)).toNat)))) (Z, Rf, K, n, z)) := (w_aload_n t177_95 rfl rfl).trans ((w_getR t177_96 rfl (by decide)).trans (congrArg (And _) (congrArg (And _) ((w_bipush t177_99 rfl).trans ((w_iload_n t177_101 rfl rfl).trans ((w_iadd t177_102 rfl).trans ((w_iald t177_103 rfl rfl).trans (congrArg (And _) (w_iret t177_104)))))))))
set_option maxRecDepth 10000 in
theorem b177_105 {d : Nat} {r0 : Nat} {x1 : Int} {l2 : Option sm_V} {l3 : Option sm_V} {l4 : Option sm_V} {Z : Nat → Nat → Int} {Rf : Nat → Nat → Option Nat} {K : Nat → Nat × Nat} {n z : Nat} {Q : Option sm_V → sm_S → Prop} : sm_wp d 177 105 [some (.inr (some r0)), some (.inl x1), l2, l3, l4] [] (Z, Rf, K, n, z) Q = ((K r0).1 = 11 ∧ (Rf r0 0).isSome = true ∧ sm_rd (K (((Rf r0 0).getD 0))) (wr (220 + x1)) ∧ Q (some (.inl (Z (((Rf r0 0).getD 0)) ((wr (220 + x1)).toNat)))) (Z, Rf, K, n, z)) := (w_aload_n t177_105 rfl rfl).trans ((w_getR t177_106 rfl (by decide)).trans (congrArg (And _) (congrArg (And _) ((w_sipush t177_109 rfl).trans ((w_iload_n t177_112 rfl rfl).trans ((w_iadd t177_113 rfl).trans ((w_iald t177_114 rfl rfl).trans (congrArg (And _) (w_iret t177_115)))))))))
set_option maxRecDepth 10000 in
theorem b177_116 {d : Nat} {r0 : Nat} {x1 : Int} {l2 : Option sm_V} {l3 : Option sm_V} {l4 : Option sm_V} {Z : Nat → Nat → Int} {Rf : Nat → Nat → Option Nat} {K : Nat → Nat × Nat} {n z : Nat} {Q : Option sm_V → sm_S → Prop} : sm_wp d 177 116 [some (.inr (some r0)), some (.inl x1), l2, l3, l4] [] (Z, Rf, K, n, z) Q = ((K r0).1 = 11 ∧ (Rf r0 0).isSome = true ∧ sm_rd (K (((Rf r0 0).getD 0))) (wr (320 + x1)) ∧ Q (some (.inl (Z (((Rf r0 0).getD 0)) ((wr (320 + x1)).toNat)))) (Z, Rf, K, n, z)) := (w_aload_n t177_116 rfl rfl).trans ((w_getR t177_117 rfl (by decide)).trans (congrArg (And _) (congrArg (And _) ((w_sipush t177_120 rfl).trans ((w_iload_n t177_123 rfl rfl).trans ((w_iadd t177_124 rfl).trans ((w_iald t177_125 rfl rfl).trans (congrArg (And _) (w_iret t177_126)))))))))
set_option maxRecDepth 10000 in
theorem b177_127 {d : Nat} {r0 : Nat} {x1 : Int} {l2 : Option sm_V} {l3 : Option sm_V} {l4 : Option sm_V} {Z : Nat → Nat → Int} {Rf : Nat → Nat → Option Nat} {K : Nat → Nat × Nat} {n z : Nat} {Q : Option sm_V → sm_S → Prop} : sm_wp d 177 127 [some (.inr (some r0)), some (.inl x1), l2, l3, l4] [] (Z, Rf, K, n, z) Q = ((K r0).1 = 11 ∧ (Rf r0 0).isSome = true ∧ sm_rd (K (((Rf r0 0).getD 0))) (wr (220 + x1)) ∧ (if wr (Z (((Rf r0 0).getD 0)) ((wr (220 + x1)).toNat)) = (1 : Int) then sm_wp d 177 141 [some (.inr (some r0)), some (.inl x1), l2, l3, l4] [] (Z, Rf, K, n, z) Q else sm_wp d 177 154 [some (.inr (some r0)), some (.inl x1), l2, l3, l4] [] (Z, Rf, K, n, z) Q)) := (w_aload_n t177_127 rfl rfl).trans ((w_getR t177_128 rfl (by decide)).trans (congrArg (And _) (congrArg (And _) ((w_sipush t177_131 rfl).trans ((w_iload_n t177_134 rfl rfl).trans ((w_iadd t177_135 rfl).trans ((w_iald t177_136 rfl rfl).trans (congrArg (And _) ((w_iconst t177_137 rfl).trans (w_icne t177_138 rfl wl_1 rfl rfl))))))))))
set_option maxRecDepth 10000 in
theorem b177_141 {d : Nat} {r0 : Nat} {x1 : Int} {l2 : Option sm_V} {l3 : Option sm_V} {l4 : Option sm_V} {Z : Nat → Nat → Int} {Rf : Nat → Nat → Option Nat} {K : Nat → Nat × Nat} {n z : Nat} {Q : Option sm_V → sm_S → Prop} : sm_wp d 177 141 [some (.inr (some r0)), some (.inl x1), l2, l3, l4] [] (Z, Rf, K, n, z) Q = ((K r0).1 = 11 ∧ (Rf r0 0).isSome = true ∧ sm_rd (K (((Rf r0 0).getD 0))) (wr (620 + x1)) ∧ sm_wp d 177 155 [some (.inr (some r0)), some (.inl x1), l2, l3, l4] [.inl (Z (((Rf r0 0).getD 0)) ((wr (620 + x1)).toNat))] (Z, Rf, K, n, z) Q) := (w_aload_n t177_141 rfl rfl).trans ((w_getR t177_142 rfl (by decide)).trans (congrArg (And _) (congrArg (And _) ((w_sipush t177_145 rfl).trans ((w_iload_n t177_148 rfl rfl).trans ((w_iadd t177_149 rfl).trans ((w_iald t177_150 rfl rfl).trans (congrArg (And _) (w_goto t177_151 rfl)))))))))
set_option maxRecDepth 10000 in
theorem b177_154 {d : Nat} {l0 : Option sm_V} {l1 : Option sm_V} {l2 : Option sm_V} {l3 : Option sm_V} {l4 : Option sm_V} {Z : Nat → Nat → Int} {Rf : Nat → Nat → Option Nat} {K : Nat → Nat × Nat} {n z : Nat} {Q : Option sm_V → sm_S → Prop} : sm_wp d 177 154 [l0, l1, l2, l3, l4] [] (Z, Rf, K, n, z) Q = (sm_wp d 177 155 [l0, l1, l2, l3, l4] [.inl 0] (Z, Rf, K, n, z) Q) := w_iconst t177_154 rfl
set_option maxRecDepth 10000 in
theorem b177_155 {d : Nat} {l0 : Option sm_V} {l1 : Option sm_V} {l2 : Option sm_V} {l3 : Option sm_V} {l4 : Option sm_V} {s0 : Int} {Z : Nat → Nat → Int} {Rf : Nat → Nat → Option Nat} {K : Nat → Nat × Nat} {n z : Nat} {Q : Option sm_V → sm_S → Prop} : sm_wp d 177 155 [l0, l1, l2, l3, l4] [.inl s0] (Z, Rf, K, n, z) Q = (Q (some (.inl s0)) (Z, Rf, K, n, z)) := w_iret t177_155
set_option maxRecDepth 10000 in
theorem b177_156 {d : Nat} {r0 : Nat} {x1 : Int} {l2 : Option sm_V} {l3 : Option sm_V} {l4 : Option sm_V} {Z : Nat → Nat → Int} {Rf : Nat → Nat → Option Nat} {K : Nat → Nat × Nat} {n z : Nat} {Q : Option sm_V → sm_S → Prop} : sm_wp d 177 156 [some (.inr (some r0)), some (.inl x1), l2, l3, l4] [] (Z, Rf, K, n, z) Q = ((K r0).1 = 11 ∧ (Rf r0 0).isSome = true ∧ sm_rd (K (((Rf r0 0).getD 0))) (wr (420 + x1)) ∧ Q (some (.inl (Z (((Rf r0 0).getD 0)) ((wr (420 + x1)).toNat)))) (Z, Rf, K, n, z)) := (w_aload_n t177_156 rfl rfl).trans ((w_getR t177_157 rfl (by decide)).trans (congrArg (And _) (congrArg (And _) ((w_sipush t177_160 rfl).trans ((w_iload_n t177_163 rfl rfl).trans ((w_iadd t177_164 rfl).trans ((w_iald t177_165 rfl rfl).trans (congrArg (And _) (w_iret t177_166)))))))))
set_option maxRecDepth 10000 in
theorem b177_167 {d : Nat} {r0 : Nat} {l1 : Option sm_V} {l2 : Option sm_V} {l3 : Option sm_V} {l4 : Option sm_V} {Z : Nat → Nat → Int} {Rf : Nat → Nat → Option Nat} {K : Nat → Nat × Nat} {n z : Nat} {Q : Option sm_V → sm_S → Prop} : sm_wp (d + 1) 177 167 [some (.inr (some r0)), l1, l2, l3, l4] [] (Z, Rf, K, n, z) Q = ((K r0).1 = 11 ∧ sm_call d 174 [.inr (some r0)] (Z, Rf, K, n, z) (sm_cont (d + 1) 177 171 [some (.inr (some r0)), l1, l2, l3, l4] [] Q)) := (w_aload_n t177_167 rfl rfl).trans (w_callV t177_168 rfl rfl rfl rfl (Nat.le_of_ble_eq_true rfl) (Nat.le_of_ble_eq_true rfl) rfl (by decide))
set_option maxRecDepth 10000 in
theorem b177_171 {d : Nat} {l0 : Option sm_V} {l1 : Option sm_V} {x2 : Int} {l3 : Option sm_V} {l4 : Option sm_V} {Z : Nat → Nat → Int} {Rf : Nat → Nat → Option Nat} {K : Nat → Nat × Nat} {n z : Nat} {Q : Option sm_V → sm_S → Prop} : sm_wp d 177 171 [l0, l1, some (.inl x2), l3, l4] [] (Z, Rf, K, n, z) Q = (if wr x2 = (5 : Int) then sm_wp d 177 176 [l0, l1, some (.inl x2), l3, l4] [] (Z, Rf, K, n, z) Q else sm_wp d 177 183 [l0, l1, some (.inl x2), l3, l4] [] (Z, Rf, K, n, z) Q) := (w_iload_n t177_171 rfl rfl).trans ((w_iconst t177_172 rfl).trans (w_icne t177_173 rfl wl_5 rfl rfl))
set_option maxRecDepth 10000 in
theorem b177_176 {d : Nat} {r0 : Nat} {x1 : Int} {l2 : Option sm_V} {l3 : Option sm_V} {l4 : Option sm_V} {Z : Nat → Nat → Int} {Rf : Nat → Nat → Option Nat} {K : Nat → Nat × Nat} {n z : Nat} {Q : Option sm_V → sm_S → Prop} : sm_wp d 177 176 [some (.inr (some r0)), some (.inl x1), l2, l3, l4] [] (Z, Rf, K, n, z) Q = ((K r0).1 = 11 ∧ (Rf r0 28).isSome = true ∧ sm_rd (K (((Rf r0 28).getD 0))) (wr x1) ∧ Q (some (.inl (Z (((Rf r0 28).getD 0)) ((wr x1).toNat)))) (Z, Rf, K, n, z)) := (w_aload_n t177_176 rfl rfl).trans ((w_getR t177_177 rfl (by decide)).trans (congrArg (And _) (congrArg (And _) ((w_iload_n t177_180 rfl rfl).trans ((w_iald t177_181 rfl rfl).trans (congrArg (And _) (w_iret t177_182)))))))
set_option maxRecDepth 10000 in
theorem b177_183 {d : Nat} {l0 : Option sm_V} {l1 : Option sm_V} {l2 : Option sm_V} {l3 : Option sm_V} {l4 : Option sm_V} {Z : Nat → Nat → Int} {Rf : Nat → Nat → Option Nat} {K : Nat → Nat × Nat} {n z : Nat} {Q : Option sm_V → sm_S → Prop} : sm_wp d 177 183 [l0, l1, l2, l3, l4] [] (Z, Rf, K, n, z) Q = (sm_wp d 177 188 [l0, l1, l2, some (.inl 0), some (.inl 0)] [] (Z, Rf, K, n, z) Q) := (w_iconst t177_183 rfl).trans ((w_istore_n t177_184 rfl (Nat.le_of_ble_eq_true rfl) rfl).trans ((w_iconst t177_185 rfl).trans (w_istore t177_186 rfl (Nat.le_of_ble_eq_true rfl) rfl)))
set_option maxRecDepth 10000 in
theorem b177_188 {d : Nat} {l0 : Option sm_V} {l1 : Option sm_V} {l2 : Option sm_V} {l3 : Option sm_V} {x4 : Int} {Z : Nat → Nat → Int} {Rf : Nat → Nat → Option Nat} {K : Nat → Nat × Nat} {n z : Nat} {Q : Option sm_V → sm_S → Prop} : sm_wp d 177 188 [l0, l1, l2, l3, some (.inl x4)] [] (Z, Rf, K, n, z) Q = (if (100 : Int) ≤ wr x4 then sm_wp d 177 225 [l0, l1, l2, l3, some (.inl x4)] [] (Z, Rf, K, n, z) Q else sm_wp d 177 195 [l0, l1, l2, l3, some (.inl x4)] [] (Z, Rf, K, n, z) Q) := (w_iload t177_188 rfl rfl).trans ((w_bipush t177_190 rfl).trans (w_icge t177_192 rfl wl_100 rfl rfl))
set_option maxRecDepth 10000 in
theorem b177_195 {d : Nat} {r0 : Nat} {x1 : Int} {l2 : Option sm_V} {x3 : Int} {x4 : Int} {Z : Nat → Nat → Int} {Rf : Nat → Nat → Option Nat} {K : Nat → Nat × Nat} {n z : Nat} {Q : Option sm_V → sm_S → Prop} : sm_wp d 177 195 [some (.inr (some r0)), some (.inl x1), l2, some (.inl x3), some (.inl x4)] [] (Z, Rf, K, n, z) Q = ((K r0).1 = 11 ∧ (Rf r0 28).isSome = true ∧ sm_rd (K (((Rf r0 28).getD 0))) (wr x4) ∧ (K r0).1 = 11 ∧ (Rf r0 28).isSome = true ∧ sm_rd (K (((Rf r0 28).getD 0))) (wr x1) ∧ (if wr (Z (((Rf r0 28).getD 0)) ((wr x4).toNat)) = wr (Z (((Rf r0 28).getD 0)) ((wr x1).toNat)) then sm_wp d 177 212 [some (.inr (some r0)), some (.inl x1), l2, some (.inl x3), some (.inl x4)] [.inl x3] (Z, Rf, K, n, z) Q else sm_wp d 177 216 [some (.inr (some r0)), some (.inl x1), l2, some (.inl x3), some (.inl x4)] [.inl x3] (Z, Rf, K, n, z) Q)) := (w_iload_n t177_195 rfl rfl).trans ((w_aload_n t177_196 rfl rfl).trans ((w_getR t177_197 rfl (by decide)).trans (congrArg (And _) (congrArg (And _) ((w_iload t177_200 rfl rfl).trans ((w_iald t177_202 rfl rfl).trans (congrArg (And _) ((w_aload_n t177_203 rfl rfl).trans ((w_getR t177_204 rfl (by decide)).trans (congrArg (And _) (congrArg (And _) ((w_iload_n t177_207 rfl rfl).trans ((w_iald t177_208 rfl rfl).trans (congrArg (And _) (w_icne t177_209 rfl rfl rfl rfl)))))))))))))))
set_option maxRecDepth 10000 in
theorem b177_212 {d : Nat} {l0 : Option sm_V} {l1 : Option sm_V} {l2 : Option sm_V} {l3 : Option sm_V} {l4 : Option sm_V} {s0 : Int} {Z : Nat → Nat → Int} {Rf : Nat → Nat → Option Nat} {K : Nat → Nat × Nat} {n z : Nat} {Q : Option sm_V → sm_S → Prop} : sm_wp d 177 212 [l0, l1, l2, l3, l4] [.inl s0] (Z, Rf, K, n, z) Q = (sm_wp d 177 217 [l0, l1, l2, l3, l4] [.inl 1, .inl s0] (Z, Rf, K, n, z) Q) := (w_iconst t177_212 rfl).trans (w_goto t177_213 rfl)
set_option maxRecDepth 10000 in
theorem b177_216 {d : Nat} {l0 : Option sm_V} {l1 : Option sm_V} {l2 : Option sm_V} {l3 : Option sm_V} {l4 : Option sm_V} {s0 : Int} {Z : Nat → Nat → Int} {Rf : Nat → Nat → Option Nat} {K : Nat → Nat × Nat} {n z : Nat} {Q : Option sm_V → sm_S → Prop} : sm_wp d 177 216 [l0, l1, l2, l3, l4] [.inl s0] (Z, Rf, K, n, z) Q = (sm_wp d 177 217 [l0, l1, l2, l3, l4] [.inl 0, .inl s0] (Z, Rf, K, n, z) Q) := w_iconst t177_216 rfl
set_option maxRecDepth 10000 in
theorem b177_217 {d : Nat} {l0 : Option sm_V} {l1 : Option sm_V} {l2 : Option sm_V} {l3 : Option sm_V} {x4 : Int} {s0 : Int} {s1 : Int} {Z : Nat → Nat → Int} {Rf : Nat → Nat → Option Nat} {K : Nat → Nat × Nat} {n z : Nat} {Q : Option sm_V → sm_S → Prop} : sm_wp d 177 217 [l0, l1, l2, l3, some (.inl x4)] [.inl s1, .inl s0] (Z, Rf, K, n, z) Q = (sm_wp d 177 188 [l0, l1, l2, some (.inl (s0 + s1)), some (.inl (x4 + 1))] [] (Z, Rf, K, n, z) Q) := (w_iadd t177_217 rfl).trans ((w_istore_n t177_218 rfl (Nat.le_of_ble_eq_true rfl) rfl).trans ((w_iinc t177_219 rfl rfl (Nat.le_of_ble_eq_true rfl) rfl).trans (w_goto t177_222 rfl)))
set_option maxRecDepth 10000 in
theorem b177_225 {d : Nat} {l0 : Option sm_V} {l1 : Option sm_V} {l2 : Option sm_V} {x3 : Int} {l4 : Option sm_V} {Z : Nat → Nat → Int} {Rf : Nat → Nat → Option Nat} {K : Nat → Nat × Nat} {n z : Nat} {Q : Option sm_V → sm_S → Prop} : sm_wp d 177 225 [l0, l1, l2, some (.inl x3), l4] [] (Z, Rf, K, n, z) Q = (Q (some (.inl x3)) (Z, Rf, K, n, z)) := (w_iload_n t177_225 rfl rfl).trans (w_iret t177_226)
theorem t178_0 : sm_at 178 0 = some (1, .aload_n 0, 0, 0, 0) := rfl
theorem t178_1 : sm_at 178 1 = some (1, .iload_n 1, 0, 0, 0) := rfl
theorem t178_2 : sm_at 178 2 = some (1, .iload_n 2, 0, 0, 0) := rfl
theorem t178_3 : sm_at 178 3 = some (3, .invokevirtual 93, 123, 3, 0) := rfl
theorem t178_6 : sm_at 178 6 = some (3, .ifCond .eq 41, 0, 0, 0) := rfl
theorem t178_9 : sm_at 178 9 = some (1, .iload_n 3, 0, 0, 0) := rfl
theorem t178_10 : sm_at 178 10 = some (1, .iconst 0, 0, 0, 0) := rfl
theorem t178_11 : sm_at 178 11 = some (1, .iconst 3, 0, 0, 0) := rfl
theorem t178_12 : sm_at 178 12 = some (3, .invokestatic 75, 120, 3, 0) := rfl
theorem t178_15 : sm_at 178 15 = some (3, .ifCond .eq 32, 0, 0, 0) := rfl
theorem t178_18 : sm_at 178 18 = some (1, .aload_n 0, 0, 0, 0) := rfl
theorem t178_19 : sm_at 178 19 = some (1, .iload_n 1, 0, 0, 0) := rfl
theorem t178_20 : sm_at 178 20 = some (1, .iload_n 3, 0, 0, 0) := rfl
theorem t178_21 : sm_at 178 21 = some (3, .invokestatic 239, 160, 1, 0) := rfl
theorem t178_24 : sm_at 178 24 = some (1, .iadd, 0, 0, 0) := rfl
theorem t178_25 : sm_at 178 25 = some (1, .iload_n 2, 0, 0, 0) := rfl
theorem t178_26 : sm_at 178 26 = some (1, .iload_n 3, 0, 0, 0) := rfl
theorem t178_27 : sm_at 178 27 = some (3, .invokestatic 242, 161, 1, 0) := rfl
theorem t178_30 : sm_at 178 30 = some (1, .iadd, 0, 0, 0) := rfl
theorem t178_31 : sm_at 178 31 = some (3, .invokevirtual 93, 123, 3, 0) := rfl
theorem t178_34 : sm_at 178 34 = some (3, .ifCond .eq 13, 0, 0, 0) := rfl
theorem t178_37 : sm_at 178 37 = some (2, .iload 4, 0, 0, 0) := rfl
theorem t178_39 : sm_at 178 39 = some (1, .iconst 0, 0, 0, 0) := rfl
theorem t178_40 : sm_at 178 40 = some (1, .iconst 1, 0, 0, 0) := rfl
theorem t178_41 : sm_at 178 41 = some (3, .invokestatic 75, 120, 3, 0) := rfl
theorem t178_44 : sm_at 178 44 = some (3, .ifCond .ne 6, 0, 0, 0) := rfl
theorem t178_47 : sm_at 178 47 = some (2, .bipush (-2), 0, 0, 0) := rfl
theorem t178_49 : sm_at 178 49 = some (1, .ireturn, 0, 0, 0) := rfl
theorem t178_50 : sm_at 178 50 = some (1, .aload_n 0, 0, 0, 0) := rfl
theorem t178_51 : sm_at 178 51 = some (3, .getfield 7, 11, 0, 0) := rfl
theorem t178_54 : sm_at 178 54 = some (2, .iload 4, 0, 0, 0) := rfl
theorem t178_56 : sm_at 178 56 = some (3, .ifCond .ne 9, 0, 0, 0) := rfl
theorem t178_59 : sm_at 178 59 = some (3, .sipush 850, 0, 0, 0) := rfl
theorem t178_62 : sm_at 178 62 = some (3, .goto 6, 0, 0, 0) := rfl
theorem t178_65 : sm_at 178 65 = some (3, .sipush 1092, 0, 0, 0) := rfl
theorem t178_68 : sm_at 178 68 = some (1, .iload_n 1, 0, 0, 0) := rfl
theorem t178_69 : sm_at 178 69 = some (1, .iload_n 2, 0, 0, 0) := rfl
theorem t178_70 : sm_at 178 70 = some (1, .iload_n 3, 0, 0, 0) := rfl
theorem t178_71 : sm_at 178 71 = some (3, .invokestatic 248, 162, 3, 0) := rfl
theorem t178_74 : sm_at 178 74 = some (1, .iadd, 0, 0, 0) := rfl
theorem t178_75 : sm_at 178 75 = some (1, .iaload, 0, 0, 0) := rfl
theorem t178_76 : sm_at 178 76 = some (1, .ireturn, 0, 0, 0) := rfl
set_option maxRecDepth 10000 in
theorem b178_0 {d : Nat} {r0 : Nat} {x1 : Int} {x2 : Int} {l3 : Option sm_V} {l4 : Option sm_V} {Z : Nat → Nat → Int} {Rf : Nat → Nat → Option Nat} {K : Nat → Nat × Nat} {n z : Nat} {Q : Option sm_V → sm_S → Prop} : sm_wp (d + 1) 178 0 [some (.inr (some r0)), some (.inl x1), some (.inl x2), l3, l4] [] (Z, Rf, K, n, z) Q = ((K r0).1 = 11 ∧ sm_call d 123 [.inr (some r0), .inl x1, .inl x2] (Z, Rf, K, n, z) (sm_cont (d + 1) 178 6 [some (.inr (some r0)), some (.inl x1), some (.inl x2), l3, l4] [] Q)) := (w_aload_n t178_0 rfl rfl).trans ((w_iload_n t178_1 rfl rfl).trans ((w_iload_n t178_2 rfl rfl).trans (w_callV t178_3 rfl rfl rfl rfl (Nat.le_of_ble_eq_true rfl) (Nat.le_of_ble_eq_true rfl) rfl (by decide))))
set_option maxRecDepth 10000 in
theorem b178_6 {d : Nat} {l0 : Option sm_V} {l1 : Option sm_V} {l2 : Option sm_V} {l3 : Option sm_V} {l4 : Option sm_V} {s0 : Int} {Z : Nat → Nat → Int} {Rf : Nat → Nat → Option Nat} {K : Nat → Nat × Nat} {n z : Nat} {Q : Option sm_V → sm_S → Prop} : sm_wp d 178 6 [l0, l1, l2, l3, l4] [.inl s0] (Z, Rf, K, n, z) Q = (if wr s0 = 0 then sm_wp d 178 47 [l0, l1, l2, l3, l4] [] (Z, Rf, K, n, z) Q else sm_wp d 178 9 [l0, l1, l2, l3, l4] [] (Z, Rf, K, n, z) Q) := w_ifeq t178_6 rfl rfl rfl
set_option maxRecDepth 10000 in
theorem b178_9 {d : Nat} {l0 : Option sm_V} {l1 : Option sm_V} {l2 : Option sm_V} {x3 : Int} {l4 : Option sm_V} {Z : Nat → Nat → Int} {Rf : Nat → Nat → Option Nat} {K : Nat → Nat × Nat} {n z : Nat} {Q : Option sm_V → sm_S → Prop} : sm_wp (d + 1) 178 9 [l0, l1, l2, some (.inl x3), l4] [] (Z, Rf, K, n, z) Q = (sm_call d 120 [.inl x3, .inl 0, .inl 3] (Z, Rf, K, n, z) (sm_cont (d + 1) 178 15 [l0, l1, l2, some (.inl x3), l4] [] Q)) := (w_iload_n t178_9 rfl rfl).trans ((w_iconst t178_10 rfl).trans ((w_iconst t178_11 rfl).trans (w_callS t178_12 rfl rfl rfl rfl (Nat.le_of_ble_eq_true rfl) (Nat.le_of_ble_eq_true rfl) rfl)))
set_option maxRecDepth 10000 in
theorem b178_15 {d : Nat} {l0 : Option sm_V} {l1 : Option sm_V} {l2 : Option sm_V} {l3 : Option sm_V} {l4 : Option sm_V} {s0 : Int} {Z : Nat → Nat → Int} {Rf : Nat → Nat → Option Nat} {K : Nat → Nat × Nat} {n z : Nat} {Q : Option sm_V → sm_S → Prop} : sm_wp d 178 15 [l0, l1, l2, l3, l4] [.inl s0] (Z, Rf, K, n, z) Q = (if wr s0 = 0 then sm_wp d 178 47 [l0, l1, l2, l3, l4] [] (Z, Rf, K, n, z) Q else sm_wp d 178 18 [l0, l1, l2, l3, l4] [] (Z, Rf, K, n, z) Q) := w_ifeq t178_15 rfl rfl rfl
set_option maxRecDepth 10000 in
theorem b178_18 {d : Nat} {q0 : Option Nat} {x1 : Int} {l2 : Option sm_V} {x3 : Int} {l4 : Option sm_V} {Z : Nat → Nat → Int} {Rf : Nat → Nat → Option Nat} {K : Nat → Nat × Nat} {n z : Nat} {Q : Option sm_V → sm_S → Prop} : sm_wp (d + 1) 178 18 [some (.inr q0), some (.inl x1), l2, some (.inl x3), l4] [] (Z, Rf, K, n, z) Q = (sm_call d 160 [.inl x3] (Z, Rf, K, n, z) (sm_cont (d + 1) 178 24 [some (.inr q0), some (.inl x1), l2, some (.inl x3), l4] [.inl x1, .inr q0] Q)) := (w_aload_n t178_18 rfl rfl).trans ((w_iload_n t178_19 rfl rfl).trans ((w_iload_n t178_20 rfl rfl).trans (w_callS t178_21 rfl rfl rfl rfl (Nat.le_of_ble_eq_true rfl) (Nat.le_of_ble_eq_true rfl) rfl)))
set_option maxRecDepth 10000 in
theorem b178_24 {d : Nat} {l0 : Option sm_V} {l1 : Option sm_V} {x2 : Int} {x3 : Int} {l4 : Option sm_V} {qs0 : Option Nat} {s1 : Int} {s2 : Int} {Z : Nat → Nat → Int} {Rf : Nat → Nat → Option Nat} {K : Nat → Nat × Nat} {n z : Nat} {Q : Option sm_V → sm_S → Prop} : sm_wp (d + 1) 178 24 [l0, l1, some (.inl x2), some (.inl x3), l4] [.inl s2, .inl s1, .inr qs0] (Z, Rf, K, n, z) Q = (sm_call d 161 [.inl x3] (Z, Rf, K, n, z) (sm_cont (d + 1) 178 30 [l0, l1, some (.inl x2), some (.inl x3), l4] [.inl x2, .inl (s1 + s2), .inr qs0] Q)) := (w_iadd t178_24 rfl).trans ((w_iload_n t178_25 rfl rfl).trans ((w_iload_n t178_26 rfl rfl).trans (w_callS t178_27 rfl rfl rfl rfl (Nat.le_of_ble_eq_true rfl) (Nat.le_of_ble_eq_true rfl) rfl)))
set_option maxRecDepth 10000 in
theorem b178_30 {d : Nat} {l0 : Option sm_V} {l1 : Option sm_V} {l2 : Option sm_V} {l3 : Option sm_V} {l4 : Option sm_V} {rs0 : Nat} {s1 : Int} {s2 : Int} {s3 : Int} {Z : Nat → Nat → Int} {Rf : Nat → Nat → Option Nat} {K : Nat → Nat × Nat} {n z : Nat} {Q : Option sm_V → sm_S → Prop} : sm_wp (d + 1) 178 30 [l0, l1, l2, l3, l4] [.inl s3, .inl s2, .inl s1, .inr (some rs0)] (Z, Rf, K, n, z) Q = ((K rs0).1 = 11 ∧ sm_call d 123 [.inr (some rs0), .inl s1, .inl (s2 + s3)] (Z, Rf, K, n, z) (sm_cont (d + 1) 178 34 [l0, l1, l2, l3, l4] [] Q)) := (w_iadd t178_30 rfl).trans (w_callV t178_31 rfl rfl rfl rfl (Nat.le_of_ble_eq_true rfl) (Nat.le_of_ble_eq_true rfl) rfl (by decide))
set_option maxRecDepth 10000 in
theorem b178_34 {d : Nat} {l0 : Option sm_V} {l1 : Option sm_V} {l2 : Option sm_V} {l3 : Option sm_V} {l4 : Option sm_V} {s0 : Int} {Z : Nat → Nat → Int} {Rf : Nat → Nat → Option Nat} {K : Nat → Nat × Nat} {n z : Nat} {Q : Option sm_V → sm_S → Prop} : sm_wp d 178 34 [l0, l1, l2, l3, l4] [.inl s0] (Z, Rf, K, n, z) Q = (if wr s0 = 0 then sm_wp d 178 47 [l0, l1, l2, l3, l4] [] (Z, Rf, K, n, z) Q else sm_wp d 178 37 [l0, l1, l2, l3, l4] [] (Z, Rf, K, n, z) Q) := w_ifeq t178_34 rfl rfl rfl
set_option maxRecDepth 10000 in
theorem b178_37 {d : Nat} {l0 : Option sm_V} {l1 : Option sm_V} {l2 : Option sm_V} {l3 : Option sm_V} {x4 : Int} {Z : Nat → Nat → Int} {Rf : Nat → Nat → Option Nat} {K : Nat → Nat × Nat} {n z : Nat} {Q : Option sm_V → sm_S → Prop} : sm_wp (d + 1) 178 37 [l0, l1, l2, l3, some (.inl x4)] [] (Z, Rf, K, n, z) Q = (sm_call d 120 [.inl x4, .inl 0, .inl 1] (Z, Rf, K, n, z) (sm_cont (d + 1) 178 44 [l0, l1, l2, l3, some (.inl x4)] [] Q)) := (w_iload t178_37 rfl rfl).trans ((w_iconst t178_39 rfl).trans ((w_iconst t178_40 rfl).trans (w_callS t178_41 rfl rfl rfl rfl (Nat.le_of_ble_eq_true rfl) (Nat.le_of_ble_eq_true rfl) rfl)))
set_option maxRecDepth 10000 in
theorem b178_44 {d : Nat} {l0 : Option sm_V} {l1 : Option sm_V} {l2 : Option sm_V} {l3 : Option sm_V} {l4 : Option sm_V} {s0 : Int} {Z : Nat → Nat → Int} {Rf : Nat → Nat → Option Nat} {K : Nat → Nat × Nat} {n z : Nat} {Q : Option sm_V → sm_S → Prop} : sm_wp d 178 44 [l0, l1, l2, l3, l4] [.inl s0] (Z, Rf, K, n, z) Q = (if wr s0 = 0 then sm_wp d 178 47 [l0, l1, l2, l3, l4] [] (Z, Rf, K, n, z) Q else sm_wp d 178 50 [l0, l1, l2, l3, l4] [] (Z, Rf, K, n, z) Q) := w_ifne t178_44 rfl rfl rfl
set_option maxRecDepth 10000 in
theorem b178_47 {d : Nat} {l0 : Option sm_V} {l1 : Option sm_V} {l2 : Option sm_V} {l3 : Option sm_V} {l4 : Option sm_V} {Z : Nat → Nat → Int} {Rf : Nat → Nat → Option Nat} {K : Nat → Nat × Nat} {n z : Nat} {Q : Option sm_V → sm_S → Prop} : sm_wp d 178 47 [l0, l1, l2, l3, l4] [] (Z, Rf, K, n, z) Q = (Q (some (.inl ((-2)))) (Z, Rf, K, n, z)) := (w_bipush t178_47 rfl).trans (w_iret t178_49)
set_option maxRecDepth 10000 in
theorem b178_50 {d : Nat} {r0 : Nat} {l1 : Option sm_V} {l2 : Option sm_V} {l3 : Option sm_V} {x4 : Int} {Z : Nat → Nat → Int} {Rf : Nat → Nat → Option Nat} {K : Nat → Nat × Nat} {n z : Nat} {Q : Option sm_V → sm_S → Prop} : sm_wp d 178 50 [some (.inr (some r0)), l1, l2, l3, some (.inl x4)] [] (Z, Rf, K, n, z) Q = ((K r0).1 = 11 ∧ (Rf r0 0).isSome = true ∧ (if wr x4 = 0 then sm_wp d 178 59 [some (.inr (some r0)), l1, l2, l3, some (.inl x4)] [.inr (some ((Rf r0 0).getD 0))] (Z, Rf, K, n, z) Q else sm_wp d 178 65 [some (.inr (some r0)), l1, l2, l3, some (.inl x4)] [.inr (some ((Rf r0 0).getD 0))] (Z, Rf, K, n, z) Q)) := (w_aload_n t178_50 rfl rfl).trans ((w_getR t178_51 rfl (by decide)).trans (congrArg (And _) (congrArg (And _) ((w_iload t178_54 rfl rfl).trans (w_ifne t178_56 rfl rfl rfl)))))
set_option maxRecDepth 10000 in
theorem b178_59 {d : Nat} {l0 : Option sm_V} {l1 : Option sm_V} {l2 : Option sm_V} {l3 : Option sm_V} {l4 : Option sm_V} {qs0 : Option Nat} {Z : Nat → Nat → Int} {Rf : Nat → Nat → Option Nat} {K : Nat → Nat × Nat} {n z : Nat} {Q : Option sm_V → sm_S → Prop} : sm_wp d 178 59 [l0, l1, l2, l3, l4] [.inr qs0] (Z, Rf, K, n, z) Q = (sm_wp d 178 68 [l0, l1, l2, l3, l4] [.inl 850, .inr qs0] (Z, Rf, K, n, z) Q) := (w_sipush t178_59 rfl).trans (w_goto t178_62 rfl)
set_option maxRecDepth 10000 in
theorem b178_65 {d : Nat} {l0 : Option sm_V} {l1 : Option sm_V} {l2 : Option sm_V} {l3 : Option sm_V} {l4 : Option sm_V} {qs0 : Option Nat} {Z : Nat → Nat → Int} {Rf : Nat → Nat → Option Nat} {K : Nat → Nat × Nat} {n z : Nat} {Q : Option sm_V → sm_S → Prop} : sm_wp d 178 65 [l0, l1, l2, l3, l4] [.inr qs0] (Z, Rf, K, n, z) Q = (sm_wp d 178 68 [l0, l1, l2, l3, l4] [.inl 1092, .inr qs0] (Z, Rf, K, n, z) Q) := w_sipush t178_65 rfl
set_option maxRecDepth 10000 in
theorem b178_68 {d : Nat} {l0 : Option sm_V} {x1 : Int} {x2 : Int} {x3 : Int} {l4 : Option sm_V} {qs0 : Option Nat} {s1 : Int} {Z : Nat → Nat → Int} {Rf : Nat → Nat → Option Nat} {K : Nat → Nat × Nat} {n z : Nat} {Q : Option sm_V → sm_S → Prop} : sm_wp (d + 1) 178 68 [l0, some (.inl x1), some (.inl x2), some (.inl x3), l4] [.inl s1, .inr qs0] (Z, Rf, K, n, z) Q = (sm_call d 162 [.inl x1, .inl x2, .inl x3] (Z, Rf, K, n, z) (sm_cont (d + 1) 178 74 [l0, some (.inl x1), some (.inl x2), some (.inl x3), l4] [.inl s1, .inr qs0] Q)) := (w_iload_n t178_68 rfl rfl).trans ((w_iload_n t178_69 rfl rfl).trans ((w_iload_n t178_70 rfl rfl).trans (w_callS t178_71 rfl rfl rfl rfl (Nat.le_of_ble_eq_true rfl) (Nat.le_of_ble_eq_true rfl) rfl)))
set_option maxRecDepth 10000 in
theorem b178_74 {d : Nat} {l0 : Option sm_V} {l1 : Option sm_V} {l2 : Option sm_V} {l3 : Option sm_V} {l4 : Option sm_V} {rs0 : Nat} {s1 : Int} {s2 : Int} {Z : Nat → Nat → Int} {Rf : Nat → Nat → Option Nat} {K : Nat → Nat × Nat} {n z : Nat} {Q : Option sm_V → sm_S → Prop} : sm_wp d 178 74 [l0, l1, l2, l3, l4] [.inl s2, .inl s1, .inr (some rs0)] (Z, Rf, K, n, z) Q = (sm_rd (K rs0) (wr (s1 + s2)) ∧ Q (some (.inl (Z rs0 ((wr (s1 + s2)).toNat)))) (Z, Rf, K, n, z)) := (w_iadd t178_74 rfl).trans ((w_iald t178_75 rfl rfl).trans (congrArg (And _) (w_iret t178_76)))
theorem t179_0 : sm_at 179 0 = some (1, .iload_n 0, 0, 0, 0) := rfl
theorem t179_1 : sm_at 179 1 = some (1, .iload_n 1, 0, 0, 0) := rfl
theorem t179_2 : sm_at 179 2 = some (3, .if_icmp .ge 9, 0, 0, 0) := rfl
theorem t179_5 : sm_at 179 5 = some (1, .iload_n 1, 0, 0, 0) := rfl
theorem t179_6 : sm_at 179 6 = some (1, .iload_n 0, 0, 0, 0) := rfl
theorem t179_7 : sm_at 179 7 = some (1, .isub, 0, 0, 0) := rfl
theorem t179_8 : sm_at 179 8 = some (3, .goto 6, 0, 0, 0) := rfl
theorem t179_11 : sm_at 179 11 = some (1, .iload_n 0, 0, 0, 0) := rfl
theorem t179_12 : sm_at 179 12 = some (1, .iload_n 1, 0, 0, 0) := rfl
theorem t179_13 : sm_at 179 13 = some (1, .isub, 0, 0, 0) := rfl
theorem t179_14 : sm_at 179 14 = some (1, .ireturn, 0, 0, 0) := rfl
set_option maxRecDepth 10000 in
theorem b179_0 {d : Nat} {x0 : Int} {x1 : Int} {Z : Nat → Nat → Int} {Rf : Nat → Nat → Option Nat} {K : Nat → Nat × Nat} {n z : Nat} {Q : Option sm_V → sm_S → Prop} : sm_wp d 179 0 [some (.inl x0), some (.inl x1)] [] (Z, Rf, K, n, z) Q = (if wr x1 ≤ wr x0 then sm_wp d 179 11 [some (.inl x0), some (.inl x1)] [] (Z, Rf, K, n, z) Q else sm_wp d 179 5 [some (.inl x0), some (.inl x1)] [] (Z, Rf, K, n, z) Q) := (w_iload_n t179_0 rfl rfl).trans ((w_iload_n t179_1 rfl rfl).trans (w_icge t179_2 rfl rfl rfl rfl))
set_option maxRecDepth 10000 in
theorem b179_5 {d : Nat} {x0 : Int} {x1 : Int} {Z : Nat → Nat → Int} {Rf : Nat → Nat → Option Nat} {K : Nat → Nat × Nat} {n z : Nat} {Q : Option sm_V → sm_S → Prop} : sm_wp d 179 5 [some (.inl x0), some (.inl x1)] [] (Z, Rf, K, n, z) Q = (sm_wp d 179 14 [some (.inl x0), some (.inl x1)] [.inl (x1 - x0)] (Z, Rf, K, n, z) Q) := (w_iload_n t179_5 rfl rfl).trans ((w_iload_n t179_6 rfl rfl).trans ((w_isub t179_7 rfl).trans (w_goto t179_8 rfl)))
set_option maxRecDepth 10000 in
theorem b179_11 {d : Nat} {x0 : Int} {x1 : Int} {Z : Nat → Nat → Int} {Rf : Nat → Nat → Option Nat} {K : Nat → Nat × Nat} {n z : Nat} {Q : Option sm_V → sm_S → Prop} : sm_wp d 179 11 [some (.inl x0), some (.inl x1)] [] (Z, Rf, K, n, z) Q = (sm_wp d 179 14 [some (.inl x0), some (.inl x1)] [.inl (x0 - x1)] (Z, Rf, K, n, z) Q) := (w_iload_n t179_11 rfl rfl).trans ((w_iload_n t179_12 rfl rfl).trans (w_isub t179_13 rfl))
set_option maxRecDepth 10000 in
theorem b179_14 {d : Nat} {l0 : Option sm_V} {l1 : Option sm_V} {s0 : Int} {Z : Nat → Nat → Int} {Rf : Nat → Nat → Option Nat} {K : Nat → Nat × Nat} {n z : Nat} {Q : Option sm_V → sm_S → Prop} : sm_wp d 179 14 [l0, l1] [.inl s0] (Z, Rf, K, n, z) Q = (Q (some (.inl s0)) (Z, Rf, K, n, z)) := w_iret t179_14
theorem t180_0 : sm_at 180 0 = some (1, .iload_n 1, 0, 0, 0) := rfl
theorem t180_1 : sm_at 180 1 = some (1, .iconst 0, 0, 0, 0) := rfl
theorem t180_2 : sm_at 180 2 = some (1, .aload_n 0, 0, 0, 0) := rfl
theorem t180_3 : sm_at 180 3 = some (3, .getfield 7, 11, 0, 0) := rfl
theorem t180_6 : sm_at 180 6 = some (2, .bipush 6, 0, 0, 0) := rfl
theorem t180_8 : sm_at 180 8 = some (1, .iaload, 0, 0, 0) := rfl
theorem t180_9 : sm_at 180 9 = some (1, .iconst 1, 0, 0, 0) := rfl
theorem t180_10 : sm_at 180 10 = some (1, .isub, 0, 0, 0) := rfl
theorem t180_11 : sm_at 180 11 = some (3, .invokestatic 75, 120, 3, 0) := rfl
theorem t180_14 : sm_at 180 14 = some (3, .ifCond .eq 12, 0, 0, 0) := rfl
theorem t180_17 : sm_at 180 17 = some (1, .iload_n 2, 0, 0, 0) := rfl
theorem t180_18 : sm_at 180 18 = some (1, .iconst 0, 0, 0, 0) := rfl
theorem t180_19 : sm_at 180 19 = some (1, .iconst 5, 0, 0, 0) := rfl
theorem t180_20 : sm_at 180 20 = some (3, .invokestatic 75, 120, 3, 0) := rfl
theorem t180_23 : sm_at 180 23 = some (3, .ifCond .ne 5, 0, 0, 0) := rfl
theorem t180_26 : sm_at 180 26 = some (1, .iconst (-1), 0, 0, 0) := rfl
theorem t180_27 : sm_at 180 27 = some (1, .ireturn, 0, 0, 0) := rfl
theorem t180_28 : sm_at 180 28 = some (3, .sipush 1340, 0, 0, 0) := rfl
theorem t180_31 : sm_at 180 31 = some (1, .iconst 5, 0, 0, 0) := rfl
theorem t180_32 : sm_at 180 32 = some (1, .iload_n 1, 0, 0, 0) := rfl
theorem t180_33 : sm_at 180 33 = some (1, .imul, 0, 0, 0) := rfl
theorem t180_34 : sm_at 180 34 = some (1, .iadd, 0, 0, 0) := rfl
theorem t180_35 : sm_at 180 35 = some (1, .istore_n 3, 0, 0, 0) := rfl
theorem t180_36 : sm_at 180 36 = some (1, .iload_n 2, 0, 0, 0) := rfl
theorem t180_37 : sm_at 180 37 = some (1, .iconst 5, 0, 0, 0) := rfl
theorem t180_38 : sm_at 180 38 = some (3, .if_icmp .ge 12, 0, 0, 0) := rfl
theorem t180_41 : sm_at 180 41 = some (1, .aload_n 0, 0, 0, 0) := rfl
theorem t180_42 : sm_at 180 42 = some (3, .getfield 7, 11, 0, 0) := rfl
theorem t180_45 : sm_at 180 45 = some (1, .iload_n 3, 0, 0, 0) := rfl
theorem t180_46 : sm_at 180 46 = some (1, .iload_n 2, 0, 0, 0) := rfl
theorem t180_47 : sm_at 180 47 = some (1, .iadd, 0, 0, 0) := rfl
theorem t180_48 : sm_at 180 48 = some (1, .iaload, 0, 0, 0) := rfl
theorem t180_49 : sm_at 180 49 = some (1, .ireturn, 0, 0, 0) := rfl
theorem t180_50 : sm_at 180 50 = some (1, .iconst (-1), 0, 0, 0) := rfl
theorem t180_51 : sm_at 180 51 = some (2, .istore 4, 0, 0, 0) := rfl
theorem t180_53 : sm_at 180 53 = some (1, .iconst 0, 0, 0, 0) := rfl
theorem t180_54 : sm_at 180 54 = some (2, .istore 5, 0, 0, 0) := rfl
theorem t180_56 : sm_at 180 56 = some (1, .iconst 0, 0, 0, 0) := rfl
theorem t180_57 : sm_at 180 57 = some (2, .istore 6, 0, 0, 0) := rfl
theorem t180_59 : sm_at 180 59 = some (2, .iload 6, 0, 0, 0) := rfl
theorem t180_61 : sm_at 180 61 = some (1, .aload_n 0, 0, 0, 0) := rfl
theorem t180_62 : sm_at 180 62 = some (3, .getfield 7, 11, 0, 0) := rfl
theorem t180_65 : sm_at 180 65 = some (1, .iconst 5, 0, 0, 0) := rfl
theorem t180_66 : sm_at 180 66 = some (1, .iaload, 0, 0, 0) := rfl
theorem t180_67 : sm_at 180 67 = some (3, .if_icmp .ge 86, 0, 0, 0) := rfl
theorem t180_70 : sm_at 180 70 = some (1, .aload_n 0, 0, 0, 0) := rfl
theorem t180_71 : sm_at 180 71 = some (3, .getfield 7, 11, 0, 0) := rfl
theorem t180_74 : sm_at 180 74 = some (3, .sipush 1840, 0, 0, 0) := rfl
theorem t180_77 : sm_at 180 77 = some (1, .iconst 2, 0, 0, 0) := rfl
theorem t180_78 : sm_at 180 78 = some (2, .iload 6, 0, 0, 0) := rfl
theorem t180_80 : sm_at 180 80 = some (1, .imul, 0, 0, 0) := rfl
theorem t180_81 : sm_at 180 81 = some (1, .iadd, 0, 0, 0) := rfl
theorem t180_82 : sm_at 180 82 = some (1, .iaload, 0, 0, 0) := rfl
theorem t180_83 : sm_at 180 83 = some (1, .aload_n 0, 0, 0, 0) := rfl
theorem t180_84 : sm_at 180 84 = some (3, .getfield 7, 11, 0, 0) := rfl
theorem t180_87 : sm_at 180 87 = some (1, .iload_n 3, 0, 0, 0) := rfl
theorem t180_88 : sm_at 180 88 = some (1, .iconst 2, 0, 0, 0) := rfl
theorem t180_89 : sm_at 180 89 = some (1, .iadd, 0, 0, 0) := rfl
theorem t180_90 : sm_at 180 90 = some (1, .iaload, 0, 0, 0) := rfl
theorem t180_91 : sm_at 180 91 = some (3, .invokestatic 299, 179, 2, 0) := rfl
set_option maxRecDepth 100000 in
theorem t180_94 : sm_at 180 94 = some (1, .aload_n 0, 0, 0, 0) := rfl
set_option maxRecDepth 100000 in
theorem t180_95 : sm_at 180 95 = some (3, .getfield 7, 11, 0, 0) := rfl
set_option maxRecDepth 100000 in
theorem t180_98 : sm_at 180 98 = some (3, .sipush 1840, 0, 0, 0) := rfl
set_option maxRecDepth 100000 in
theorem t180_101 : sm_at 180 101 = some (1, .iconst 2, 0, 0, 0) := rfl
set_option maxRecDepth 100000 in
theorem t180_102 : sm_at 180 102 = some (2, .iload 6, 0, 0, 0) := rfl
set_option maxRecDepth 100000 in
theorem t180_104 : sm_at 180 104 = some (1, .imul, 0, 0, 0) := rfl
set_option maxRecDepth 100000 in
theorem t180_105 : sm_at 180 105 = some (1, .iadd, 0, 0, 0) := rfl
set_option maxRecDepth 100000 in
theorem t180_106 : sm_at 180 106 = some (1, .iconst 1, 0, 0, 0) := rfl
set_option maxRecDepth 100000 in
theorem t180_107 : sm_at 180 107 = some (1, .iadd, 0, 0, 0) := rfl
set_option maxRecDepth 100000 in
theorem t180_108 : sm_at 180 108 = some (1, .iaload, 0, 0, 0) := rfl
set_option maxRecDepth 100000 in
theorem t180_109 : sm_at 180 109 = some (1, .aload_n 0, 0, 0, 0) := rfl
set_option maxRecDepth 100000 in
theorem t180_110 : sm_at 180 110 = some (3, .getfield 7, 11, 0, 0) := rfl
set_option maxRecDepth 100000 in
theorem t180_113 : sm_at 180 113 = some (1, .iload_n 3, 0, 0, 0) := rfl
set_option maxRecDepth 100000 in
theorem t180_114 : sm_at 180 114 = some (1, .iconst 3, 0, 0, 0) := rfl
set_option maxRecDepth 100000 in
theorem t180_115 : sm_at 180 115 = some (1, .iadd, 0, 0, 0) := rfl
set_option maxRecDepth 100000 in
theorem t180_116 : sm_at 180 116 = some (1, .iaload, 0, 0, 0) := rfl
set_option maxRecDepth 100000 in
theorem t180_117 : sm_at 180 117 = some (3, .invokestatic 299, 179, 2, 0) := rfl
set_option maxRecDepth 100000 in
theorem t180_120 : sm_at 180 120 = some (1, .iadd, 0, 0, 0) := rfl
set_option maxRecDepth 100000 in
theorem t180_121 : sm_at 180 121 = some (2, .istore 7, 0, 0, 0) := rfl
set_option maxRecDepth 100000 in
theorem t180_123 : sm_at 180 123 = some (2, .iload 4, 0, 0, 0) := rfl
set_option maxRecDepth 100000 in
theorem t180_125 : sm_at 180 125 = some (1, .iconst (-1), 0, 0, 0) := rfl
set_option maxRecDepth 100000 in
theorem t180_126 : sm_at 180 126 = some (3, .if_icmp .eq 13, 0, 0, 0) := rfl
set_option maxRecDepth 100000 in
theorem t180_129 : sm_at 180 129 = some (2, .iload 7, 0, 0, 0) := rfl
set_option maxRecDepth 100000 in
theorem t180_131 : sm_at 180 131 = some (2, .iload 5, 0, 0, 0) := rfl
set_option maxRecDepth 100000 in
theorem t180_133 : sm_at 180 133 = some (3, .if_icmp .lt 6, 0, 0, 0) := rfl
set_option maxRecDepth 100000 in
theorem t180_136 : sm_at 180 136 = some (3, .goto 11, 0, 0, 0) := rfl
set_option maxRecDepth 100000 in
theorem t180_139 : sm_at 180 139 = some (2, .iload 6, 0, 0, 0) := rfl
set_option maxRecDepth 100000 in
theorem t180_141 : sm_at 180 141 = some (2, .istore 4, 0, 0, 0) := rfl
set_option maxRecDepth 100000 in
theorem t180_143 : sm_at 180 143 = some (2, .iload 7, 0, 0, 0) := rfl
set_option maxRecDepth 100000 in
theorem t180_145 : sm_at 180 145 = some (2, .istore 5, 0, 0, 0) := rfl
set_option maxRecDepth 100000 in
theorem t180_147 : sm_at 180 147 = some (3, .iinc 6 1, 0, 0, 0) := rfl
set_option maxRecDepth 100000 in
theorem t180_150 : sm_at 180 150 = some (3, .goto (-91), 0, 0, 0) := rfl
set_option maxRecDepth 100000 in
theorem t180_153 : sm_at 180 153 = some (2, .iload 4, 0, 0, 0) := rfl
set_option maxRecDepth 100000 in
theorem t180_155 : sm_at 180 155 = some (1, .ireturn, 0, 0, 0) := rfl
set_option maxRecDepth 10000 in
theorem b180_0 {d : Nat} {r0 : Nat} {x1 : Int} {l2 : Option sm_V} {l3 : Option sm_V} {l4 : Option sm_V} {l5 : Option sm_V} {l6 : Option sm_V} {l7 : Option sm_V} {Z : Nat → Nat → Int} {Rf : Nat → Nat → Option Nat} {K : Nat → Nat × Nat} {n z : Nat} {Q : Option sm_V → sm_S → Prop} : sm_wp (d + 1) 180 0 [some (.inr (some r0)), some (.inl x1), l2, l3, l4, l5, l6, l7] [] (Z, Rf, K, n, z) Q = ((K r0).1 = 11 ∧ (Rf r0 0).isSome = true ∧ sm_rd (K (((Rf r0 0).getD 0))) ((6 : Int)) ∧ sm_call d 120 [.inl x1, .inl 0, .inl ((Z (((Rf r0 0).getD 0)) 6) - 1)] (Z, Rf, K, n, z) (sm_cont (d + 1) 180 14 [some (.inr (some r0)), some (.inl x1), l2, l3, l4, l5, l6, l7] [] Q)) := (w_iload_n t180_0 rfl rfl).trans ((w_iconst t180_1 rfl).trans ((w_aload_n t180_2 rfl rfl).trans ((w_getR t180_3 rfl (by decide)).trans (congrArg (And _) (congrArg (And _) ((w_bipush t180_6 rfl).trans ((w_iald t180_8 rfl wl_6).trans (congrArg (And _) ((w_iconst t180_9 rfl).trans ((w_isub t180_10 rfl).trans (w_callS t180_11 rfl rfl rfl rfl (Nat.le_of_ble_eq_true rfl) (Nat.le_of_ble_eq_true rfl) rfl)))))))))))
set_option maxRecDepth 10000 in
theorem b180_14 {d : Nat} {l0 : Option sm_V} {l1 : Option sm_V} {l2 : Option sm_V} {l3 : Option sm_V} {l4 : Option sm_V} {l5 : Option sm_V} {l6 : Option sm_V} {l7 : Option sm_V} {s0 : Int} {Z : Nat → Nat → Int} {Rf : Nat → Nat → Option Nat} {K : Nat → Nat × Nat} {n z : Nat} {Q : Option sm_V → sm_S → Prop} : sm_wp d 180 14 [l0, l1, l2, l3, l4, l5, l6, l7] [.inl s0] (Z, Rf, K, n, z) Q = (if wr s0 = 0 then sm_wp d 180 26 [l0, l1, l2, l3, l4, l5, l6, l7] [] (Z, Rf, K, n, z) Q else sm_wp d 180 17 [l0, l1, l2, l3, l4, l5, l6, l7] [] (Z, Rf, K, n, z) Q) := w_ifeq t180_14 rfl rfl rfl
set_option maxRecDepth 10000 in
theorem b180_17 {d : Nat} {l0 : Option sm_V} {l1 : Option sm_V} {x2 : Int} {l3 : Option sm_V} {l4 : Option sm_V} {l5 : Option sm_V} {l6 : Option sm_V} {l7 : Option sm_V} {Z : Nat → Nat → Int} {Rf : Nat → Nat → Option Nat} {K : Nat → Nat × Nat} {n z : Nat} {Q : Option sm_V → sm_S → Prop} : sm_wp (d + 1) 180 17 [l0, l1, some (.inl x2), l3, l4, l5, l6, l7] [] (Z, Rf, K, n, z) Q = (sm_call d 120 [.inl x2, .inl 0, .inl 5] (Z, Rf, K, n, z) (sm_cont (d + 1) 180 23 [l0, l1, some (.inl x2), l3, l4, l5, l6, l7] [] Q)) := (w_iload_n t180_17 rfl rfl).trans ((w_iconst t180_18 rfl).trans ((w_iconst t180_19 rfl).trans (w_callS t180_20 rfl rfl rfl rfl (Nat.le_of_ble_eq_true rfl) (Nat.le_of_ble_eq_true rfl) rfl)))
set_option maxRecDepth 10000 in
theorem b180_23 {d : Nat} {l0 : Option sm_V} {l1 : Option sm_V} {l2 : Option sm_V} {l3 : Option sm_V} {l4 : Option sm_V} {l5 : Option sm_V} {l6 : Option sm_V} {l7 : Option sm_V} {s0 : Int} {Z : Nat → Nat → Int} {Rf : Nat → Nat → Option Nat} {K : Nat → Nat × Nat} {n z : Nat} {Q : Option sm_V → sm_S → Prop} : sm_wp d 180 23 [l0, l1, l2, l3, l4, l5, l6, l7] [.inl s0] (Z, Rf, K, n, z) Q = (if wr s0 = 0 then sm_wp d 180 26 [l0, l1, l2, l3, l4, l5, l6, l7] [] (Z, Rf, K, n, z) Q else sm_wp d 180 28 [l0, l1, l2, l3, l4, l5, l6, l7] [] (Z, Rf, K, n, z) Q) := w_ifne t180_23 rfl rfl rfl
set_option maxRecDepth 10000 in
theorem b180_26 {d : Nat} {l0 : Option sm_V} {l1 : Option sm_V} {l2 : Option sm_V} {l3 : Option sm_V} {l4 : Option sm_V} {l5 : Option sm_V} {l6 : Option sm_V} {l7 : Option sm_V} {Z : Nat → Nat → Int} {Rf : Nat → Nat → Option Nat} {K : Nat → Nat × Nat} {n z : Nat} {Q : Option sm_V → sm_S → Prop} : sm_wp d 180 26 [l0, l1, l2, l3, l4, l5, l6, l7] [] (Z, Rf, K, n, z) Q = (Q (some (.inl ((-1)))) (Z, Rf, K, n, z)) := (w_iconst t180_26 rfl).trans (w_iret t180_27)
set_option maxRecDepth 10000 in
theorem b180_28 {d : Nat} {l0 : Option sm_V} {x1 : Int} {x2 : Int} {l3 : Option sm_V} {l4 : Option sm_V} {l5 : Option sm_V} {l6 : Option sm_V} {l7 : Option sm_V} {Z : Nat → Nat → Int} {Rf : Nat → Nat → Option Nat} {K : Nat → Nat × Nat} {n z : Nat} {Q : Option sm_V → sm_S → Prop} : sm_wp d 180 28 [l0, some (.inl x1), some (.inl x2), l3, l4, l5, l6, l7] [] (Z, Rf, K, n, z) Q = (if (5 : Int) ≤ wr x2 then sm_wp d 180 50 [l0, some (.inl x1), some (.inl x2), some (.inl (1340 + (5 * x1))), l4, l5, l6, l7] [] (Z, Rf, K, n, z) Q else sm_wp d 180 41 [l0, some (.inl x1), some (.inl x2), some (.inl (1340 + (5 * x1))), l4, l5, l6, l7] [] (Z, Rf, K, n, z) Q) := (w_sipush t180_28 rfl).trans ((w_iconst t180_31 rfl).trans ((w_iload_n t180_32 rfl rfl).trans ((w_imul t180_33 rfl).trans ((w_iadd t180_34 rfl).trans ((w_istore_n t180_35 rfl (Nat.le_of_ble_eq_true rfl) rfl).trans ((w_iload_n t180_36 rfl rfl).trans ((w_iconst t180_37 rfl).trans (w_icge t180_38 rfl wl_5 rfl rfl))))))))
set_option maxRecDepth 10000 in
theorem b180_41 {d : Nat} {r0 : Nat} {l1 : Option sm_V} {x2 : Int} {x3 : Int} {l4 : Option sm_V} {l5 : Option sm_V} {l6 : Option sm_V} {l7 : Option sm_V} {Z : Nat → Nat → Int} {Rf : Nat → Nat → Option Nat} {K : Nat → Nat × Nat} {n z : Nat} {Q : Option sm_V → sm_S → Prop} : sm_wp d 180 41 [some (.inr (some r0)), l1, some (.inl x2), some (.inl x3), l4, l5, l6, l7] [] (Z, Rf, K, n, z) Q = ((K r0).1 = 11 ∧ (Rf r0 0).isSome = true ∧ sm_rd (K (((Rf r0 0).getD 0))) (wr (x3 + x2)) ∧ Q (some (.inl (Z (((Rf r0 0).getD 0)) ((wr (x3 + x2)).toNat)))) (Z, Rf, K, n, z)) := (w_aload_n t180_41 rfl rfl).trans ((w_getR t180_42 rfl (by decide)).trans (congrArg (And _) (congrArg (And _) ((w_iload_n t180_45 rfl rfl).trans ((w_iload_n t180_46 rfl rfl).trans ((w_iadd t180_47 rfl).trans ((w_iald t180_48 rfl rfl).trans (congrArg (And _) (w_iret t180_49)))))))))
set_option maxRecDepth 10000 in
theorem b180_50 {d : Nat} {l0 : Option sm_V} {l1 : Option sm_V} {l2 : Option sm_V} {l3 : Option sm_V} {l4 : Option sm_V} {l5 : Option sm_V} {l6 : Option sm_V} {l7 : Option sm_V} {Z : Nat → Nat → Int} {Rf : Nat → Nat → Option Nat} {K : Nat → Nat × Nat} {n z : Nat} {Q : Option sm_V → sm_S → Prop} : sm_wp d 180 50 [l0, l1, l2, l3, l4, l5, l6, l7] [] (Z, Rf, K, n, z) Q = (sm_wp d 180 59 [l0, l1, l2, l3, some (.inl ((-1))), some (.inl 0), some (.inl 0), l7] [] (Z, Rf, K, n, z) Q) := (w_iconst t180_50 rfl).trans ((w_istore t180_51 rfl (Nat.le_of_ble_eq_true rfl) rfl).trans ((w_iconst t180_53 rfl).trans ((w_istore t180_54 rfl (Nat.le_of_ble_eq_true rfl) rfl).trans ((w_iconst t180_56 rfl).trans (w_istore t180_57 rfl (Nat.le_of_ble_eq_true rfl) rfl)))))
set_option maxRecDepth 10000 in
theorem b180_59 {d : Nat} {r0 : Nat} {l1 : Option sm_V} {l2 : Option sm_V} {l3 : Option sm_V} {l4 : Option sm_V} {l5 : Option sm_V} {x6 : Int} {l7 : Option sm_V} {Z : Nat → Nat → Int} {Rf : Nat → Nat → Option Nat} {K : Nat → Nat × Nat} {n z : Nat} {Q : Option sm_V → sm_S → Prop} : sm_wp d 180 59 [some (.inr (some r0)), l1, l2, l3, l4, l5, some (.inl x6), l7] [] (Z, Rf, K, n, z) Q = ((K r0).1 = 11 ∧ (Rf r0 0).isSome = true ∧ sm_rd (K (((Rf r0 0).getD 0))) ((5 : Int)) ∧ (if wr (Z (((Rf r0 0).getD 0)) 5) ≤ wr x6 then sm_wp d 180 153 [some (.inr (some r0)), l1, l2, l3, l4, l5, some (.inl x6), l7] [] (Z, Rf, K, n, z) Q else sm_wp d 180 70 [some (.inr (some r0)), l1, l2, l3, l4, l5, some (.inl x6), l7] [] (Z, Rf, K, n, z) Q)) := (w_iload t180_59 rfl rfl).trans ((w_aload_n t180_61 rfl rfl).trans ((w_getR t180_62 rfl (by decide)).trans (congrArg (And _) (congrArg (And _) ((w_iconst t180_65 rfl).trans ((w_iald t180_66 rfl wl_5).trans (congrArg (And _) (w_icge t180_67 rfl rfl rfl rfl))))))))
set_option maxRecDepth 10000 in
theorem b180_70 {d : Nat} {r0 : Nat} {l1 : Option sm_V} {l2 : Option sm_V} {x3 : Int} {l4 : Option sm_V} {l5 : Option sm_V} {x6 : Int} {l7 : Option sm_V} {Z : Nat → Nat → Int} {Rf : Nat → Nat → Option Nat} {K : Nat → Nat × Nat} {n z : Nat} {Q : Option sm_V → sm_S → Prop} : sm_wp (d + 1) 180 70 [some (.inr (some r0)), l1, l2, some (.inl x3), l4, l5, some (.inl x6), l7] [] (Z, Rf, K, n, z) Q = ((K r0).1 = 11 ∧ (Rf r0 0).isSome = true ∧ sm_rd (K (((Rf r0 0).getD 0))) (wr (1840 + (2 * x6))) ∧ (K r0).1 = 11 ∧ (Rf r0 0).isSome = true ∧ sm_rd (K (((Rf r0 0).getD 0))) (wr (x3 + 2)) ∧ sm_call d 179 [.inl (Z (((Rf r0 0).getD 0)) ((wr (1840 + (2 * x6))).toNat)), .inl (Z (((Rf r0 0).getD 0)) ((wr (x3 + 2)).toNat))] (Z, Rf, K, n, z) (sm_cont (d + 1) 180 94 [some (.inr (some r0)), l1, l2, some (.inl x3), l4, l5, some (.inl x6), l7] [] Q)) := (w_aload_n t180_70 rfl rfl).trans ((w_getR t180_71 rfl (by decide)).trans (congrArg (And _) (congrArg (And _) ((w_sipush t180_74 rfl).trans ((w_iconst t180_77 rfl).trans ((w_iload t180_78 rfl rfl).trans ((w_imul t180_80 rfl).trans ((w_iadd t180_81 rfl).trans ((w_iald t180_82 rfl rfl).trans (congrArg (And _) ((w_aload_n t180_83 rfl rfl).trans ((w_getR t180_84 rfl (by decide)).trans (congrArg (And _) (congrArg (And _) ((w_iload_n t180_87 rfl rfl).trans ((w_iconst t180_88 rfl).trans ((w_iadd t180_89 rfl).trans ((w_iald t180_90 rfl rfl).trans (congrArg (And _) (w_callS t180_91 rfl rfl rfl rfl (Nat.le_of_ble_eq_true rfl) (Nat.le_of_ble_eq_true rfl) rfl))))))))))))))))))))
set_option maxRecDepth 10000 in
theorem b180_94 {d : Nat} {r0 : Nat} {l1 : Option sm_V} {l2 : Option sm_V} {x3 : Int} {l4 : Option sm_V} {l5 : Option sm_V} {x6 : Int} {l7 : Option sm_V} {s0 : Int} {Z : Nat → Nat → Int} {Rf : Nat → Nat → Option Nat} {K : Nat → Nat × Nat} {n z : Nat} {Q : Option sm_V → sm_S → Prop} : sm_wp (d + 1) 180 94 [some (.inr (some r0)), l1, l2, some (.inl x3), l4, l5, some (.inl x6), l7] [.inl s0] (Z, Rf, K, n, z) Q = ((K r0).1 = 11 ∧ (Rf r0 0).isSome = true ∧ sm_rd (K (((Rf r0 0).getD 0))) (wr ((1840 + (2 * x6)) + 1)) ∧ (K r0).1 = 11 ∧ (Rf r0 0).isSome = true ∧ sm_rd (K (((Rf r0 0).getD 0))) (wr (x3 + 3)) ∧ sm_call d 179 [.inl (Z (((Rf r0 0).getD 0)) ((wr ((1840 + (2 * x6)) + 1)).toNat)), .inl (Z (((Rf r0 0).getD 0)) ((wr (x3 + 3)).toNat))] (Z, Rf, K, n, z) (sm_cont (d + 1) 180 120 [some (.inr (some r0)), l1, l2, some (.inl x3), l4, l5, some (.inl x6), l7] [.inl s0] Q)) := (w_aload_n t180_94 rfl rfl).trans ((w_getR t180_95 rfl (by decide)).trans (congrArg (And _) (congrArg (And _) ((w_sipush t180_98 rfl).trans ((w_iconst t180_101 rfl).trans ((w_iload t180_102 rfl rfl).trans ((w_imul t180_104 rfl).trans ((w_iadd t180_105 rfl).trans ((w_iconst t180_106 rfl).trans ((w_iadd t180_107 rfl).trans ((w_iald t180_108 rfl rfl).trans (congrArg (And _) ((w_aload_n t180_109 rfl rfl).trans ((w_getR t180_110 rfl (by decide)).trans (congrArg (And _) (congrArg (And _) ((w_iload_n t180_113 rfl rfl).trans ((w_iconst t180_114 rfl).trans ((w_iadd t180_115 rfl).trans ((w_iald t180_116 rfl rfl).trans (congrArg (And _) (w_callS t180_117 rfl rfl rfl rfl (Nat.le_of_ble_eq_true rfl) (Nat.le_of_ble_eq_true rfl) rfl))))))))))))))))))))))
set_option maxRecDepth 10000 in
theorem b180_120 {d : Nat} {l0 : Option sm_V} {l1 : Option sm_V} {l2 : Option sm_V} {l3 : Option sm_V} {x4 : Int} {l5 : Option sm_V} {l6 : Option sm_V} {l7 : Option sm_V} {s0 : Int} {s1 : Int} {Z : Nat → Nat → Int} {Rf : Nat → Nat → Option Nat} {K : Nat → Nat × Nat} {n z : Nat} {Q : Option sm_V → sm_S → Prop} : sm_wp d 180 120 [l0, l1, l2, l3, some (.inl x4), l5, l6, l7] [.inl s1, .inl s0] (Z, Rf, K, n, z) Q = (if wr x4 = (-1 : Int) then sm_wp d 180 139 [l0, l1, l2, l3, some (.inl x4), l5, l6, some (.inl (s0 + s1))] [] (Z, Rf, K, n, z) Q else sm_wp d 180 129 [l0, l1, l2, l3, some (.inl x4), l5, l6, some (.inl (s0 + s1))] [] (Z, Rf, K, n, z) Q) := (w_iadd t180_120 rfl).trans ((w_istore t180_121 rfl (Nat.le_of_ble_eq_true rfl) rfl).trans ((w_iload t180_123 rfl rfl).trans ((w_iconst t180_125 rfl).trans (w_iceq t180_126 rfl wl_m1 rfl rfl))))
set_option maxRecDepth 10000 in
theorem b180_129 {d : Nat} {l0 : Option sm_V} {l1 : Option sm_V} {l2 : Option sm_V} {l3 : Option sm_V} {l4 : Option sm_V} {x5 : Int} {l6 : Option sm_V} {x7 : Int} {Z : Nat → Nat → Int} {Rf : Nat → Nat → Option Nat} {K : Nat → Nat × Nat} {n z : Nat} {Q : Option sm_V → sm_S → Prop} : sm_wp d 180 129 [l0, l1, l2, l3, l4, some (.inl x5), l6, some (.inl x7)] [] (Z, Rf, K, n, z) Q = (if wr x7 < wr x5 then sm_wp d 180 139 [l0, l1, l2, l3, l4, some (.inl x5), l6, some (.inl x7)] [] (Z, Rf, K, n, z) Q else sm_wp d 180 136 [l0, l1, l2, l3, l4, some (.inl x5), l6, some (.inl x7)] [] (Z, Rf, K, n, z) Q) := (w_iload t180_129 rfl rfl).trans ((w_iload t180_131 rfl rfl).trans (w_iclt t180_133 rfl rfl rfl rfl))
set_option maxRecDepth 10000 in
theorem b180_136 {d : Nat} {l0 : Option sm_V} {l1 : Option sm_V} {l2 : Option sm_V} {l3 : Option sm_V} {l4 : Option sm_V} {l5 : Option sm_V} {l6 : Option sm_V} {l7 : Option sm_V} {Z : Nat → Nat → Int} {Rf : Nat → Nat → Option Nat} {K : Nat → Nat × Nat} {n z : Nat} {Q : Option sm_V → sm_S → Prop} : sm_wp d 180 136 [l0, l1, l2, l3, l4, l5, l6, l7] [] (Z, Rf, K, n, z) Q = (sm_wp d 180 147 [l0, l1, l2, l3, l4, l5, l6, l7] [] (Z, Rf, K, n, z) Q) := w_goto t180_136 rfl
set_option maxRecDepth 10000 in
theorem b180_139 {d : Nat} {l0 : Option sm_V} {l1 : Option sm_V} {l2 : Option sm_V} {l3 : Option sm_V} {l4 : Option sm_V} {l5 : Option sm_V} {x6 : Int} {x7 : Int} {Z : Nat → Nat → Int} {Rf : Nat → Nat → Option Nat} {K : Nat → Nat × Nat} {n z : Nat} {Q : Option sm_V → sm_S → Prop} : sm_wp d 180 139 [l0, l1, l2, l3, l4, l5, some (.inl x6), some (.inl x7)] [] (Z, Rf, K, n, z) Q = (sm_wp d 180 147 [l0, l1, l2, l3, some (.inl x6), some (.inl x7), some (.inl x6), some (.inl x7)] [] (Z, Rf, K, n, z) Q) := (w_iload t180_139 rfl rfl).trans ((w_istore t180_141 rfl (Nat.le_of_ble_eq_true rfl) rfl).trans ((w_iload t180_143 rfl rfl).trans (w_istore t180_145 rfl (Nat.le_of_ble_eq_true rfl) rfl)))
set_option maxRecDepth 10000 in
theorem b180_147 {d : Nat} {l0 : Option sm_V} {l1 : Option sm_V} {l2 : Option sm_V} {l3 : Option sm_V} {l4 : Option sm_V} {l5 : Option sm_V} {x6 : Int} {l7 : Option sm_V} {Z : Nat → Nat → Int} {Rf : Nat → Nat → Option Nat} {K : Nat → Nat × Nat} {n z : Nat} {Q : Option sm_V → sm_S → Prop} : sm_wp d 180 147 [l0, l1, l2, l3, l4, l5, some (.inl x6), l7] [] (Z, Rf, K, n, z) Q = (sm_wp d 180 59 [l0, l1, l2, l3, l4, l5, some (.inl (x6 + 1)), l7] [] (Z, Rf, K, n, z) Q) := (w_iinc t180_147 rfl rfl (Nat.le_of_ble_eq_true rfl) rfl).trans (w_goto t180_150 rfl)
set_option maxRecDepth 10000 in
theorem b180_153 {d : Nat} {l0 : Option sm_V} {l1 : Option sm_V} {l2 : Option sm_V} {l3 : Option sm_V} {x4 : Int} {l5 : Option sm_V} {l6 : Option sm_V} {l7 : Option sm_V} {Z : Nat → Nat → Int} {Rf : Nat → Nat → Option Nat} {K : Nat → Nat × Nat} {n z : Nat} {Q : Option sm_V → sm_S → Prop} : sm_wp d 180 153 [l0, l1, l2, l3, some (.inl x4), l5, l6, l7] [] (Z, Rf, K, n, z) Q = (Q (some (.inl x4)) (Z, Rf, K, n, z)) := (w_iload t180_153 rfl rfl).trans (w_iret t180_155)
theorem t181_0 : sm_at 181 0 = some (1, .iload_n 1, 0, 0, 0) := rfl
theorem t181_1 : sm_at 181 1 = some (1, .iconst 0, 0, 0, 0) := rfl
theorem t181_2 : sm_at 181 2 = some (1, .aload_n 0, 0, 0, 0) := rfl
theorem t181_3 : sm_at 181 3 = some (3, .getfield 7, 11, 0, 0) := rfl
theorem t181_6 : sm_at 181 6 = some (1, .iconst 4, 0, 0, 0) := rfl
theorem t181_7 : sm_at 181 7 = some (1, .iaload, 0, 0, 0) := rfl
theorem t181_8 : sm_at 181 8 = some (1, .iconst 1, 0, 0, 0) := rfl
theorem t181_9 : sm_at 181 9 = some (1, .isub, 0, 0, 0) := rfl
theorem t181_10 : sm_at 181 10 = some (3, .invokestatic 75, 120, 3, 0) := rfl
theorem t181_13 : sm_at 181 13 = some (3, .ifCond .eq 12, 0, 0, 0) := rfl
theorem t181_16 : sm_at 181 16 = some (1, .iload_n 2, 0, 0, 0) := rfl
theorem t181_17 : sm_at 181 17 = some (1, .iconst 0, 0, 0, 0) := rfl
theorem t181_18 : sm_at 181 18 = some (1, .iload_n 3, 0, 0, 0) := rfl
theorem t181_19 : sm_at 181 19 = some (3, .invokestatic 75, 120, 3, 0) := rfl
theorem t181_22 : sm_at 181 22 = some (3, .ifCond .ne 5, 0, 0, 0) := rfl
theorem t181_25 : sm_at 181 25 = some (1, .iconst (-1), 0, 0, 0) := rfl
theorem t181_26 : sm_at 181 26 = some (1, .ireturn, 0, 0, 0) := rfl
theorem t181_27 : sm_at 181 27 = some (1, .iconst 0, 0, 0, 0) := rfl
theorem t181_28 : sm_at 181 28 = some (2, .istore 4, 0, 0, 0) := rfl
theorem t181_30 : sm_at 181 30 = some (1, .iconst 0, 0, 0, 0) := rfl
theorem t181_31 : sm_at 181 31 = some (2, .istore 5, 0, 0, 0) := rfl
theorem t181_33 : sm_at 181 33 = some (2, .iload 5, 0, 0, 0) := rfl
theorem t181_35 : sm_at 181 35 = some (3, .sipush 242, 0, 0, 0) := rfl
theorem t181_38 : sm_at 181 38 = some (3, .if_icmp .ge 73, 0, 0, 0) := rfl
theorem t181_41 : sm_at 181 41 = some (1, .aload_n 0, 0, 0, 0) := rfl
theorem t181_42 : sm_at 181 42 = some (3, .getfield 7, 11, 0, 0) := rfl
theorem t181_45 : sm_at 181 45 = some (3, .sipush 850, 0, 0, 0) := rfl
theorem t181_48 : sm_at 181 48 = some (2, .iload 5, 0, 0, 0) := rfl
theorem t181_50 : sm_at 181 50 = some (1, .iadd, 0, 0, 0) := rfl
theorem t181_51 : sm_at 181 51 = some (1, .iaload, 0, 0, 0) := rfl
theorem t181_52 : sm_at 181 52 = some (1, .iload_n 1, 0, 0, 0) := rfl
theorem t181_53 : sm_at 181 53 = some (3, .if_icmp .ne 52, 0, 0, 0) := rfl
theorem t181_56 : sm_at 181 56 = some (1, .aload_n 0, 0, 0, 0) := rfl
theorem t181_57 : sm_at 181 57 = some (3, .getfield 7, 11, 0, 0) := rfl
theorem t181_60 : sm_at 181 60 = some (3, .sipush 1092, 0, 0, 0) := rfl
theorem t181_63 : sm_at 181 63 = some (2, .iload 5, 0, 0, 0) := rfl
theorem t181_65 : sm_at 181 65 = some (1, .iadd, 0, 0, 0) := rfl
theorem t181_66 : sm_at 181 66 = some (1, .iaload, 0, 0, 0) := rfl
theorem t181_67 : sm_at 181 67 = some (1, .iload_n 2, 0, 0, 0) := rfl
theorem t181_68 : sm_at 181 68 = some (1, .iload_n 3, 0, 0, 0) := rfl
theorem t181_69 : sm_at 181 69 = some (3, .invokestatic 75, 120, 3, 0) := rfl
theorem t181_72 : sm_at 181 72 = some (3, .ifCond .ne 6, 0, 0, 0) := rfl
theorem t181_75 : sm_at 181 75 = some (3, .goto 30, 0, 0, 0) := rfl
theorem t181_78 : sm_at 181 78 = some (1, .aload_n 0, 0, 0, 0) := rfl
theorem t181_79 : sm_at 181 79 = some (3, .getfield 7, 11, 0, 0) := rfl
theorem t181_82 : sm_at 181 82 = some (3, .sipush 850, 0, 0, 0) := rfl
theorem t181_85 : sm_at 181 85 = some (2, .iload 5, 0, 0, 0) := rfl
theorem t181_87 : sm_at 181 87 = some (1, .iadd, 0, 0, 0) := rfl
theorem t181_88 : sm_at 181 88 = some (1, .iconst (-1), 0, 0, 0) := rfl
theorem t181_89 : sm_at 181 89 = some (1, .iastore, 0, 0, 0) := rfl
theorem t181_90 : sm_at 181 90 = some (1, .aload_n 0, 0, 0, 0) := rfl
theorem t181_91 : sm_at 181 91 = some (3, .getfield 7, 11, 0, 0) := rfl
theorem t181_94 : sm_at 181 94 = some (3, .sipush 1092, 0, 0, 0) := rfl
theorem t181_97 : sm_at 181 97 = some (2, .iload 5, 0, 0, 0) := rfl
theorem t181_99 : sm_at 181 99 = some (1, .iadd, 0, 0, 0) := rfl
theorem t181_100 : sm_at 181 100 = some (1, .iconst (-1), 0, 0, 0) := rfl
theorem t181_101 : sm_at 181 101 = some (1, .iastore, 0, 0, 0) := rfl
theorem t181_102 : sm_at 181 102 = some (3, .iinc 4 1, 0, 0, 0) := rfl
theorem t181_105 : sm_at 181 105 = some (3, .iinc 5 1, 0, 0, 0) := rfl
theorem t181_108 : sm_at 181 108 = some (3, .goto (-75), 0, 0, 0) := rfl
set_option maxRecDepth 100000 in
theorem t181_111 : sm_at 181 111 = some (2, .iload 4, 0, 0, 0) := rfl
set_option maxRecDepth 100000 in
theorem t181_113 : sm_at 181 113 = some (1, .ireturn, 0, 0, 0) := rfl
set_option maxRecDepth 10000 in
theorem b181_0 {d : Nat} {r0 : Nat} {x1 : Int} {l2 : Option sm_V} {l3 : Option sm_V} {l4 : Option sm_V} {l5 : Option sm_V} {Z : Nat → Nat → Int} {Rf : Nat → Nat → Option Nat} {K : Nat → Nat × Nat} {n z : Nat} {Q : Option sm_V → sm_S → Prop} : sm_wp (d + 1) 181 0 [some (.inr (some r0)), some (.inl x1), l2, l3, l4, l5] [] (Z, Rf, K, n, z) Q = ((K r0).1 = 11 ∧ (Rf r0 0).isSome = true ∧ sm_rd (K (((Rf r0 0).getD 0))) ((4 : Int)) ∧ sm_call d 120 [.inl x1, .inl 0, .inl ((Z (((Rf r0 0).getD 0)) 4) - 1)] (Z, Rf, K, n, z) (sm_cont (d + 1) 181 13 [some (.inr (some r0)), some (.inl x1), l2, l3, l4, l5] [] Q)) := (w_iload_n t181_0 rfl rfl).trans ((w_iconst t181_1 rfl).trans ((w_aload_n t181_2 rfl rfl).trans ((w_getR t181_3 rfl (by decide)).trans (congrArg (And _) (congrArg (And _) ((w_iconst t181_6 rfl).trans ((w_iald t181_7 rfl wl_4).trans (congrArg (And _) ((w_iconst t181_8 rfl).trans ((w_isub t181_9 rfl).trans (w_callS t181_10 rfl rfl rfl rfl (Nat.le_of_ble_eq_true rfl) (Nat.le_of_ble_eq_true rfl) rfl)))))))))))
set_option maxRecDepth 10000 in
theorem b181_13 {d : Nat} {l0 : Option sm_V} {l1 : Option sm_V} {l2 : Option sm_V} {l3 : Option sm_V} {l4 : Option sm_V} {l5 : Option sm_V} {s0 : Int} {Z : Nat → Nat → Int} {Rf : Nat → Nat → Option Nat} {K : Nat → Nat × Nat} {n z : Nat} {Q : Option sm_V → sm_S → Prop} : sm_wp d 181 13 [l0, l1, l2, l3, l4, l5] [.inl s0] (Z, Rf, K, n, z) Q = (if wr s0 = 0 then sm_wp d 181 25 [l0, l1, l2, l3, l4, l5] [] (Z, Rf, K, n, z) Q else sm_wp d 181 16 [l0, l1, l2, l3, l4, l5] [] (Z, Rf, K, n, z) Q) := w_ifeq t181_13 rfl rfl rfl
set_option maxRecDepth 10000 in
theorem b181_16 {d : Nat} {l0 : Option sm_V} {l1 : Option sm_V} {x2 : Int} {x3 : Int} {l4 : Option sm_V} {l5 : Option sm_V} {Z : Nat → Nat → Int} {Rf : Nat → Nat → Option Nat} {K : Nat → Nat × Nat} {n z : Nat} {Q : Option sm_V → sm_S → Prop} : sm_wp (d + 1) 181 16 [l0, l1, some (.inl x2), some (.inl x3), l4, l5] [] (Z, Rf, K, n, z) Q = (sm_call d 120 [.inl x2, .inl 0, .inl x3] (Z, Rf, K, n, z) (sm_cont (d + 1) 181 22 [l0, l1, some (.inl x2), some (.inl x3), l4, l5] [] Q)) := (w_iload_n t181_16 rfl rfl).trans ((w_iconst t181_17 rfl).trans ((w_iload_n t181_18 rfl rfl).trans (w_callS t181_19 rfl rfl rfl rfl (Nat.le_of_ble_eq_true rfl) (Nat.le_of_ble_eq_true rfl) rfl)))
set_option maxRecDepth 10000 in
theorem b181_22 {d : Nat} {l0 : Option sm_V} {l1 : Option sm_V} {l2 : Option sm_V} {l3 : Option sm_V} {l4 : Option sm_V} {l5 : Option sm_V} {s0 : Int} {Z : Nat → Nat → Int} {Rf : Nat → Nat → Option Nat} {K : Nat → Nat × Nat} {n z : Nat} {Q : Option sm_V → sm_S → Prop} : sm_wp d 181 22 [l0, l1, l2, l3, l4, l5] [.inl s0] (Z, Rf, K, n, z) Q = (if wr s0 = 0 then sm_wp d 181 25 [l0, l1, l2, l3, l4, l5] [] (Z, Rf, K, n, z) Q else sm_wp d 181 27 [l0, l1, l2, l3, l4, l5] [] (Z, Rf, K, n, z) Q) := w_ifne t181_22 rfl rfl rfl
set_option maxRecDepth 10000 in
theorem b181_25 {d : Nat} {l0 : Option sm_V} {l1 : Option sm_V} {l2 : Option sm_V} {l3 : Option sm_V} {l4 : Option sm_V} {l5 : Option sm_V} {Z : Nat → Nat → Int} {Rf : Nat → Nat → Option Nat} {K : Nat → Nat × Nat} {n z : Nat} {Q : Option sm_V → sm_S → Prop} : sm_wp d 181 25 [l0, l1, l2, l3, l4, l5] [] (Z, Rf, K, n, z) Q = (Q (some (.inl ((-1)))) (Z, Rf, K, n, z)) := (w_iconst t181_25 rfl).trans (w_iret t181_26)
set_option maxRecDepth 10000 in
theorem b181_27 {d : Nat} {l0 : Option sm_V} {l1 : Option sm_V} {l2 : Option sm_V} {l3 : Option sm_V} {l4 : Option sm_V} {l5 : Option sm_V} {Z : Nat → Nat → Int} {Rf : Nat → Nat → Option Nat} {K : Nat → Nat × Nat} {n z : Nat} {Q : Option sm_V → sm_S → Prop} : sm_wp d 181 27 [l0, l1, l2, l3, l4, l5] [] (Z, Rf, K, n, z) Q = (sm_wp d 181 33 [l0, l1, l2, l3, some (.inl 0), some (.inl 0)] [] (Z, Rf, K, n, z) Q) := (w_iconst t181_27 rfl).trans ((w_istore t181_28 rfl (Nat.le_of_ble_eq_true rfl) rfl).trans ((w_iconst t181_30 rfl).trans (w_istore t181_31 rfl (Nat.le_of_ble_eq_true rfl) rfl)))
set_option maxRecDepth 10000 in
theorem b181_33 {d : Nat} {l0 : Option sm_V} {l1 : Option sm_V} {l2 : Option sm_V} {l3 : Option sm_V} {l4 : Option sm_V} {x5 : Int} {Z : Nat → Nat → Int} {Rf : Nat → Nat → Option Nat} {K : Nat → Nat × Nat} {n z : Nat} {Q : Option sm_V → sm_S → Prop} : sm_wp d 181 33 [l0, l1, l2, l3, l4, some (.inl x5)] [] (Z, Rf, K, n, z) Q = (if (242 : Int) ≤ wr x5 then sm_wp d 181 111 [l0, l1, l2, l3, l4, some (.inl x5)] [] (Z, Rf, K, n, z) Q else sm_wp d 181 41 [l0, l1, l2, l3, l4, some (.inl x5)] [] (Z, Rf, K, n, z) Q) := (w_iload t181_33 rfl rfl).trans ((w_sipush t181_35 rfl).trans (w_icge t181_38 rfl wl_242 rfl rfl))
set_option maxRecDepth 10000 in
theorem b181_41 {d : Nat} {r0 : Nat} {x1 : Int} {l2 : Option sm_V} {l3 : Option sm_V} {l4 : Option sm_V} {x5 : Int} {Z : Nat → Nat → Int} {Rf : Nat → Nat → Option Nat} {K : Nat → Nat × Nat} {n z : Nat} {Q : Option sm_V → sm_S → Prop} : sm_wp d 181 41 [some (.inr (some r0)), some (.inl x1), l2, l3, l4, some (.inl x5)] [] (Z, Rf, K, n, z) Q = ((K r0).1 = 11 ∧ (Rf r0 0).isSome = true ∧ sm_rd (K (((Rf r0 0).getD 0))) (wr (850 + x5)) ∧ (if wr (Z (((Rf r0 0).getD 0)) ((wr (850 + x5)).toNat)) = wr x1 then sm_wp d 181 56 [some (.inr (some r0)), some (.inl x1), l2, l3, l4, some (.inl x5)] [] (Z, Rf, K, n, z) Q else sm_wp d 181 105 [some (.inr (some r0)), some (.inl x1), l2, l3, l4, some (.inl x5)] [] (Z, Rf, K, n, z) Q)) := (w_aload_n t181_41 rfl rfl).trans ((w_getR t181_42 rfl (by decide)).trans (congrArg (And _) (congrArg (And _) ((w_sipush t181_45 rfl).trans ((w_iload t181_48 rfl rfl).trans ((w_iadd t181_50 rfl).trans ((w_iald t181_51 rfl rfl).trans (congrArg (And _) ((w_iload_n t181_52 rfl rfl).trans (w_icne t181_53 rfl rfl rfl rfl))))))))))
set_option maxRecDepth 10000 in
theorem b181_56 {d : Nat} {r0 : Nat} {l1 : Option sm_V} {x2 : Int} {x3 : Int} {l4 : Option sm_V} {x5 : Int} {Z : Nat → Nat → Int} {Rf : Nat → Nat → Option Nat} {K : Nat → Nat × Nat} {n z : Nat} {Q : Option sm_V → sm_S → Prop} : sm_wp (d + 1) 181 56 [some (.inr (some r0)), l1, some (.inl x2), some (.inl x3), l4, some (.inl x5)] [] (Z, Rf, K, n, z) Q = ((K r0).1 = 11 ∧ (Rf r0 0).isSome = true ∧ sm_rd (K (((Rf r0 0).getD 0))) (wr (1092 + x5)) ∧ sm_call d 120 [.inl (Z (((Rf r0 0).getD 0)) ((wr (1092 + x5)).toNat)), .inl x2, .inl x3] (Z, Rf, K, n, z) (sm_cont (d + 1) 181 72 [some (.inr (some r0)), l1, some (.inl x2), some (.inl x3), l4, some (.inl x5)] [] Q)) := (w_aload_n t181_56 rfl rfl).trans ((w_getR t181_57 rfl (by decide)).trans (congrArg (And _) (congrArg (And _) ((w_sipush t181_60 rfl).trans ((w_iload t181_63 rfl rfl).trans ((w_iadd t181_65 rfl).trans ((w_iald t181_66 rfl rfl).trans (congrArg (And _) ((w_iload_n t181_67 rfl rfl).trans ((w_iload_n t181_68 rfl rfl).trans (w_callS t181_69 rfl rfl rfl rfl (Nat.le_of_ble_eq_true rfl) (Nat.le_of_ble_eq_true rfl) rfl)))))))))))
set_option maxRecDepth 10000 in
theorem b181_72 {d : Nat} {l0 : Option sm_V} {l1 : Option sm_V} {l2 : Option sm_V} {l3 : Option sm_V} {l4 : Option sm_V} {l5 : Option sm_V} {s0 : Int} {Z : Nat → Nat → Int} {Rf : Nat → Nat → Option Nat} {K : Nat → Nat × Nat} {n z : Nat} {Q : Option sm_V → sm_S → Prop} : sm_wp d 181 72 [l0, l1, l2, l3, l4, l5] [.inl s0] (Z, Rf, K, n, z) Q = (if wr s0 = 0 then sm_wp d 181 75 [l0, l1, l2, l3, l4, l5] [] (Z, Rf, K, n, z) Q else sm_wp d 181 78 [l0, l1, l2, l3, l4, l5] [] (Z, Rf, K, n, z) Q) := w_ifne t181_72 rfl rfl rfl
set_option maxRecDepth 10000 in
theorem b181_75 {d : Nat} {l0 : Option sm_V} {l1 : Option sm_V} {l2 : Option sm_V} {l3 : Option sm_V} {l4 : Option sm_V} {l5 : Option sm_V} {Z : Nat → Nat → Int} {Rf : Nat → Nat → Option Nat} {K : Nat → Nat × Nat} {n z : Nat} {Q : Option sm_V → sm_S → Prop} : sm_wp d 181 75 [l0, l1, l2, l3, l4, l5] [] (Z, Rf, K, n, z) Q = (sm_wp d 181 105 [l0, l1, l2, l3, l4, l5] [] (Z, Rf, K, n, z) Q) := w_goto t181_75 rfl
set_option maxRecDepth 10000 in
theorem b181_78 {d : Nat} {r0 : Nat} {l1 : Option sm_V} {l2 : Option sm_V} {l3 : Option sm_V} {x4 : Int} {x5 : Int} {Z : Nat → Nat → Int} {Rf : Nat → Nat → Option Nat} {K : Nat → Nat × Nat} {n z : Nat} {Q : Option sm_V → sm_S → Prop} : sm_wp d 181 78 [some (.inr (some r0)), l1, l2, l3, some (.inl x4), some (.inl x5)] [] (Z, Rf, K, n, z) Q = ((K r0).1 = 11 ∧ (Rf r0 0).isSome = true ∧ sm_wt (K (((Rf r0 0).getD 0))) (wr (850 + x5)) ∧ (K r0).1 = 11 ∧ (Rf r0 0).isSome = true ∧ sm_wt (K (((Rf r0 0).getD 0))) (wr (1092 + x5)) ∧ sm_wp d 181 105 [some (.inr (some r0)), l1, l2, l3, some (.inl (x4 + 1)), some (.inl x5)] [] (sm_u (sm_u Z (((Rf r0 0).getD 0)) ((wr (850 + x5)).toNat) ((-1))) (((Rf r0 0).getD 0)) ((wr (1092 + x5)).toNat) ((-1)), Rf, K, n, z) Q) := (w_aload_n t181_78 rfl rfl).trans ((w_getR t181_79 rfl (by decide)).trans (congrArg (And _) (congrArg (And _) ((w_sipush t181_82 rfl).trans ((w_iload t181_85 rfl rfl).trans ((w_iadd t181_87 rfl).trans ((w_iconst t181_88 rfl).trans ((w_iast t181_89 rfl rfl).trans (congrArg (And _) ((w_aload_n t181_90 rfl rfl).trans ((w_getR t181_91 rfl (by decide)).trans (congrArg (And _) (congrArg (And _) ((w_sipush t181_94 rfl).trans ((w_iload t181_97 rfl rfl).trans ((w_iadd t181_99 rfl).trans ((w_iconst t181_100 rfl).trans ((w_iast t181_101 rfl rfl).trans (congrArg (And _) (w_iinc t181_102 rfl rfl (Nat.le_of_ble_eq_true rfl) rfl))))))))))))))))))))
set_option maxRecDepth 10000 in
theorem b181_105 {d : Nat} {l0 : Option sm_V} {l1 : Option sm_V} {l2 : Option sm_V} {l3 : Option sm_V} {l4 : Option sm_V} {x5 : Int} {Z : Nat → Nat → Int} {Rf : Nat → Nat → Option Nat} {K : Nat → Nat × Nat} {n z : Nat} {Q : Option sm_V → sm_S → Prop} : sm_wp d 181 105 [l0, l1, l2, l3, l4, some (.inl x5)] [] (Z, Rf, K, n, z) Q = (sm_wp d 181 33 [l0, l1, l2, l3, l4, some (.inl (x5 + 1))] [] (Z, Rf, K, n, z) Q) := (w_iinc t181_105 rfl rfl (Nat.le_of_ble_eq_true rfl) rfl).trans (w_goto t181_108 rfl)
set_option maxRecDepth 10000 in
theorem b181_111 {d : Nat} {l0 : Option sm_V} {l1 : Option sm_V} {l2 : Option sm_V} {l3 : Option sm_V} {x4 : Int} {l5 : Option sm_V} {Z : Nat → Nat → Int} {Rf : Nat → Nat → Option Nat} {K : Nat → Nat × Nat} {n z : Nat} {Q : Option sm_V → sm_S → Prop} : sm_wp d 181 111 [l0, l1, l2, l3, some (.inl x4), l5] [] (Z, Rf, K, n, z) Q = (Q (some (.inl x4)) (Z, Rf, K, n, z)) := (w_iload t181_111 rfl rfl).trans (w_iret t181_113)
theorem t182_0 : sm_at 182 0 = some (1, .iconst 0, 0, 0, 0) := rfl
theorem t182_1 : sm_at 182 1 = some (1, .istore_n 1, 0, 0, 0) := rfl
theorem t182_2 : sm_at 182 2 = some (1, .iload_n 1, 0, 0, 0) := rfl
theorem t182_3 : sm_at 182 3 = some (3, .sipush 1340, 0, 0, 0) := rfl
theorem t182_6 : sm_at 182 6 = some (3, .if_icmp .ge 21, 0, 0, 0) := rfl
theorem t182_9 : sm_at 182 9 = some (1, .aload_n 0, 0, 0, 0) := rfl
theorem t182_10 : sm_at 182 10 = some (3, .getfield 16, 11, 2, 0) := rfl
theorem t182_13 : sm_at 182 13 = some (1, .iload_n 1, 0, 0, 0) := rfl
theorem t182_14 : sm_at 182 14 = some (1, .aload_n 0, 0, 0, 0) := rfl
theorem t182_15 : sm_at 182 15 = some (3, .getfield 7, 11, 0, 0) := rfl
theorem t182_18 : sm_at 182 18 = some (1, .iload_n 1, 0, 0, 0) := rfl
theorem t182_19 : sm_at 182 19 = some (1, .iaload, 0, 0, 0) := rfl
theorem t182_20 : sm_at 182 20 = some (1, .iastore, 0, 0, 0) := rfl
theorem t182_21 : sm_at 182 21 = some (3, .iinc 1 1, 0, 0, 0) := rfl
theorem t182_24 : sm_at 182 24 = some (3, .goto (-22), 0, 0, 0) := rfl
theorem t182_27 : sm_at 182 27 = some (1, .aload_n 0, 0, 0, 0) := rfl
theorem t182_28 : sm_at 182 28 = some (1, .iconst 1, 0, 0, 0) := rfl
theorem t182_29 : sm_at 182 29 = some (3, .putfield 254, 11, 6, 0) := rfl
theorem t182_32 : sm_at 182 32 = some (1, .return_, 0, 0, 0) := rfl
set_option maxRecDepth 10000 in
theorem b182_0 {d : Nat} {l0 : Option sm_V} {l1 : Option sm_V} {Z : Nat → Nat → Int} {Rf : Nat → Nat → Option Nat} {K : Nat → Nat × Nat} {n z : Nat} {Q : Option sm_V → sm_S → Prop} : sm_wp d 182 0 [l0, l1] [] (Z, Rf, K, n, z) Q = (sm_wp d 182 2 [l0, some (.inl 0)] [] (Z, Rf, K, n, z) Q) := (w_iconst t182_0 rfl).trans (w_istore_n t182_1 rfl (Nat.le_of_ble_eq_true rfl) rfl)
set_option maxRecDepth 10000 in
theorem b182_2 {d : Nat} {l0 : Option sm_V} {x1 : Int} {Z : Nat → Nat → Int} {Rf : Nat → Nat → Option Nat} {K : Nat → Nat × Nat} {n z : Nat} {Q : Option sm_V → sm_S → Prop} : sm_wp d 182 2 [l0, some (.inl x1)] [] (Z, Rf, K, n, z) Q = (if (1340 : Int) ≤ wr x1 then sm_wp d 182 27 [l0, some (.inl x1)] [] (Z, Rf, K, n, z) Q else sm_wp d 182 9 [l0, some (.inl x1)] [] (Z, Rf, K, n, z) Q) := (w_iload_n t182_2 rfl rfl).trans ((w_sipush t182_3 rfl).trans (w_icge t182_6 rfl wl_1340 rfl rfl))
set_option maxRecDepth 10000 in
theorem b182_9 {d : Nat} {r0 : Nat} {x1 : Int} {Z : Nat → Nat → Int} {Rf : Nat → Nat → Option Nat} {K : Nat → Nat × Nat} {n z : Nat} {Q : Option sm_V → sm_S → Prop} : sm_wp d 182 9 [some (.inr (some r0)), some (.inl x1)] [] (Z, Rf, K, n, z) Q = ((K r0).1 = 11 ∧ (Rf r0 2).isSome = true ∧ (K r0).1 = 11 ∧ (Rf r0 0).isSome = true ∧ sm_rd (K (((Rf r0 0).getD 0))) (wr x1) ∧ sm_wt (K (((Rf r0 2).getD 0))) (wr x1) ∧ sm_wp d 182 2 [some (.inr (some r0)), some (.inl (x1 + 1))] [] (sm_u Z (((Rf r0 2).getD 0)) ((wr x1).toNat) (Z (((Rf r0 0).getD 0)) ((wr x1).toNat)), Rf, K, n, z) Q) := (w_aload_n t182_9 rfl rfl).trans ((w_getR t182_10 rfl (by decide)).trans (congrArg (And _) (congrArg (And _) ((w_iload_n t182_13 rfl rfl).trans ((w_aload_n t182_14 rfl rfl).trans ((w_getR t182_15 rfl (by decide)).trans (congrArg (And _) (congrArg (And _) ((w_iload_n t182_18 rfl rfl).trans ((w_iald t182_19 rfl rfl).trans (congrArg (And _) ((w_iast t182_20 rfl rfl).trans (congrArg (And _) ((w_iinc t182_21 rfl rfl (Nat.le_of_ble_eq_true rfl) rfl).trans (w_goto t182_24 rfl)))))))))))))))
set_option maxRecDepth 10000 in
theorem b182_27 {d : Nat} {r0 : Nat} {l1 : Option sm_V} {Z : Nat → Nat → Int} {Rf : Nat → Nat → Option Nat} {K : Nat → Nat × Nat} {n z : Nat} {Q : Option sm_V → sm_S → Prop} : sm_wp d 182 27 [some (.inr (some r0)), l1] [] (Z, Rf, K, n, z) Q = ((K r0).1 = 11 ∧ ((1 : Int) = 0 ∨ (1 : Int) = 1) ∧ Q none (sm_u Z r0 6 1, Rf, K, n, z)) := (w_aload_n t182_27 rfl rfl).trans ((w_iconst t182_28 rfl).trans ((w_putB t182_29 rfl (by decide) wl_1).trans (congrArg (And _) (congrArg (And _) (w_vret t182_32)))))
theorem t183_0 : sm_at 183 0 = some (1, .iconst 0, 0, 0, 0) := rfl
theorem t183_1 : sm_at 183 1 = some (1, .istore_n 1, 0, 0, 0) := rfl
theorem t183_2 : sm_at 183 2 = some (1, .iload_n 1, 0, 0, 0) := rfl
theorem t183_3 : sm_at 183 3 = some (3, .sipush 1340, 0, 0, 0) := rfl
theorem t183_6 : sm_at 183 6 = some (3, .if_icmp .ge 21, 0, 0, 0) := rfl
theorem t183_9 : sm_at 183 9 = some (1, .aload_n 0, 0, 0, 0) := rfl
theorem t183_10 : sm_at 183 10 = some (3, .getfield 7, 11, 0, 0) := rfl
theorem t183_13 : sm_at 183 13 = some (1, .iload_n 1, 0, 0, 0) := rfl
theorem t183_14 : sm_at 183 14 = some (1, .aload_n 0, 0, 0, 0) := rfl
theorem t183_15 : sm_at 183 15 = some (3, .getfield 16, 11, 2, 0) := rfl
theorem t183_18 : sm_at 183 18 = some (1, .iload_n 1, 0, 0, 0) := rfl
theorem t183_19 : sm_at 183 19 = some (1, .iaload, 0, 0, 0) := rfl
theorem t183_20 : sm_at 183 20 = some (1, .iastore, 0, 0, 0) := rfl
theorem t183_21 : sm_at 183 21 = some (3, .iinc 1 1, 0, 0, 0) := rfl
theorem t183_24 : sm_at 183 24 = some (3, .goto (-22), 0, 0, 0) := rfl
theorem t183_27 : sm_at 183 27 = some (1, .aload_n 0, 0, 0, 0) := rfl
theorem t183_28 : sm_at 183 28 = some (1, .iconst 0, 0, 0, 0) := rfl
theorem t183_29 : sm_at 183 29 = some (3, .putfield 254, 11, 6, 0) := rfl
theorem t183_32 : sm_at 183 32 = some (1, .return_, 0, 0, 0) := rfl
set_option maxRecDepth 10000 in
theorem b183_0 {d : Nat} {l0 : Option sm_V} {l1 : Option sm_V} {Z : Nat → Nat → Int} {Rf : Nat → Nat → Option Nat} {K : Nat → Nat × Nat} {n z : Nat} {Q : Option sm_V → sm_S → Prop} : sm_wp d 183 0 [l0, l1] [] (Z, Rf, K, n, z) Q = (sm_wp d 183 2 [l0, some (.inl 0)] [] (Z, Rf, K, n, z) Q) := (w_iconst t183_0 rfl).trans (w_istore_n t183_1 rfl (Nat.le_of_ble_eq_true rfl) rfl)
set_option maxRecDepth 10000 in
theorem b183_2 {d : Nat} {l0 : Option sm_V} {x1 : Int} {Z : Nat → Nat → Int} {Rf : Nat → Nat → Option Nat} {K : Nat → Nat × Nat} {n z : Nat} {Q : Option sm_V → sm_S → Prop} : sm_wp d 183 2 [l0, some (.inl x1)] [] (Z, Rf, K, n, z) Q = (if (1340 : Int) ≤ wr x1 then sm_wp d 183 27 [l0, some (.inl x1)] [] (Z, Rf, K, n, z) Q else sm_wp d 183 9 [l0, some (.inl x1)] [] (Z, Rf, K, n, z) Q) := (w_iload_n t183_2 rfl rfl).trans ((w_sipush t183_3 rfl).trans (w_icge t183_6 rfl wl_1340 rfl rfl))
set_option maxRecDepth 10000 in
theorem b183_9 {d : Nat} {r0 : Nat} {x1 : Int} {Z : Nat → Nat → Int} {Rf : Nat → Nat → Option Nat} {K : Nat → Nat × Nat} {n z : Nat} {Q : Option sm_V → sm_S → Prop} : sm_wp d 183 9 [some (.inr (some r0)), some (.inl x1)] [] (Z, Rf, K, n, z) Q = ((K r0).1 = 11 ∧ (Rf r0 0).isSome = true ∧ (K r0).1 = 11 ∧ (Rf r0 2).isSome = true ∧ sm_rd (K (((Rf r0 2).getD 0))) (wr x1) ∧ sm_wt (K (((Rf r0 0).getD 0))) (wr x1) ∧ sm_wp d 183 2 [some (.inr (some r0)), some (.inl (x1 + 1))] [] (sm_u Z (((Rf r0 0).getD 0)) ((wr x1).toNat) (Z (((Rf r0 2).getD 0)) ((wr x1).toNat)), Rf, K, n, z) Q) := (w_aload_n t183_9 rfl rfl).trans ((w_getR t183_10 rfl (by decide)).trans (congrArg (And _) (congrArg (And _) ((w_iload_n t183_13 rfl rfl).trans ((w_aload_n t183_14 rfl rfl).trans ((w_getR t183_15 rfl (by decide)).trans (congrArg (And _) (congrArg (And _) ((w_iload_n t183_18 rfl rfl).trans ((w_iald t183_19 rfl rfl).trans (congrArg (And _) ((w_iast t183_20 rfl rfl).trans (congrArg (And _) ((w_iinc t183_21 rfl rfl (Nat.le_of_ble_eq_true rfl) rfl).trans (w_goto t183_24 rfl)))))))))))))))
set_option maxRecDepth 10000 in
theorem b183_27 {d : Nat} {r0 : Nat} {l1 : Option sm_V} {Z : Nat → Nat → Int} {Rf : Nat → Nat → Option Nat} {K : Nat → Nat × Nat} {n z : Nat} {Q : Option sm_V → sm_S → Prop} : sm_wp d 183 27 [some (.inr (some r0)), l1] [] (Z, Rf, K, n, z) Q = ((K r0).1 = 11 ∧ ((0 : Int) = 0 ∨ (0 : Int) = 1) ∧ Q none (sm_u Z r0 6 0, Rf, K, n, z)) := (w_aload_n t183_27 rfl rfl).trans ((w_iconst t183_28 rfl).trans ((w_putB t183_29 rfl (by decide) wl_0).trans (congrArg (And _) (congrArg (And _) (w_vret t183_32)))))
theorem t184_0 : sm_at 184 0 = some (1, .iload_n 1, 0, 0, 0) := rfl
theorem t184_1 : sm_at 184 1 = some (1, .iconst 0, 0, 0, 0) := rfl
theorem t184_2 : sm_at 184 2 = some (1, .aload_n 0, 0, 0, 0) := rfl
theorem t184_3 : sm_at 184 3 = some (3, .getfield 7, 11, 0, 0) := rfl
theorem t184_6 : sm_at 184 6 = some (1, .iconst 4, 0, 0, 0) := rfl
theorem t184_7 : sm_at 184 7 = some (1, .iaload, 0, 0, 0) := rfl
theorem t184_8 : sm_at 184 8 = some (1, .iconst 1, 0, 0, 0) := rfl
theorem t184_9 : sm_at 184 9 = some (1, .isub, 0, 0, 0) := rfl
theorem t184_10 : sm_at 184 10 = some (3, .invokestatic 75, 120, 3, 0) := rfl
theorem t184_13 : sm_at 184 13 = some (3, .ifCond .eq 12, 0, 0, 0) := rfl
theorem t184_16 : sm_at 184 16 = some (1, .iload_n 2, 0, 0, 0) := rfl
theorem t184_17 : sm_at 184 17 = some (1, .iconst 0, 0, 0, 0) := rfl
theorem t184_18 : sm_at 184 18 = some (1, .iconst 3, 0, 0, 0) := rfl
theorem t184_19 : sm_at 184 19 = some (3, .invokestatic 75, 120, 3, 0) := rfl
theorem t184_22 : sm_at 184 22 = some (3, .ifCond .ne 5, 0, 0, 0) := rfl
theorem t184_25 : sm_at 184 25 = some (1, .iconst (-1), 0, 0, 0) := rfl
theorem t184_26 : sm_at 184 26 = some (1, .ireturn, 0, 0, 0) := rfl
theorem t184_27 : sm_at 184 27 = some (1, .aload_n 0, 0, 0, 0) := rfl
theorem t184_28 : sm_at 184 28 = some (3, .invokevirtual 302, 182, 1, 0) := rfl
theorem t184_31 : sm_at 184 31 = some (1, .aload_n 0, 0, 0, 0) := rfl
theorem t184_32 : sm_at 184 32 = some (3, .invokevirtual 287, 171, 1, 0) := rfl
theorem t184_35 : sm_at 184 35 = some (1, .aload_n 0, 0, 0, 0) := rfl
theorem t184_36 : sm_at 184 36 = some (3, .invokevirtual 305, 183, 1, 0) := rfl
theorem t184_39 : sm_at 184 39 = some (1, .iload_n 2, 0, 0, 0) := rfl
theorem t184_40 : sm_at 184 40 = some (3, .ifCond .ne 12, 0, 0, 0) := rfl
theorem t184_43 : sm_at 184 43 = some (1, .aload_n 0, 0, 0, 0) := rfl
theorem t184_44 : sm_at 184 44 = some (3, .getfield 41, 11, 24, 0) := rfl
theorem t184_47 : sm_at 184 47 = some (1, .iload_n 1, 0, 0, 0) := rfl
theorem t184_48 : sm_at 184 48 = some (1, .iaload, 0, 0, 0) := rfl
theorem t184_49 : sm_at 184 49 = some (3, .goto 37, 0, 0, 0) := rfl
theorem t184_52 : sm_at 184 52 = some (1, .iload_n 2, 0, 0, 0) := rfl
theorem t184_53 : sm_at 184 53 = some (1, .iconst 1, 0, 0, 0) := rfl
theorem t184_54 : sm_at 184 54 = some (3, .if_icmp .ne 12, 0, 0, 0) := rfl
theorem t184_57 : sm_at 184 57 = some (1, .aload_n 0, 0, 0, 0) := rfl
theorem t184_58 : sm_at 184 58 = some (3, .getfield 44, 11, 25, 0) := rfl
theorem t184_61 : sm_at 184 61 = some (1, .iload_n 1, 0, 0, 0) := rfl
theorem t184_62 : sm_at 184 62 = some (1, .iaload, 0, 0, 0) := rfl
theorem t184_63 : sm_at 184 63 = some (3, .goto 23, 0, 0, 0) := rfl
theorem t184_66 : sm_at 184 66 = some (1, .iload_n 2, 0, 0, 0) := rfl
theorem t184_67 : sm_at 184 67 = some (1, .iconst 2, 0, 0, 0) := rfl
theorem t184_68 : sm_at 184 68 = some (3, .if_icmp .ne 12, 0, 0, 0) := rfl
theorem t184_71 : sm_at 184 71 = some (1, .aload_n 0, 0, 0, 0) := rfl
theorem t184_72 : sm_at 184 72 = some (3, .getfield 47, 11, 26, 0) := rfl
theorem t184_75 : sm_at 184 75 = some (1, .iload_n 1, 0, 0, 0) := rfl
theorem t184_76 : sm_at 184 76 = some (1, .iaload, 0, 0, 0) := rfl
theorem t184_77 : sm_at 184 77 = some (3, .goto 9, 0, 0, 0) := rfl
theorem t184_80 : sm_at 184 80 = some (1, .aload_n 0, 0, 0, 0) := rfl
theorem t184_81 : sm_at 184 81 = some (3, .getfield 50, 11, 27, 0) := rfl
theorem t184_84 : sm_at 184 84 = some (1, .iload_n 1, 0, 0, 0) := rfl
theorem t184_85 : sm_at 184 85 = some (1, .iaload, 0, 0, 0) := rfl
theorem t184_86 : sm_at 184 86 = some (1, .ireturn, 0, 0, 0) := rfl
set_option maxRecDepth 10000 in
theorem b184_0 {d : Nat} {r0 : Nat} {x1 : Int} {l2 : Option sm_V} {Z : Nat → Nat → Int} {Rf : Nat → Nat → Option Nat} {K : Nat → Nat × Nat} {n z : Nat} {Q : Option sm_V → sm_S → Prop} : sm_wp (d + 1) 184 0 [some (.inr (some r0)), some (.inl x1), l2] [] (Z, Rf, K, n, z) Q = ((K r0).1 = 11 ∧ (Rf r0 0).isSome = true ∧ sm_rd (K (((Rf r0 0).getD 0))) ((4 : Int)) ∧ sm_call d 120 [.inl x1, .inl 0, .inl ((Z (((Rf r0 0).getD 0)) 4) - 1)] (Z, Rf, K, n, z) (sm_cont (d + 1) 184 13 [some (.inr (some r0)), some (.inl x1), l2] [] Q)) := (w_iload_n t184_0 rfl rfl).trans ((w_iconst t184_1 rfl).trans ((w_aload_n t184_2 rfl rfl).trans ((w_getR t184_3 rfl (by decide)).trans (congrArg (And _) (congrArg (And _) ((w_iconst t184_6 rfl).trans ((w_iald t184_7 rfl wl_4).trans (congrArg (And _) ((w_iconst t184_8 rfl).trans ((w_isub t184_9 rfl).trans (w_callS t184_10 rfl rfl rfl rfl (Nat.le_of_ble_eq_true rfl) (Nat.le_of_ble_eq_true rfl) rfl)))))))))))
set_option maxRecDepth 10000 in
theorem b184_13 {d : Nat} {l0 : Option sm_V} {l1 : Option sm_V} {l2 : Option sm_V} {s0 : Int} {Z : Nat → Nat → Int} {Rf : Nat → Nat → Option Nat} {K : Nat → Nat × Nat} {n z : Nat} {Q : Option sm_V → sm_S → Prop} : sm_wp d 184 13 [l0, l1, l2] [.inl s0] (Z, Rf, K, n, z) Q = (if wr s0 = 0 then sm_wp d 184 25 [l0, l1, l2] [] (Z, Rf, K, n, z) Q else sm_wp d 184 16 [l0, l1, l2] [] (Z, Rf, K, n, z) Q) := w_ifeq t184_13 rfl rfl rfl
set_option maxRecDepth 10000 in
theorem b184_16 {d : Nat} {l0 : Option sm_V} {l1 : Option sm_V} {x2 : Int} {Z : Nat → Nat → Int} {Rf : Nat → Nat → Option Nat} {K : Nat → Nat × Nat} {n z : Nat} {Q : Option sm_V → sm_S → Prop} : sm_wp (d + 1) 184 16 [l0, l1, some (.inl x2)] [] (Z, Rf, K, n, z) Q = (sm_call d 120 [.inl x2, .inl 0, .inl 3] (Z, Rf, K, n, z) (sm_cont (d + 1) 184 22 [l0, l1, some (.inl x2)] [] Q)) := (w_iload_n t184_16 rfl rfl).trans ((w_iconst t184_17 rfl).trans ((w_iconst t184_18 rfl).trans (w_callS t184_19 rfl rfl rfl rfl (Nat.le_of_ble_eq_true rfl) (Nat.le_of_ble_eq_true rfl) rfl)))
set_option maxRecDepth 10000 in
theorem b184_22 {d : Nat} {l0 : Option sm_V} {l1 : Option sm_V} {l2 : Option sm_V} {s0 : Int} {Z : Nat → Nat → Int} {Rf : Nat → Nat → Option Nat} {K : Nat → Nat × Nat} {n z : Nat} {Q : Option sm_V → sm_S → Prop} : sm_wp d 184 22 [l0, l1, l2] [.inl s0] (Z, Rf, K, n, z) Q = (if wr s0 = 0 then sm_wp d 184 25 [l0, l1, l2] [] (Z, Rf, K, n, z) Q else sm_wp d 184 27 [l0, l1, l2] [] (Z, Rf, K, n, z) Q) := w_ifne t184_22 rfl rfl rfl
set_option maxRecDepth 10000 in
theorem b184_25 {d : Nat} {l0 : Option sm_V} {l1 : Option sm_V} {l2 : Option sm_V} {Z : Nat → Nat → Int} {Rf : Nat → Nat → Option Nat} {K : Nat → Nat × Nat} {n z : Nat} {Q : Option sm_V → sm_S → Prop} : sm_wp d 184 25 [l0, l1, l2] [] (Z, Rf, K, n, z) Q = (Q (some (.inl ((-1)))) (Z, Rf, K, n, z)) := (w_iconst t184_25 rfl).trans (w_iret t184_26)
set_option maxRecDepth 10000 in
theorem b184_27 {d : Nat} {r0 : Nat} {l1 : Option sm_V} {l2 : Option sm_V} {Z : Nat → Nat → Int} {Rf : Nat → Nat → Option Nat} {K : Nat → Nat × Nat} {n z : Nat} {Q : Option sm_V → sm_S → Prop} : sm_wp (d + 1) 184 27 [some (.inr (some r0)), l1, l2] [] (Z, Rf, K, n, z) Q = ((K r0).1 = 11 ∧ sm_call d 182 [.inr (some r0)] (Z, Rf, K, n, z) (sm_cont (d + 1) 184 31 [some (.inr (some r0)), l1, l2] [] Q)) := (w_aload_n t184_27 rfl rfl).trans (w_callV t184_28 rfl rfl rfl rfl (Nat.le_of_ble_eq_true rfl) (Nat.le_of_ble_eq_true rfl) rfl (by decide))
set_option maxRecDepth 10000 in
theorem b184_31 {d : Nat} {r0 : Nat} {l1 : Option sm_V} {l2 : Option sm_V} {Z : Nat → Nat → Int} {Rf : Nat → Nat → Option Nat} {K : Nat → Nat × Nat} {n z : Nat} {Q : Option sm_V → sm_S → Prop} : sm_wp (d + 1) 184 31 [some (.inr (some r0)), l1, l2] [] (Z, Rf, K, n, z) Q = ((K r0).1 = 11 ∧ sm_call d 171 [.inr (some r0)] (Z, Rf, K, n, z) (sm_cont (d + 1) 184 35 [some (.inr (some r0)), l1, l2] [] Q)) := (w_aload_n t184_31 rfl rfl).trans (w_callV t184_32 rfl rfl rfl rfl (Nat.le_of_ble_eq_true rfl) (Nat.le_of_ble_eq_true rfl) rfl (by decide))
set_option maxRecDepth 10000 in
theorem b184_35 {d : Nat} {r0 : Nat} {l1 : Option sm_V} {l2 : Option sm_V} {Z : Nat → Nat → Int} {Rf : Nat → Nat → Option Nat} {K : Nat → Nat × Nat} {n z : Nat} {Q : Option sm_V → sm_S → Prop} : sm_wp (d + 1) 184 35 [some (.inr (some r0)), l1, l2] [] (Z, Rf, K, n, z) Q = ((K r0).1 = 11 ∧ sm_call d 183 [.inr (some r0)] (Z, Rf, K, n, z) (sm_cont (d + 1) 184 39 [some (.inr (some r0)), l1, l2] [] Q)) := (w_aload_n t184_35 rfl rfl).trans (w_callV t184_36 rfl rfl rfl rfl (Nat.le_of_ble_eq_true rfl) (Nat.le_of_ble_eq_true rfl) rfl (by decide))
set_option maxRecDepth 10000 in
theorem b184_39 {d : Nat} {l0 : Option sm_V} {l1 : Option sm_V} {x2 : Int} {Z : Nat → Nat → Int} {Rf : Nat → Nat → Option Nat} {K : Nat → Nat × Nat} {n z : Nat} {Q : Option sm_V → sm_S → Prop} : sm_wp d 184 39 [l0, l1, some (.inl x2)] [] (Z, Rf, K, n, z) Q = (if wr x2 = 0 then sm_wp d 184 43 [l0, l1, some (.inl x2)] [] (Z, Rf, K, n, z) Q else sm_wp d 184 52 [l0, l1, some (.inl x2)] [] (Z, Rf, K, n, z) Q) := (w_iload_n t184_39 rfl rfl).trans (w_ifne t184_40 rfl rfl rfl)
set_option maxRecDepth 10000 in
theorem b184_43 {d : Nat} {r0 : Nat} {x1 : Int} {l2 : Option sm_V} {Z : Nat → Nat → Int} {Rf : Nat → Nat → Option Nat} {K : Nat → Nat × Nat} {n z : Nat} {Q : Option sm_V → sm_S → Prop} : sm_wp d 184 43 [some (.inr (some r0)), some (.inl x1), l2] [] (Z, Rf, K, n, z) Q = ((K r0).1 = 11 ∧ (Rf r0 24).isSome = true ∧ sm_rd (K (((Rf r0 24).getD 0))) (wr x1) ∧ sm_wp d 184 86 [some (.inr (some r0)), some (.inl x1), l2] [.inl (Z (((Rf r0 24).getD 0)) ((wr x1).toNat))] (Z, Rf, K, n, z) Q) := (w_aload_n t184_43 rfl rfl).trans ((w_getR t184_44 rfl (by decide)).trans (congrArg (And _) (congrArg (And _) ((w_iload_n t184_47 rfl rfl).trans ((w_iald t184_48 rfl rfl).trans (congrArg (And _) (w_goto t184_49 rfl)))))))
set_option maxRecDepth 10000 in
theorem b184_52 {d : Nat} {l0 : Option sm_V} {l1 : Option sm_V} {x2 : Int} {Z : Nat → Nat → Int} {Rf : Nat → Nat → Option Nat} {K : Nat → Nat × Nat} {n z : Nat} {Q : Option sm_V → sm_S → Prop} : sm_wp d 184 52 [l0, l1, some (.inl x2)] [] (Z, Rf, K, n, z) Q = (if wr x2 = (1 : Int) then sm_wp d 184 57 [l0, l1, some (.inl x2)] [] (Z, Rf, K, n, z) Q else sm_wp d 184 66 [l0, l1, some (.inl x2)] [] (Z, Rf, K, n, z) Q) := (w_iload_n t184_52 rfl rfl).trans ((w_iconst t184_53 rfl).trans (w_icne t184_54 rfl wl_1 rfl rfl))
set_option maxRecDepth 10000 in
theorem b184_57 {d : Nat} {r0 : Nat} {x1 : Int} {l2 : Option sm_V} {Z : Nat → Nat → Int} {Rf : Nat → Nat → Option Nat} {K : Nat → Nat × Nat} {n z : Nat} {Q : Option sm_V → sm_S → Prop} : sm_wp d 184 57 [some (.inr (some r0)), some (.inl x1), l2] [] (Z, Rf, K, n, z) Q = ((K r0).1 = 11 ∧ (Rf r0 25).isSome = true ∧ sm_rd (K (((Rf r0 25).getD 0))) (wr x1) ∧ sm_wp d 184 86 [some (.inr (some r0)), some (.inl x1), l2] [.inl (Z (((Rf r0 25).getD 0)) ((wr x1).toNat))] (Z, Rf, K, n, z) Q) := (w_aload_n t184_57 rfl rfl).trans ((w_getR t184_58 rfl (by decide)).trans (congrArg (And _) (congrArg (And _) ((w_iload_n t184_61 rfl rfl).trans ((w_iald t184_62 rfl rfl).trans (congrArg (And _) (w_goto t184_63 rfl)))))))
set_option maxRecDepth 10000 in
theorem b184_66 {d : Nat} {l0 : Option sm_V} {l1 : Option sm_V} {x2 : Int} {Z : Nat → Nat → Int} {Rf : Nat → Nat → Option Nat} {K : Nat → Nat × Nat} {n z : Nat} {Q : Option sm_V → sm_S → Prop} : sm_wp d 184 66 [l0, l1, some (.inl x2)] [] (Z, Rf, K, n, z) Q = (if wr x2 = (2 : Int) then sm_wp d 184 71 [l0, l1, some (.inl x2)] [] (Z, Rf, K, n, z) Q else sm_wp d 184 80 [l0, l1, some (.inl x2)] [] (Z, Rf, K, n, z) Q) := (w_iload_n t184_66 rfl rfl).trans ((w_iconst t184_67 rfl).trans (w_icne t184_68 rfl wl_2 rfl rfl))
set_option maxRecDepth 10000 in
theorem b184_71 {d : Nat} {r0 : Nat} {x1 : Int} {l2 : Option sm_V} {Z : Nat → Nat → Int} {Rf : Nat → Nat → Option Nat} {K : Nat → Nat × Nat} {n z : Nat} {Q : Option sm_V → sm_S → Prop} : sm_wp d 184 71 [some (.inr (some r0)), some (.inl x1), l2] [] (Z, Rf, K, n, z) Q = ((K r0).1 = 11 ∧ (Rf r0 26).isSome = true ∧ sm_rd (K (((Rf r0 26).getD 0))) (wr x1) ∧ sm_wp d 184 86 [some (.inr (some r0)), some (.inl x1), l2] [.inl (Z (((Rf r0 26).getD 0)) ((wr x1).toNat))] (Z, Rf, K, n, z) Q) := (w_aload_n t184_71 rfl rfl).trans ((w_getR t184_72 rfl (by decide)).trans (congrArg (And _) (congrArg (And _) ((w_iload_n t184_75 rfl rfl).trans ((w_iald t184_76 rfl rfl).trans (congrArg (And _) (w_goto t184_77 rfl)))))))
set_option maxRecDepth 10000 in
theorem b184_80 {d : Nat} {r0 : Nat} {x1 : Int} {l2 : Option sm_V} {Z : Nat → Nat → Int} {Rf : Nat → Nat → Option Nat} {K : Nat → Nat × Nat} {n z : Nat} {Q : Option sm_V → sm_S → Prop} : sm_wp d 184 80 [some (.inr (some r0)), some (.inl x1), l2] [] (Z, Rf, K, n, z) Q = ((K r0).1 = 11 ∧ (Rf r0 27).isSome = true ∧ sm_rd (K (((Rf r0 27).getD 0))) (wr x1) ∧ sm_wp d 184 86 [some (.inr (some r0)), some (.inl x1), l2] [.inl (Z (((Rf r0 27).getD 0)) ((wr x1).toNat))] (Z, Rf, K, n, z) Q) := (w_aload_n t184_80 rfl rfl).trans ((w_getR t184_81 rfl (by decide)).trans (congrArg (And _) (congrArg (And _) ((w_iload_n t184_84 rfl rfl).trans ((w_iald t184_85 rfl rfl).trans (congrArg (And _) rfl))))))
set_option maxRecDepth 10000 in
theorem b184_86 {d : Nat} {l0 : Option sm_V} {l1 : Option sm_V} {l2 : Option sm_V} {s0 : Int} {Z : Nat → Nat → Int} {Rf : Nat → Nat → Option Nat} {K : Nat → Nat × Nat} {n z : Nat} {Q : Option sm_V → sm_S → Prop} : sm_wp d 184 86 [l0, l1, l2] [.inl s0] (Z, Rf, K, n, z) Q = (Q (some (.inl s0)) (Z, Rf, K, n, z)) := w_iret t184_86
theorem t185_0 : sm_at 185 0 = some (1, .iload_n 3, 0, 0, 0) := rfl
theorem t185_1 : sm_at 185 1 = some (1, .iconst (-1), 0, 0, 0) := rfl
theorem t185_2 : sm_at 185 2 = some (3, .if_icmp .ne 7, 0, 0, 0) := rfl
theorem t185_5 : sm_at 185 5 = some (1, .iconst 0, 0, 0, 0) := rfl
theorem t185_6 : sm_at 185 6 = some (3, .goto 4, 0, 0, 0) := rfl
theorem t185_9 : sm_at 185 9 = some (1, .iconst 1, 0, 0, 0) := rfl
theorem t185_10 : sm_at 185 10 = some (2, .iload 4, 0, 0, 0) := rfl
theorem t185_12 : sm_at 185 12 = some (1, .iconst (-1), 0, 0, 0) := rfl
theorem t185_13 : sm_at 185 13 = some (3, .if_icmp .ne 7, 0, 0, 0) := rfl
theorem t185_16 : sm_at 185 16 = some (1, .iconst 0, 0, 0, 0) := rfl
theorem t185_17 : sm_at 185 17 = some (3, .goto 4, 0, 0, 0) := rfl
theorem t185_20 : sm_at 185 20 = some (1, .iconst 1, 0, 0, 0) := rfl
theorem t185_21 : sm_at 185 21 = some (1, .iadd, 0, 0, 0) := rfl
theorem t185_22 : sm_at 185 22 = some (2, .istore 5, 0, 0, 0) := rfl
theorem t185_24 : sm_at 185 24 = some (1, .iload_n 3, 0, 0, 0) := rfl
theorem t185_25 : sm_at 185 25 = some (1, .iconst (-1), 0, 0, 0) := rfl
theorem t185_26 : sm_at 185 26 = some (3, .if_icmp .ne 7, 0, 0, 0) := rfl
theorem t185_29 : sm_at 185 29 = some (1, .iconst 0, 0, 0, 0) := rfl
theorem t185_30 : sm_at 185 30 = some (3, .goto 13, 0, 0, 0) := rfl
theorem t185_33 : sm_at 185 33 = some (1, .aload_n 0, 0, 0, 0) := rfl
theorem t185_34 : sm_at 185 34 = some (3, .getfield 7, 11, 0, 0) := rfl
theorem t185_37 : sm_at 185 37 = some (3, .sipush 420, 0, 0, 0) := rfl
theorem t185_40 : sm_at 185 40 = some (1, .iload_n 3, 0, 0, 0) := rfl
theorem t185_41 : sm_at 185 41 = some (1, .iadd, 0, 0, 0) := rfl
theorem t185_42 : sm_at 185 42 = some (1, .iaload, 0, 0, 0) := rfl
theorem t185_43 : sm_at 185 43 = some (2, .iload 4, 0, 0, 0) := rfl
theorem t185_45 : sm_at 185 45 = some (1, .iconst (-1), 0, 0, 0) := rfl
theorem t185_46 : sm_at 185 46 = some (3, .if_icmp .ne 7, 0, 0, 0) := rfl
theorem t185_49 : sm_at 185 49 = some (1, .iconst 0, 0, 0, 0) := rfl
theorem t185_50 : sm_at 185 50 = some (3, .goto 14, 0, 0, 0) := rfl
theorem t185_53 : sm_at 185 53 = some (1, .aload_n 0, 0, 0, 0) := rfl
theorem t185_54 : sm_at 185 54 = some (3, .getfield 7, 11, 0, 0) := rfl
theorem t185_57 : sm_at 185 57 = some (3, .sipush 420, 0, 0, 0) := rfl
theorem t185_60 : sm_at 185 60 = some (2, .iload 4, 0, 0, 0) := rfl
theorem t185_62 : sm_at 185 62 = some (1, .iadd, 0, 0, 0) := rfl
theorem t185_63 : sm_at 185 63 = some (1, .iaload, 0, 0, 0) := rfl
theorem t185_64 : sm_at 185 64 = some (1, .iadd, 0, 0, 0) := rfl
theorem t185_65 : sm_at 185 65 = some (2, .istore 6, 0, 0, 0) := rfl
theorem t185_67 : sm_at 185 67 = some (1, .aload_n 0, 0, 0, 0) := rfl
theorem t185_68 : sm_at 185 68 = some (3, .getfield 308, 11, 31, 0) := rfl
theorem t185_71 : sm_at 185 71 = some (1, .iconst (-1), 0, 0, 0) := rfl
theorem t185_72 : sm_at 185 72 = some (3, .if_icmp .eq 31, 0, 0, 0) := rfl
theorem t185_75 : sm_at 185 75 = some (2, .iload 6, 0, 0, 0) := rfl
theorem t185_77 : sm_at 185 77 = some (1, .aload_n 0, 0, 0, 0) := rfl
theorem t185_78 : sm_at 185 78 = some (3, .getfield 308, 11, 31, 0) := rfl
theorem t185_81 : sm_at 185 81 = some (3, .if_icmp .gt 21, 0, 0, 0) := rfl
theorem t185_84 : sm_at 185 84 = some (2, .iload 6, 0, 0, 0) := rfl
theorem t185_86 : sm_at 185 86 = some (1, .aload_n 0, 0, 0, 0) := rfl
theorem t185_87 : sm_at 185 87 = some (3, .getfield 308, 11, 31, 0) := rfl
theorem t185_90 : sm_at 185 90 = some (3, .if_icmp .ne 13, 0, 0, 0) := rfl
theorem t185_93 : sm_at 185 93 = some (2, .iload 5, 0, 0, 0) := rfl
theorem t185_95 : sm_at 185 95 = some (1, .aload_n 0, 0, 0, 0) := rfl
theorem t185_96 : sm_at 185 96 = some (3, .getfield 311, 11, 32, 0) := rfl
theorem t185_99 : sm_at 185 99 = some (3, .if_icmp .lt 4, 0, 0, 0) := rfl
theorem t185_102 : sm_at 185 102 = some (1, .return_, 0, 0, 0) := rfl
theorem t185_103 : sm_at 185 103 = some (1, .aload_n 0, 0, 0, 0) := rfl
theorem t185_104 : sm_at 185 104 = some (3, .invokevirtual 302, 182, 1, 0) := rfl
theorem t185_107 : sm_at 185 107 = some (1, .iload_n 3, 0, 0, 0) := rfl
theorem t185_108 : sm_at 185 108 = some (1, .iconst (-1), 0, 0, 0) := rfl
theorem t185_109 : sm_at 185 109 = some (3, .if_icmp .eq 13, 0, 0, 0) := rfl
set_option maxRecDepth 100000 in
theorem t185_112 : sm_at 185 112 = some (1, .aload_n 0, 0, 0, 0) := rfl
set_option maxRecDepth 100000 in
theorem t185_113 : sm_at 185 113 = some (3, .getfield 7, 11, 0, 0) := rfl
set_option maxRecDepth 100000 in
theorem t185_116 : sm_at 185 116 = some (2, .bipush 120, 0, 0, 0) := rfl
set_option maxRecDepth 100000 in
theorem t185_118 : sm_at 185 118 = some (1, .iload_n 3, 0, 0, 0) := rfl
set_option maxRecDepth 100000 in
theorem t185_119 : sm_at 185 119 = some (1, .iadd, 0, 0, 0) := rfl
set_option maxRecDepth 100000 in
theorem t185_120 : sm_at 185 120 = some (1, .iconst 1, 0, 0, 0) := rfl
set_option maxRecDepth 100000 in
theorem t185_121 : sm_at 185 121 = some (1, .iastore, 0, 0, 0) := rfl
set_option maxRecDepth 100000 in
theorem t185_122 : sm_at 185 122 = some (2, .iload 4, 0, 0, 0) := rfl
set_option maxRecDepth 100000 in
theorem t185_124 : sm_at 185 124 = some (1, .iconst (-1), 0, 0, 0) := rfl
set_option maxRecDepth 100000 in
theorem t185_125 : sm_at 185 125 = some (3, .if_icmp .eq 14, 0, 0, 0) := rfl
set_option maxRecDepth 100000 in
theorem t185_128 : sm_at 185 128 = some (1, .aload_n 0, 0, 0, 0) := rfl
set_option maxRecDepth 100000 in
theorem t185_129 : sm_at 185 129 = some (3, .getfield 7, 11, 0, 0) := rfl
set_option maxRecDepth 100000 in
theorem t185_132 : sm_at 185 132 = some (2, .bipush 120, 0, 0, 0) := rfl
set_option maxRecDepth 100000 in
theorem t185_134 : sm_at 185 134 = some (2, .iload 4, 0, 0, 0) := rfl
set_option maxRecDepth 100000 in
theorem t185_136 : sm_at 185 136 = some (1, .iadd, 0, 0, 0) := rfl
set_option maxRecDepth 100000 in
theorem t185_137 : sm_at 185 137 = some (1, .iconst 1, 0, 0, 0) := rfl
set_option maxRecDepth 100000 in
theorem t185_138 : sm_at 185 138 = some (1, .iastore, 0, 0, 0) := rfl
set_option maxRecDepth 100000 in
theorem t185_139 : sm_at 185 139 = some (1, .aload_n 0, 0, 0, 0) := rfl
set_option maxRecDepth 100000 in
theorem t185_140 : sm_at 185 140 = some (3, .invokevirtual 287, 171, 1, 0) := rfl
set_option maxRecDepth 100000 in
theorem t185_143 : sm_at 185 143 = some (1, .aload_n 0, 0, 0, 0) := rfl
set_option maxRecDepth 100000 in
theorem t185_144 : sm_at 185 144 = some (3, .invokevirtual 290, 174, 1, 0) := rfl
set_option maxRecDepth 100000 in
theorem t185_147 : sm_at 185 147 = some (1, .aload_n 0, 0, 0, 0) := rfl
set_option maxRecDepth 100000 in
theorem t185_148 : sm_at 185 148 = some (3, .getfield 53, 11, 28, 0) := rfl
set_option maxRecDepth 100000 in
theorem t185_151 : sm_at 185 151 = some (1, .iload_n 1, 0, 0, 0) := rfl
set_option maxRecDepth 100000 in
theorem t185_152 : sm_at 185 152 = some (1, .iaload, 0, 0, 0) := rfl
set_option maxRecDepth 100000 in
theorem t185_153 : sm_at 185 153 = some (1, .aload_n 0, 0, 0, 0) := rfl
set_option maxRecDepth 100000 in
theorem t185_154 : sm_at 185 154 = some (3, .getfield 53, 11, 28, 0) := rfl
set_option maxRecDepth 100000 in
theorem t185_157 : sm_at 185 157 = some (1, .iload_n 2, 0, 0, 0) := rfl
set_option maxRecDepth 100000 in
theorem t185_158 : sm_at 185 158 = some (1, .iaload, 0, 0, 0) := rfl
set_option maxRecDepth 100000 in
theorem t185_159 : sm_at 185 159 = some (3, .if_icmp .ne 7, 0, 0, 0) := rfl
set_option maxRecDepth 100000 in
theorem t185_162 : sm_at 185 162 = some (1, .iconst 1, 0, 0, 0) := rfl
set_option maxRecDepth 100000 in
theorem t185_163 : sm_at 185 163 = some (3, .goto 4, 0, 0, 0) := rfl
set_option maxRecDepth 100000 in
theorem t185_166 : sm_at 185 166 = some (1, .iconst 0, 0, 0, 0) := rfl
set_option maxRecDepth 100000 in
theorem t185_167 : sm_at 185 167 = some (2, .istore 7, 0, 0, 0) := rfl
set_option maxRecDepth 100000 in
theorem t185_169 : sm_at 185 169 = some (1, .aload_n 0, 0, 0, 0) := rfl
set_option maxRecDepth 100000 in
theorem t185_170 : sm_at 185 170 = some (3, .invokevirtual 305, 183, 1, 0) := rfl
set_option maxRecDepth 100000 in
theorem t185_173 : sm_at 185 173 = some (2, .iload 7, 0, 0, 0) := rfl
set_option maxRecDepth 100000 in
theorem t185_175 : sm_at 185 175 = some (3, .ifCond .ne 4, 0, 0, 0) := rfl
set_option maxRecDepth 100000 in
theorem t185_178 : sm_at 185 178 = some (1, .return_, 0, 0, 0) := rfl
set_option maxRecDepth 100000 in
theorem t185_179 : sm_at 185 179 = some (1, .aload_n 0, 0, 0, 0) := rfl
set_option maxRecDepth 100000 in
theorem t185_180 : sm_at 185 180 = some (2, .iload 6, 0, 0, 0) := rfl
set_option maxRecDepth 100000 in
theorem t185_182 : sm_at 185 182 = some (3, .putfield 308, 11, 31, 0) := rfl
set_option maxRecDepth 100000 in
theorem t185_185 : sm_at 185 185 = some (1, .aload_n 0, 0, 0, 0) := rfl
set_option maxRecDepth 100000 in
theorem t185_186 : sm_at 185 186 = some (2, .iload 5, 0, 0, 0) := rfl
set_option maxRecDepth 100000 in
theorem t185_188 : sm_at 185 188 = some (3, .putfield 311, 11, 32, 0) := rfl
set_option maxRecDepth 100000 in
theorem t185_191 : sm_at 185 191 = some (1, .aload_n 0, 0, 0, 0) := rfl
set_option maxRecDepth 100000 in
theorem t185_192 : sm_at 185 192 = some (1, .iload_n 3, 0, 0, 0) := rfl
set_option maxRecDepth 100000 in
theorem t185_193 : sm_at 185 193 = some (3, .putfield 314, 11, 33, 0) := rfl
set_option maxRecDepth 100000 in
theorem t185_196 : sm_at 185 196 = some (1, .aload_n 0, 0, 0, 0) := rfl
set_option maxRecDepth 100000 in
theorem t185_197 : sm_at 185 197 = some (2, .iload 4, 0, 0, 0) := rfl
set_option maxRecDepth 100000 in
theorem t185_199 : sm_at 185 199 = some (3, .putfield 317, 11, 34, 0) := rfl
set_option maxRecDepth 100000 in
theorem t185_202 : sm_at 185 202 = some (1, .return_, 0, 0, 0) := rfl
set_option maxRecDepth 10000 in
theorem b185_0 {d : Nat} {l0 : Option sm_V} {l1 : Option sm_V} {l2 : Option sm_V} {x3 : Int} {l4 : Option sm_V} {l5 : Option sm_V} {l6 : Option sm_V} {l7 : Option sm_V} {Z : Nat → Nat → Int} {Rf : Nat → Nat → Option Nat} {K : Nat → Nat × Nat} {n z : Nat} {Q : Option sm_V → sm_S → Prop} : sm_wp d 185 0 [l0, l1, l2, some (.inl x3), l4, l5, l6, l7] [] (Z, Rf, K, n, z) Q = (if wr x3 = (-1 : Int) then sm_wp d 185 5 [l0, l1, l2, some (.inl x3), l4, l5, l6, l7] [] (Z, Rf, K, n, z) Q else sm_wp d 185 9 [l0, l1, l2, some (.inl x3), l4, l5, l6, l7] [] (Z, Rf, K, n, z) Q) := (w_iload_n t185_0 rfl rfl).trans ((w_iconst t185_1 rfl).trans (w_icne t185_2 rfl wl_m1 rfl rfl))
set_option maxRecDepth 10000 in
theorem b185_5 {d : Nat} {l0 : Option sm_V} {l1 : Option sm_V} {l2 : Option sm_V} {l3 : Option sm_V} {l4 : Option sm_V} {l5 : Option sm_V} {l6 : Option sm_V} {l7 : Option sm_V} {Z : Nat → Nat → Int} {Rf : Nat → Nat → Option Nat} {K : Nat → Nat × Nat} {n z : Nat} {Q : Option sm_V → sm_S → Prop} : sm_wp d 185 5 [l0, l1, l2, l3, l4, l5, l6, l7] [] (Z, Rf, K, n, z) Q = (sm_wp d 185 10 [l0, l1, l2, l3, l4, l5, l6, l7] [.inl 0] (Z, Rf, K, n, z) Q) := (w_iconst t185_5 rfl).trans (w_goto t185_6 rfl)
set_option maxRecDepth 10000 in
theorem b185_9 {d : Nat} {l0 : Option sm_V} {l1 : Option sm_V} {l2 : Option sm_V} {l3 : Option sm_V} {l4 : Option sm_V} {l5 : Option sm_V} {l6 : Option sm_V} {l7 : Option sm_V} {Z : Nat → Nat → Int} {Rf : Nat → Nat → Option Nat} {K : Nat → Nat × Nat} {n z : Nat} {Q : Option sm_V → sm_S → Prop} : sm_wp d 185 9 [l0, l1, l2, l3, l4, l5, l6, l7] [] (Z, Rf, K, n, z) Q = (sm_wp d 185 10 [l0, l1, l2, l3, l4, l5, l6, l7] [.inl 1] (Z, Rf, K, n, z) Q) := w_iconst t185_9 rfl
set_option maxRecDepth 10000 in
theorem b185_10 {d : Nat} {l0 : Option sm_V} {l1 : Option sm_V} {l2 : Option sm_V} {l3 : Option sm_V} {x4 : Int} {l5 : Option sm_V} {l6 : Option sm_V} {l7 : Option sm_V} {s0 : Int} {Z : Nat → Nat → Int} {Rf : Nat → Nat → Option Nat} {K : Nat → Nat × Nat} {n z : Nat} {Q : Option sm_V → sm_S → Prop} : sm_wp d 185 10 [l0, l1, l2, l3, some (.inl x4), l5, l6, l7] [.inl s0] (Z, Rf, K, n, z) Q = (if wr x4 = (-1 : Int) then sm_wp d 185 16 [l0, l1, l2, l3, some (.inl x4), l5, l6, l7] [.inl s0] (Z, Rf, K, n, z) Q else sm_wp d 185 20 [l0, l1, l2, l3, some (.inl x4), l5, l6, l7] [.inl s0] (Z, Rf, K, n, z) Q) := (w_iload t185_10 rfl rfl).trans ((w_iconst t185_12 rfl).trans (w_icne t185_13 rfl wl_m1 rfl rfl))
set_option maxRecDepth 10000 in
theorem b185_16 {d : Nat} {l0 : Option sm_V} {l1 : Option sm_V} {l2 : Option sm_V} {l3 : Option sm_V} {l4 : Option sm_V} {l5 : Option sm_V} {l6 : Option sm_V} {l7 : Option sm_V} {s0 : Int} {Z : Nat → Nat → Int} {Rf : Nat → Nat → Option Nat} {K : Nat → Nat × Nat} {n z : Nat} {Q : Option sm_V → sm_S → Prop} : sm_wp d 185 16 [l0, l1, l2, l3, l4, l5, l6, l7] [.inl s0] (Z, Rf, K, n, z) Q = (sm_wp d 185 21 [l0, l1, l2, l3, l4, l5, l6, l7] [.inl 0, .inl s0] (Z, Rf, K, n, z) Q) := (w_iconst t185_16 rfl).trans (w_goto t185_17 rfl)
set_option maxRecDepth 10000 in
theorem b185_20 {d : Nat} {l0 : Option sm_V} {l1 : Option sm_V} {l2 : Option sm_V} {l3 : Option sm_V} {l4 : Option sm_V} {l5 : Option sm_V} {l6 : Option sm_V} {l7 : Option sm_V} {s0 : Int} {Z : Nat → Nat → Int} {Rf : Nat → Nat → Option Nat} {K : Nat → Nat × Nat} {n z : Nat} {Q : Option sm_V → sm_S → Prop} : sm_wp d 185 20 [l0, l1, l2, l3, l4, l5, l6, l7] [.inl s0] (Z, Rf, K, n, z) Q = (sm_wp d 185 21 [l0, l1, l2, l3, l4, l5, l6, l7] [.inl 1, .inl s0] (Z, Rf, K, n, z) Q) := w_iconst t185_20 rfl
set_option maxRecDepth 10000 in
theorem b185_21 {d : Nat} {l0 : Option sm_V} {l1 : Option sm_V} {l2 : Option sm_V} {x3 : Int} {l4 : Option sm_V} {l5 : Option sm_V} {l6 : Option sm_V} {l7 : Option sm_V} {s0 : Int} {s1 : Int} {Z : Nat → Nat → Int} {Rf : Nat → Nat → Option Nat} {K : Nat → Nat × Nat} {n z : Nat} {Q : Option sm_V → sm_S → Prop} : sm_wp d 185 21 [l0, l1, l2, some (.inl x3), l4, l5, l6, l7] [.inl s1, .inl s0] (Z, Rf, K, n, z) Q = (if wr x3 = (-1 : Int) then sm_wp d 185 29 [l0, l1, l2, some (.inl x3), l4, some (.inl (s0 + s1)), l6, l7] [] (Z, Rf, K, n, z) Q else sm_wp d 185 33 [l0, l1, l2, some (.inl x3), l4, some (.inl (s0 + s1)), l6, l7] [] (Z, Rf, K, n, z) Q) := (w_iadd t185_21 rfl).trans ((w_istore t185_22 rfl (Nat.le_of_ble_eq_true rfl) rfl).trans ((w_iload_n t185_24 rfl rfl).trans ((w_iconst t185_25 rfl).trans (w_icne t185_26 rfl wl_m1 rfl rfl))))
set_option maxRecDepth 10000 in
theorem b185_29 {d : Nat} {l0 : Option sm_V} {l1 : Option sm_V} {l2 : Option sm_V} {l3 : Option sm_V} {l4 : Option sm_V} {l5 : Option sm_V} {l6 : Option sm_V} {l7 : Option sm_V} {Z : Nat → Nat → Int} {Rf : Nat → Nat → Option Nat} {K : Nat → Nat × Nat} {n z : Nat} {Q : Option sm_V → sm_S → Prop} : sm_wp d 185 29 [l0, l1, l2, l3, l4, l5, l6, l7] [] (Z, Rf, K, n, z) Q = (sm_wp d 185 43 [l0, l1, l2, l3, l4, l5, l6, l7] [.inl 0] (Z, Rf, K, n, z) Q) := (w_iconst t185_29 rfl).trans (w_goto t185_30 rfl)
set_option maxRecDepth 10000 in
theorem b185_33 {d : Nat} {r0 : Nat} {l1 : Option sm_V} {l2 : Option sm_V} {x3 : Int} {l4 : Option sm_V} {l5 : Option sm_V} {l6 : Option sm_V} {l7 : Option sm_V} {Z : Nat → Nat → Int} {Rf : Nat → Nat → Option Nat} {K : Nat → Nat × Nat} {n z : Nat} {Q : Option sm_V → sm_S → Prop} : sm_wp d 185 33 [some (.inr (some r0)), l1, l2, some (.inl x3), l4, l5, l6, l7] [] (Z, Rf, K, n, z) Q = ((K r0).1 = 11 ∧ (Rf r0 0).isSome = true ∧ sm_rd (K (((Rf r0 0).getD 0))) (wr (420 + x3)) ∧ sm_wp d 185 43 [some (.inr (some r0)), l1, l2, some (.inl x3), l4, l5, l6, l7] [.inl (Z (((Rf r0 0).getD 0)) ((wr (420 + x3)).toNat))] (Z, Rf, K, n, z) Q) := (w_aload_n t185_33 rfl rfl).trans ((w_getR t185_34 rfl (by decide)).trans (congrArg (And _) (congrArg (And _) ((w_sipush t185_37 rfl).trans ((w_iload_n t185_40 rfl rfl).trans ((w_iadd t185_41 rfl).trans ((w_iald t185_42 rfl rfl).trans (congrArg (And _) rfl))))))))
set_option maxRecDepth 10000 in
theorem b185_43 {d : Nat} {l0 : Option sm_V} {l1 : Option sm_V} {l2 : Option sm_V} {l3 : Option sm_V} {x4 : Int} {l5 : Option sm_V} {l6 : Option sm_V} {l7 : Option sm_V} {s0 : Int} {Z : Nat → Nat → Int} {Rf : Nat → Nat → Option Nat} {K : Nat → Nat × Nat} {n z : Nat} {Q : Option sm_V → sm_S → Prop} : sm_wp d 185 43 [l0, l1, l2, l3, some (.inl x4), l5, l6, l7] [.inl s0] (Z, Rf, K, n, z) Q = (if wr x4 = (-1 : Int) then sm_wp d 185 49 [l0, l1, l2, l3, some (.inl x4), l5, l6, l7] [.inl s0] (Z, Rf, K, n, z) Q else sm_wp d 185 53 [l0, l1, l2, l3, some (.inl x4), l5, l6, l7] [.inl s0] (Z, Rf, K, n, z) Q) := (w_iload t185_43 rfl rfl).trans ((w_iconst t185_45 rfl).trans (w_icne t185_46 rfl wl_m1 rfl rfl))
set_option maxRecDepth 10000 in
theorem b185_49 {d : Nat} {l0 : Option sm_V} {l1 : Option sm_V} {l2 : Option sm_V} {l3 : Option sm_V} {l4 : Option sm_V} {l5 : Option sm_V} {l6 : Option sm_V} {l7 : Option sm_V} {s0 : Int} {Z : Nat → Nat → Int} {Rf : Nat → Nat → Option Nat} {K : Nat → Nat × Nat} {n z : Nat} {Q : Option sm_V → sm_S → Prop} : sm_wp d 185 49 [l0, l1, l2, l3, l4, l5, l6, l7] [.inl s0] (Z, Rf, K, n, z) Q = (sm_wp d 185 64 [l0, l1, l2, l3, l4, l5, l6, l7] [.inl 0, .inl s0] (Z, Rf, K, n, z) Q) := (w_iconst t185_49 rfl).trans (w_goto t185_50 rfl)
set_option maxRecDepth 10000 in
theorem b185_53 {d : Nat} {r0 : Nat} {l1 : Option sm_V} {l2 : Option sm_V} {l3 : Option sm_V} {x4 : Int} {l5 : Option sm_V} {l6 : Option sm_V} {l7 : Option sm_V} {s0 : Int} {Z : Nat → Nat → Int} {Rf : Nat → Nat → Option Nat} {K : Nat → Nat × Nat} {n z : Nat} {Q : Option sm_V → sm_S → Prop} : sm_wp d 185 53 [some (.inr (some r0)), l1, l2, l3, some (.inl x4), l5, l6, l7] [.inl s0] (Z, Rf, K, n, z) Q = ((K r0).1 = 11 ∧ (Rf r0 0).isSome = true ∧ sm_rd (K (((Rf r0 0).getD 0))) (wr (420 + x4)) ∧ sm_wp d 185 64 [some (.inr (some r0)), l1, l2, l3, some (.inl x4), l5, l6, l7] [.inl (Z (((Rf r0 0).getD 0)) ((wr (420 + x4)).toNat)), .inl s0] (Z, Rf, K, n, z) Q) := (w_aload_n t185_53 rfl rfl).trans ((w_getR t185_54 rfl (by decide)).trans (congrArg (And _) (congrArg (And _) ((w_sipush t185_57 rfl).trans ((w_iload t185_60 rfl rfl).trans ((w_iadd t185_62 rfl).trans ((w_iald t185_63 rfl rfl).trans (congrArg (And _) rfl))))))))
set_option maxRecDepth 10000 in
theorem b185_64 {d : Nat} {r0 : Nat} {l1 : Option sm_V} {l2 : Option sm_V} {l3 : Option sm_V} {l4 : Option sm_V} {l5 : Option sm_V} {l6 : Option sm_V} {l7 : Option sm_V} {s0 : Int} {s1 : Int} {Z : Nat → Nat → Int} {Rf : Nat → Nat → Option Nat} {K : Nat → Nat × Nat} {n z : Nat} {Q : Option sm_V → sm_S → Prop} : sm_wp d 185 64 [some (.inr (some r0)), l1, l2, l3, l4, l5, l6, l7] [.inl s1, .inl s0] (Z, Rf, K, n, z) Q = ((K r0).1 = 11 ∧ (if wr (Z r0 31) = (-1 : Int) then sm_wp d 185 103 [some (.inr (some r0)), l1, l2, l3, l4, l5, some (.inl (s0 + s1)), l7] [] (Z, Rf, K, n, z) Q else sm_wp d 185 75 [some (.inr (some r0)), l1, l2, l3, l4, l5, some (.inl (s0 + s1)), l7] [] (Z, Rf, K, n, z) Q)) := (w_iadd t185_64 rfl).trans ((w_istore t185_65 rfl (Nat.le_of_ble_eq_true rfl) rfl).trans ((w_aload_n t185_67 rfl rfl).trans ((w_getI t185_68 rfl (by decide)).trans (congrArg (And _) ((w_iconst t185_71 rfl).trans (w_iceq t185_72 rfl wl_m1 rfl rfl))))))
set_option maxRecDepth 10000 in
theorem b185_75 {d : Nat} {r0 : Nat} {l1 : Option sm_V} {l2 : Option sm_V} {l3 : Option sm_V} {l4 : Option sm_V} {l5 : Option sm_V} {x6 : Int} {l7 : Option sm_V} {Z : Nat → Nat → Int} {Rf : Nat → Nat → Option Nat} {K : Nat → Nat × Nat} {n z : Nat} {Q : Option sm_V → sm_S → Prop} : sm_wp d 185 75 [some (.inr (some r0)), l1, l2, l3, l4, l5, some (.inl x6), l7] [] (Z, Rf, K, n, z) Q = ((K r0).1 = 11 ∧ (if wr (Z r0 31) < wr x6 then sm_wp d 185 102 [some (.inr (some r0)), l1, l2, l3, l4, l5, some (.inl x6), l7] [] (Z, Rf, K, n, z) Q else sm_wp d 185 84 [some (.inr (some r0)), l1, l2, l3, l4, l5, some (.inl x6), l7] [] (Z, Rf, K, n, z) Q)) := (w_iload t185_75 rfl rfl).trans ((w_aload_n t185_77 rfl rfl).trans ((w_getI t185_78 rfl (by decide)).trans (congrArg (And _) (w_icgt t185_81 rfl rfl rfl rfl))))
set_option maxRecDepth 10000 in
theorem b185_84 {d : Nat} {r0 : Nat} {l1 : Option sm_V} {l2 : Option sm_V} {l3 : Option sm_V} {l4 : Option sm_V} {l5 : Option sm_V} {x6 : Int} {l7 : Option sm_V} {Z : Nat → Nat → Int} {Rf : Nat → Nat → Option Nat} {K : Nat → Nat × Nat} {n z : Nat} {Q : Option sm_V → sm_S → Prop} : sm_wp d 185 84 [some (.inr (some r0)), l1, l2, l3, l4, l5, some (.inl x6), l7] [] (Z, Rf, K, n, z) Q = ((K r0).1 = 11 ∧ (if wr x6 = wr (Z r0 31) then sm_wp d 185 93 [some (.inr (some r0)), l1, l2, l3, l4, l5, some (.inl x6), l7] [] (Z, Rf, K, n, z) Q else sm_wp d 185 103 [some (.inr (some r0)), l1, l2, l3, l4, l5, some (.inl x6), l7] [] (Z, Rf, K, n, z) Q)) := (w_iload t185_84 rfl rfl).trans ((w_aload_n t185_86 rfl rfl).trans ((w_getI t185_87 rfl (by decide)).trans (congrArg (And _) (w_icne t185_90 rfl rfl rfl rfl))))
set_option maxRecDepth 10000 in
theorem b185_93 {d : Nat} {r0 : Nat} {l1 : Option sm_V} {l2 : Option sm_V} {l3 : Option sm_V} {l4 : Option sm_V} {x5 : Int} {l6 : Option sm_V} {l7 : Option sm_V} {Z : Nat → Nat → Int} {Rf : Nat → Nat → Option Nat} {K : Nat → Nat × Nat} {n z : Nat} {Q : Option sm_V → sm_S → Prop} : sm_wp d 185 93 [some (.inr (some r0)), l1, l2, l3, l4, some (.inl x5), l6, l7] [] (Z, Rf, K, n, z) Q = ((K r0).1 = 11 ∧ (if wr x5 < wr (Z r0 32) then sm_wp d 185 103 [some (.inr (some r0)), l1, l2, l3, l4, some (.inl x5), l6, l7] [] (Z, Rf, K, n, z) Q else sm_wp d 185 102 [some (.inr (some r0)), l1, l2, l3, l4, some (.inl x5), l6, l7] [] (Z, Rf, K, n, z) Q)) := (w_iload t185_93 rfl rfl).trans ((w_aload_n t185_95 rfl rfl).trans ((w_getI t185_96 rfl (by decide)).trans (congrArg (And _) (w_iclt t185_99 rfl rfl rfl rfl))))
set_option maxRecDepth 10000 in
theorem b185_102 {d : Nat} {l0 : Option sm_V} {l1 : Option sm_V} {l2 : Option sm_V} {l3 : Option sm_V} {l4 : Option sm_V} {l5 : Option sm_V} {l6 : Option sm_V} {l7 : Option sm_V} {Z : Nat → Nat → Int} {Rf : Nat → Nat → Option Nat} {K : Nat → Nat × Nat} {n z : Nat} {Q : Option sm_V → sm_S → Prop} : sm_wp d 185 102 [l0, l1, l2, l3, l4, l5, l6, l7] [] (Z, Rf, K, n, z) Q = (Q none (Z, Rf, K, n, z)) := w_vret t185_102
set_option maxRecDepth 10000 in
theorem b185_103 {d : Nat} {r0 : Nat} {l1 : Option sm_V} {l2 : Option sm_V} {l3 : Option sm_V} {l4 : Option sm_V} {l5 : Option sm_V} {l6 : Option sm_V} {l7 : Option sm_V} {Z : Nat → Nat → Int} {Rf : Nat → Nat → Option Nat} {K : Nat → Nat × Nat} {n z : Nat} {Q : Option sm_V → sm_S → Prop} : sm_wp (d + 1) 185 103 [some (.inr (some r0)), l1, l2, l3, l4, l5, l6, l7] [] (Z, Rf, K, n, z) Q = ((K r0).1 = 11 ∧ sm_call d 182 [.inr (some r0)] (Z, Rf, K, n, z) (sm_cont (d + 1) 185 107 [some (.inr (some r0)), l1, l2, l3, l4, l5, l6, l7] [] Q)) := (w_aload_n t185_103 rfl rfl).trans (w_callV t185_104 rfl rfl rfl rfl (Nat.le_of_ble_eq_true rfl) (Nat.le_of_ble_eq_true rfl) rfl (by decide))
set_option maxRecDepth 10000 in
theorem b185_107 {d : Nat} {l0 : Option sm_V} {l1 : Option sm_V} {l2 : Option sm_V} {x3 : Int} {l4 : Option sm_V} {l5 : Option sm_V} {l6 : Option sm_V} {l7 : Option sm_V} {Z : Nat → Nat → Int} {Rf : Nat → Nat → Option Nat} {K : Nat → Nat × Nat} {n z : Nat} {Q : Option sm_V → sm_S → Prop} : sm_wp d 185 107 [l0, l1, l2, some (.inl x3), l4, l5, l6, l7] [] (Z, Rf, K, n, z) Q = (if wr x3 = (-1 : Int) then sm_wp d 185 122 [l0, l1, l2, some (.inl x3), l4, l5, l6, l7] [] (Z, Rf, K, n, z) Q else sm_wp d 185 112 [l0, l1, l2, some (.inl x3), l4, l5, l6, l7] [] (Z, Rf, K, n, z) Q) := (w_iload_n t185_107 rfl rfl).trans ((w_iconst t185_108 rfl).trans (w_iceq t185_109 rfl wl_m1 rfl rfl))
set_option maxRecDepth 10000 in
theorem b185_112 {d : Nat} {r0 : Nat} {l1 : Option sm_V} {l2 : Option sm_V} {x3 : Int} {l4 : Option sm_V} {l5 : Option sm_V} {l6 : Option sm_V} {l7 : Option sm_V} {Z : Nat → Nat → Int} {Rf : Nat → Nat → Option Nat} {K : Nat → Nat × Nat} {n z : Nat} {Q : Option sm_V → sm_S → Prop} : sm_wp d 185 112 [some (.inr (some r0)), l1, l2, some (.inl x3), l4, l5, l6, l7] [] (Z, Rf, K, n, z) Q = ((K r0).1 = 11 ∧ (Rf r0 0).isSome = true ∧ sm_wt (K (((Rf r0 0).getD 0))) (wr (120 + x3)) ∧ sm_wp d 185 122 [some (.inr (some r0)), l1, l2, some (.inl x3), l4, l5, l6, l7] [] (sm_u Z (((Rf r0 0).getD 0)) ((wr (120 + x3)).toNat) 1, Rf, K, n, z) Q) := (w_aload_n t185_112 rfl rfl).trans ((w_getR t185_113 rfl (by decide)).trans (congrArg (And _) (congrArg (And _) ((w_bipush t185_116 rfl).trans ((w_iload_n t185_118 rfl rfl).trans ((w_iadd t185_119 rfl).trans ((w_iconst t185_120 rfl).trans ((w_iast t185_121 rfl rfl).trans (congrArg (And _) rfl)))))))))
set_option maxRecDepth 10000 in
theorem b185_122 {d : Nat} {l0 : Option sm_V} {l1 : Option sm_V} {l2 : Option sm_V} {l3 : Option sm_V} {x4 : Int} {l5 : Option sm_V} {l6 : Option sm_V} {l7 : Option sm_V} {Z : Nat → Nat → Int} {Rf : Nat → Nat → Option Nat} {K : Nat → Nat × Nat} {n z : Nat} {Q : Option sm_V → sm_S → Prop} : sm_wp d 185 122 [l0, l1, l2, l3, some (.inl x4), l5, l6, l7] [] (Z, Rf, K, n, z) Q = (if wr x4 = (-1 : Int) then sm_wp d 185 139 [l0, l1, l2, l3, some (.inl x4), l5, l6, l7] [] (Z, Rf, K, n, z) Q else sm_wp d 185 128 [l0, l1, l2, l3, some (.inl x4), l5, l6, l7] [] (Z, Rf, K, n, z) Q) := (w_iload t185_122 rfl rfl).trans ((w_iconst t185_124 rfl).trans (w_iceq t185_125 rfl wl_m1 rfl rfl))
set_option maxRecDepth 10000 in
theorem b185_128 {d : Nat} {r0 : Nat} {l1 : Option sm_V} {l2 : Option sm_V} {l3 : Option sm_V} {x4 : Int} {l5 : Option sm_V} {l6 : Option sm_V} {l7 : Option sm_V} {Z : Nat → Nat → Int} {Rf : Nat → Nat → Option Nat} {K : Nat → Nat × Nat} {n z : Nat} {Q : Option sm_V → sm_S → Prop} : sm_wp d 185 128 [some (.inr (some r0)), l1, l2, l3, some (.inl x4), l5, l6, l7] [] (Z, Rf, K, n, z) Q = ((K r0).1 = 11 ∧ (Rf r0 0).isSome = true ∧ sm_wt (K (((Rf r0 0).getD 0))) (wr (120 + x4)) ∧ sm_wp d 185 139 [some (.inr (some r0)), l1, l2, l3, some (.inl x4), l5, l6, l7] [] (sm_u Z (((Rf r0 0).getD 0)) ((wr (120 + x4)).toNat) 1, Rf, K, n, z) Q) := (w_aload_n t185_128 rfl rfl).trans ((w_getR t185_129 rfl (by decide)).trans (congrArg (And _) (congrArg (And _) ((w_bipush t185_132 rfl).trans ((w_iload t185_134 rfl rfl).trans ((w_iadd t185_136 rfl).trans ((w_iconst t185_137 rfl).trans ((w_iast t185_138 rfl rfl).trans (congrArg (And _) rfl)))))))))
set_option maxRecDepth 10000 in
theorem b185_139 {d : Nat} {r0 : Nat} {l1 : Option sm_V} {l2 : Option sm_V} {l3 : Option sm_V} {l4 : Option sm_V} {l5 : Option sm_V} {l6 : Option sm_V} {l7 : Option sm_V} {Z : Nat → Nat → Int} {Rf : Nat → Nat → Option Nat} {K : Nat → Nat × Nat} {n z : Nat} {Q : Option sm_V → sm_S → Prop} : sm_wp (d + 1) 185 139 [some (.inr (some r0)), l1, l2, l3, l4, l5, l6, l7] [] (Z, Rf, K, n, z) Q = ((K r0).1 = 11 ∧ sm_call d 171 [.inr (some r0)] (Z, Rf, K, n, z) (sm_cont (d + 1) 185 143 [some (.inr (some r0)), l1, l2, l3, l4, l5, l6, l7] [] Q)) := (w_aload_n t185_139 rfl rfl).trans (w_callV t185_140 rfl rfl rfl rfl (Nat.le_of_ble_eq_true rfl) (Nat.le_of_ble_eq_true rfl) rfl (by decide))
set_option maxRecDepth 10000 in
theorem b185_143 {d : Nat} {r0 : Nat} {l1 : Option sm_V} {l2 : Option sm_V} {l3 : Option sm_V} {l4 : Option sm_V} {l5 : Option sm_V} {l6 : Option sm_V} {l7 : Option sm_V} {Z : Nat → Nat → Int} {Rf : Nat → Nat → Option Nat} {K : Nat → Nat × Nat} {n z : Nat} {Q : Option sm_V → sm_S → Prop} : sm_wp (d + 1) 185 143 [some (.inr (some r0)), l1, l2, l3, l4, l5, l6, l7] [] (Z, Rf, K, n, z) Q = ((K r0).1 = 11 ∧ sm_call d 174 [.inr (some r0)] (Z, Rf, K, n, z) (sm_cont (d + 1) 185 147 [some (.inr (some r0)), l1, l2, l3, l4, l5, l6, l7] [] Q)) := (w_aload_n t185_143 rfl rfl).trans (w_callV t185_144 rfl rfl rfl rfl (Nat.le_of_ble_eq_true rfl) (Nat.le_of_ble_eq_true rfl) rfl (by decide))
set_option maxRecDepth 10000 in
theorem b185_147 {d : Nat} {r0 : Nat} {x1 : Int} {x2 : Int} {l3 : Option sm_V} {l4 : Option sm_V} {l5 : Option sm_V} {l6 : Option sm_V} {l7 : Option sm_V} {Z : Nat → Nat → Int} {Rf : Nat → Nat → Option Nat} {K : Nat → Nat × Nat} {n z : Nat} {Q : Option sm_V → sm_S → Prop} : sm_wp d 185 147 [some (.inr (some r0)), some (.inl x1), some (.inl x2), l3, l4, l5, l6, l7] [] (Z, Rf, K, n, z) Q = ((K r0).1 = 11 ∧ (Rf r0 28).isSome = true ∧ sm_rd (K (((Rf r0 28).getD 0))) (wr x1) ∧ (K r0).1 = 11 ∧ (Rf r0 28).isSome = true ∧ sm_rd (K (((Rf r0 28).getD 0))) (wr x2) ∧ (if wr (Z (((Rf r0 28).getD 0)) ((wr x1).toNat)) = wr (Z (((Rf r0 28).getD 0)) ((wr x2).toNat)) then sm_wp d 185 162 [some (.inr (some r0)), some (.inl x1), some (.inl x2), l3, l4, l5, l6, l7] [] (Z, Rf, K, n, z) Q else sm_wp d 185 166 [some (.inr (some r0)), some (.inl x1), some (.inl x2), l3, l4, l5, l6, l7] [] (Z, Rf, K, n, z) Q)) := (w_aload_n t185_147 rfl rfl).trans ((w_getR t185_148 rfl (by decide)).trans (congrArg (And _) (congrArg (And _) ((w_iload_n t185_151 rfl rfl).trans ((w_iald t185_152 rfl rfl).trans (congrArg (And _) ((w_aload_n t185_153 rfl rfl).trans ((w_getR t185_154 rfl (by decide)).trans (congrArg (And _) (congrArg (And _) ((w_iload_n t185_157 rfl rfl).trans ((w_iald t185_158 rfl rfl).trans (congrArg (And _) (w_icne t185_159 rfl rfl rfl rfl))))))))))))))
set_option maxRecDepth 10000 in
theorem b185_162 {d : Nat} {l0 : Option sm_V} {l1 : Option sm_V} {l2 : Option sm_V} {l3 : Option sm_V} {l4 : Option sm_V} {l5 : Option sm_V} {l6 : Option sm_V} {l7 : Option sm_V} {Z : Nat → Nat → Int} {Rf : Nat → Nat → Option Nat} {K : Nat → Nat × Nat} {n z : Nat} {Q : Option sm_V → sm_S → Prop} : sm_wp d 185 162 [l0, l1, l2, l3, l4, l5, l6, l7] [] (Z, Rf, K, n, z) Q = (sm_wp d 185 167 [l0, l1, l2, l3, l4, l5, l6, l7] [.inl 1] (Z, Rf, K, n, z) Q) := (w_iconst t185_162 rfl).trans (w_goto t185_163 rfl)
set_option maxRecDepth 10000 in
theorem b185_166 {d : Nat} {l0 : Option sm_V} {l1 : Option sm_V} {l2 : Option sm_V} {l3 : Option sm_V} {l4 : Option sm_V} {l5 : Option sm_V} {l6 : Option sm_V} {l7 : Option sm_V} {Z : Nat → Nat → Int} {Rf : Nat → Nat → Option Nat} {K : Nat → Nat × Nat} {n z : Nat} {Q : Option sm_V → sm_S → Prop} : sm_wp d 185 166 [l0, l1, l2, l3, l4, l5, l6, l7] [] (Z, Rf, K, n, z) Q = (sm_wp d 185 167 [l0, l1, l2, l3, l4, l5, l6, l7] [.inl 0] (Z, Rf, K, n, z) Q) := w_iconst t185_166 rfl
set_option maxRecDepth 10000 in
theorem b185_167 {d : Nat} {r0 : Nat} {l1 : Option sm_V} {l2 : Option sm_V} {l3 : Option sm_V} {l4 : Option sm_V} {l5 : Option sm_V} {l6 : Option sm_V} {l7 : Option sm_V} {s0 : Int} {Z : Nat → Nat → Int} {Rf : Nat → Nat → Option Nat} {K : Nat → Nat × Nat} {n z : Nat} {Q : Option sm_V → sm_S → Prop} : sm_wp (d + 1) 185 167 [some (.inr (some r0)), l1, l2, l3, l4, l5, l6, l7] [.inl s0] (Z, Rf, K, n, z) Q = ((K r0).1 = 11 ∧ sm_call d 183 [.inr (some r0)] (Z, Rf, K, n, z) (sm_cont (d + 1) 185 173 [some (.inr (some r0)), l1, l2, l3, l4, l5, l6, some (.inl s0)] [] Q)) := (w_istore t185_167 rfl (Nat.le_of_ble_eq_true rfl) rfl).trans ((w_aload_n t185_169 rfl rfl).trans (w_callV t185_170 rfl rfl rfl rfl (Nat.le_of_ble_eq_true rfl) (Nat.le_of_ble_eq_true rfl) rfl (by decide)))
set_option maxRecDepth 10000 in
theorem b185_173 {d : Nat} {l0 : Option sm_V} {l1 : Option sm_V} {l2 : Option sm_V} {l3 : Option sm_V} {l4 : Option sm_V} {l5 : Option sm_V} {l6 : Option sm_V} {x7 : Int} {Z : Nat → Nat → Int} {Rf : Nat → Nat → Option Nat} {K : Nat → Nat × Nat} {n z : Nat} {Q : Option sm_V → sm_S → Prop} : sm_wp d 185 173 [l0, l1, l2, l3, l4, l5, l6, some (.inl x7)] [] (Z, Rf, K, n, z) Q = (if wr x7 = 0 then sm_wp d 185 178 [l0, l1, l2, l3, l4, l5, l6, some (.inl x7)] [] (Z, Rf, K, n, z) Q else sm_wp d 185 179 [l0, l1, l2, l3, l4, l5, l6, some (.inl x7)] [] (Z, Rf, K, n, z) Q) := (w_iload t185_173 rfl rfl).trans (w_ifne t185_175 rfl rfl rfl)
set_option maxRecDepth 10000 in
theorem b185_178 {d : Nat} {l0 : Option sm_V} {l1 : Option sm_V} {l2 : Option sm_V} {l3 : Option sm_V} {l4 : Option sm_V} {l5 : Option sm_V} {l6 : Option sm_V} {l7 : Option sm_V} {Z : Nat → Nat → Int} {Rf : Nat → Nat → Option Nat} {K : Nat → Nat × Nat} {n z : Nat} {Q : Option sm_V → sm_S → Prop} : sm_wp d 185 178 [l0, l1, l2, l3, l4, l5, l6, l7] [] (Z, Rf, K, n, z) Q = (Q none (Z, Rf, K, n, z)) := w_vret t185_178
set_option maxRecDepth 10000 in
theorem b185_179 {d : Nat} {r0 : Nat} {l1 : Option sm_V} {l2 : Option sm_V} {x3 : Int} {x4 : Int} {x5 : Int} {x6 : Int} {l7 : Option sm_V} {Z : Nat → Nat → Int} {Rf : Nat → Nat → Option Nat} {K : Nat → Nat × Nat} {n z : Nat} {Q : Option sm_V → sm_S → Prop} : sm_wp d 185 179 [some (.inr (some r0)), l1, l2, some (.inl x3), some (.inl x4), some (.inl x5), some (.inl x6), l7] [] (Z, Rf, K, n, z) Q = ((K r0).1 = 11 ∧ (K r0).1 = 11 ∧ (K r0).1 = 11 ∧ (K r0).1 = 11 ∧ Q none (sm_u (sm_u (sm_u (sm_u Z r0 31 x6) r0 32 x5) r0 33 x3) r0 34 x4, Rf, K, n, z)) := (w_aload_n t185_179 rfl rfl).trans ((w_iload t185_180 rfl rfl).trans ((w_putI t185_182 rfl (by decide)).trans (congrArg (And _) ((w_aload_n t185_185 rfl rfl).trans ((w_iload t185_186 rfl rfl).trans ((w_putI t185_188 rfl (by decide)).trans (congrArg (And _) ((w_aload_n t185_191 rfl rfl).trans ((w_iload_n t185_192 rfl rfl).trans ((w_putI t185_193 rfl (by decide)).trans (congrArg (And _) ((w_aload_n t185_196 rfl rfl).trans ((w_iload t185_197 rfl rfl).trans ((w_putI t185_199 rfl (by decide)).trans (congrArg (And _) (w_vret t185_202))))))))))))))))
theorem t186_0 : sm_at 186 0 = some (1, .aload_n 0, 0, 0, 0) := rfl
theorem t186_1 : sm_at 186 1 = some (1, .iload_n 1, 0, 0, 0) := rfl
theorem t186_2 : sm_at 186 2 = some (3, .invokevirtual 85, 122, 2, 0) := rfl
theorem t186_5 : sm_at 186 5 = some (3, .ifCond .eq 19, 0, 0, 0) := rfl
theorem t186_8 : sm_at 186 8 = some (1, .aload_n 0, 0, 0, 0) := rfl
theorem t186_9 : sm_at 186 9 = some (3, .getfield 7, 11, 0, 0) := rfl
theorem t186_12 : sm_at 186 12 = some (2, .bipush 120, 0, 0, 0) := rfl
theorem t186_14 : sm_at 186 14 = some (1, .iload_n 1, 0, 0, 0) := rfl
theorem t186_15 : sm_at 186 15 = some (1, .iadd, 0, 0, 0) := rfl
theorem t186_16 : sm_at 186 16 = some (1, .iaload, 0, 0, 0) := rfl
theorem t186_17 : sm_at 186 17 = some (3, .ifCond .ne 7, 0, 0, 0) := rfl
theorem t186_20 : sm_at 186 20 = some (1, .iconst 1, 0, 0, 0) := rfl
theorem t186_21 : sm_at 186 21 = some (3, .goto 4, 0, 0, 0) := rfl
theorem t186_24 : sm_at 186 24 = some (1, .iconst 0, 0, 0, 0) := rfl
theorem t186_25 : sm_at 186 25 = some (1, .ireturn, 1, 0, 0) := rfl
set_option maxRecDepth 10000 in
theorem b186_0 {d : Nat} {r0 : Nat} {x1 : Int} {Z : Nat → Nat → Int} {Rf : Nat → Nat → Option Nat} {K : Nat → Nat × Nat} {n z : Nat} {Q : Option sm_V → sm_S → Prop} : sm_wp (d + 1) 186 0 [some (.inr (some r0)), some (.inl x1)] [] (Z, Rf, K, n, z) Q = ((K r0).1 = 11 ∧ sm_call d 122 [.inr (some r0), .inl x1] (Z, Rf, K, n, z) (sm_cont (d + 1) 186 5 [some (.inr (some r0)), some (.inl x1)] [] Q)) := (w_aload_n t186_0 rfl rfl).trans ((w_iload_n t186_1 rfl rfl).trans (w_callV t186_2 rfl rfl rfl rfl (Nat.le_of_ble_eq_true rfl) (Nat.le_of_ble_eq_true rfl) rfl (by decide)))
set_option maxRecDepth 10000 in
theorem b186_5 {d : Nat} {l0 : Option sm_V} {l1 : Option sm_V} {s0 : Int} {Z : Nat → Nat → Int} {Rf : Nat → Nat → Option Nat} {K : Nat → Nat × Nat} {n z : Nat} {Q : Option sm_V → sm_S → Prop} : sm_wp d 186 5 [l0, l1] [.inl s0] (Z, Rf, K, n, z) Q = (if wr s0 = 0 then sm_wp d 186 24 [l0, l1] [] (Z, Rf, K, n, z) Q else sm_wp d 186 8 [l0, l1] [] (Z, Rf, K, n, z) Q) := w_ifeq t186_5 rfl rfl rfl
set_option maxRecDepth 10000 in
theorem b186_8 {d : Nat} {r0 : Nat} {x1 : Int} {Z : Nat → Nat → Int} {Rf : Nat → Nat → Option Nat} {K : Nat → Nat × Nat} {n z : Nat} {Q : Option sm_V → sm_S → Prop} : sm_wp d 186 8 [some (.inr (some r0)), some (.inl x1)] [] (Z, Rf, K, n, z) Q = ((K r0).1 = 11 ∧ (Rf r0 0).isSome = true ∧ sm_rd (K (((Rf r0 0).getD 0))) (wr (120 + x1)) ∧ (if wr (Z (((Rf r0 0).getD 0)) ((wr (120 + x1)).toNat)) = 0 then sm_wp d 186 20 [some (.inr (some r0)), some (.inl x1)] [] (Z, Rf, K, n, z) Q else sm_wp d 186 24 [some (.inr (some r0)), some (.inl x1)] [] (Z, Rf, K, n, z) Q)) := (w_aload_n t186_8 rfl rfl).trans ((w_getR t186_9 rfl (by decide)).trans (congrArg (And _) (congrArg (And _) ((w_bipush t186_12 rfl).trans ((w_iload_n t186_14 rfl rfl).trans ((w_iadd t186_15 rfl).trans ((w_iald t186_16 rfl rfl).trans (congrArg (And _) (w_ifne t186_17 rfl rfl rfl)))))))))
set_option maxRecDepth 10000 in
theorem b186_20 {d : Nat} {l0 : Option sm_V} {l1 : Option sm_V} {Z : Nat → Nat → Int} {Rf : Nat → Nat → Option Nat} {K : Nat → Nat × Nat} {n z : Nat} {Q : Option sm_V → sm_S → Prop} : sm_wp d 186 20 [l0, l1] [] (Z, Rf, K, n, z) Q = (sm_wp d 186 25 [l0, l1] [.inl 1] (Z, Rf, K, n, z) Q) := (w_iconst t186_20 rfl).trans (w_goto t186_21 rfl)
set_option maxRecDepth 10000 in
theorem b186_24 {d : Nat} {l0 : Option sm_V} {l1 : Option sm_V} {Z : Nat → Nat → Int} {Rf : Nat → Nat → Option Nat} {K : Nat → Nat × Nat} {n z : Nat} {Q : Option sm_V → sm_S → Prop} : sm_wp d 186 24 [l0, l1] [] (Z, Rf, K, n, z) Q = (sm_wp d 186 25 [l0, l1] [.inl 0] (Z, Rf, K, n, z) Q) := w_iconst t186_24 rfl
set_option maxRecDepth 10000 in
theorem b186_25 {d : Nat} {l0 : Option sm_V} {l1 : Option sm_V} {s0 : Int} {Z : Nat → Nat → Int} {Rf : Nat → Nat → Option Nat} {K : Nat → Nat × Nat} {n z : Nat} {Q : Option sm_V → sm_S → Prop} : sm_wp d 186 25 [l0, l1] [.inl s0] (Z, Rf, K, n, z) Q = ((wr s0 = 0 ∨ wr s0 = 1) ∧ Q (some (.inl s0)) (Z, Rf, K, n, z)) := w_zret t186_25 rfl
theorem t187_0 : sm_at 187 0 = some (1, .aload_n 0, 0, 0, 0) := rfl
theorem t187_1 : sm_at 187 1 = some (1, .iload_n 1, 0, 0, 0) := rfl
theorem t187_2 : sm_at 187 2 = some (3, .invokevirtual 85, 122, 2, 0) := rfl
theorem t187_5 : sm_at 187 5 = some (3, .ifCond .eq 43, 0, 0, 0) := rfl
theorem t187_8 : sm_at 187 8 = some (1, .aload_n 0, 0, 0, 0) := rfl
theorem t187_9 : sm_at 187 9 = some (1, .iload_n 2, 0, 0, 0) := rfl
theorem t187_10 : sm_at 187 10 = some (3, .invokevirtual 85, 122, 2, 0) := rfl
theorem t187_13 : sm_at 187 13 = some (3, .ifCond .eq 35, 0, 0, 0) := rfl
theorem t187_16 : sm_at 187 16 = some (1, .iload_n 1, 0, 0, 0) := rfl
theorem t187_17 : sm_at 187 17 = some (1, .iload_n 2, 0, 0, 0) := rfl
theorem t187_18 : sm_at 187 18 = some (3, .if_icmp .eq 30, 0, 0, 0) := rfl
theorem t187_21 : sm_at 187 21 = some (1, .aload_n 0, 0, 0, 0) := rfl
theorem t187_22 : sm_at 187 22 = some (3, .getfield 7, 11, 0, 0) := rfl
theorem t187_25 : sm_at 187 25 = some (1, .iconst 0, 0, 0, 0) := rfl
theorem t187_26 : sm_at 187 26 = some (1, .iaload, 0, 0, 0) := rfl
theorem t187_27 : sm_at 187 27 = some (1, .aload_n 0, 0, 0, 0) := rfl
theorem t187_28 : sm_at 187 28 = some (3, .getfield 7, 11, 0, 0) := rfl
theorem t187_31 : sm_at 187 31 = some (1, .iconst 1, 0, 0, 0) := rfl
theorem t187_32 : sm_at 187 32 = some (1, .iaload, 0, 0, 0) := rfl
theorem t187_33 : sm_at 187 33 = some (1, .imul, 0, 0, 0) := rfl
theorem t187_34 : sm_at 187 34 = some (2, .bipush 36, 0, 0, 0) := rfl
theorem t187_36 : sm_at 187 36 = some (3, .if_icmp .gt 12, 0, 0, 0) := rfl
theorem t187_39 : sm_at 187 39 = some (1, .iload_n 3, 0, 0, 0) := rfl
theorem t187_40 : sm_at 187 40 = some (1, .iconst 0, 0, 0, 0) := rfl
theorem t187_41 : sm_at 187 41 = some (1, .iconst 3, 0, 0, 0) := rfl
theorem t187_42 : sm_at 187 42 = some (3, .invokestatic 75, 120, 3, 0) := rfl
theorem t187_45 : sm_at 187 45 = some (3, .ifCond .ne 5, 0, 0, 0) := rfl
theorem t187_48 : sm_at 187 48 = some (1, .iconst (-1), 0, 0, 0) := rfl
theorem t187_49 : sm_at 187 49 = some (1, .ireturn, 0, 0, 0) := rfl
theorem t187_50 : sm_at 187 50 = some (1, .aload_n 0, 0, 0, 0) := rfl
theorem t187_51 : sm_at 187 51 = some (1, .iconst (-1), 0, 0, 0) := rfl
theorem t187_52 : sm_at 187 52 = some (3, .putfield 308, 11, 31, 0) := rfl
theorem t187_55 : sm_at 187 55 = some (1, .aload_n 0, 0, 0, 0) := rfl
theorem t187_56 : sm_at 187 56 = some (1, .iload_n 1, 0, 0, 0) := rfl
theorem t187_57 : sm_at 187 57 = some (1, .iload_n 2, 0, 0, 0) := rfl
theorem t187_58 : sm_at 187 58 = some (1, .iconst (-1), 0, 0, 0) := rfl
theorem t187_59 : sm_at 187 59 = some (1, .iconst (-1), 0, 0, 0) := rfl
theorem t187_60 : sm_at 187 60 = some (3, .invokevirtual 320, 185, 5, 0) := rfl
theorem t187_63 : sm_at 187 63 = some (1, .aload_n 0, 0, 0, 0) := rfl
theorem t187_64 : sm_at 187 64 = some (3, .getfield 308, 11, 31, 0) := rfl
theorem t187_67 : sm_at 187 67 = some (1, .iconst (-1), 0, 0, 0) := rfl
theorem t187_68 : sm_at 187 68 = some (3, .if_icmp .ne 100, 0, 0, 0) := rfl
theorem t187_71 : sm_at 187 71 = some (1, .iconst 0, 0, 0, 0) := rfl
theorem t187_72 : sm_at 187 72 = some (2, .istore 4, 0, 0, 0) := rfl
theorem t187_74 : sm_at 187 74 = some (2, .iload 4, 0, 0, 0) := rfl
theorem t187_76 : sm_at 187 76 = some (2, .bipush 100, 0, 0, 0) := rfl
theorem t187_78 : sm_at 187 78 = some (3, .if_icmp .ge 27, 0, 0, 0) := rfl
theorem t187_81 : sm_at 187 81 = some (1, .aload_n 0, 0, 0, 0) := rfl
theorem t187_82 : sm_at 187 82 = some (2, .iload 4, 0, 0, 0) := rfl
theorem t187_84 : sm_at 187 84 = some (3, .invokevirtual 324, 186, 2, 0) := rfl
theorem t187_87 : sm_at 187 87 = some (3, .ifCond .eq 12, 0, 0, 0) := rfl
theorem t187_90 : sm_at 187 90 = some (1, .aload_n 0, 0, 0, 0) := rfl
theorem t187_91 : sm_at 187 91 = some (1, .iload_n 1, 0, 0, 0) := rfl
theorem t187_92 : sm_at 187 92 = some (1, .iload_n 2, 0, 0, 0) := rfl
theorem t187_93 : sm_at 187 93 = some (2, .iload 4, 0, 0, 0) := rfl
theorem t187_95 : sm_at 187 95 = some (1, .iconst (-1), 0, 0, 0) := rfl
theorem t187_96 : sm_at 187 96 = some (3, .invokevirtual 320, 185, 5, 0) := rfl
theorem t187_99 : sm_at 187 99 = some (3, .iinc 4 1, 0, 0, 0) := rfl
theorem t187_102 : sm_at 187 102 = some (3, .goto (-28), 0, 0, 0) := rfl
theorem t187_105 : sm_at 187 105 = some (1, .iconst 0, 0, 0, 0) := rfl
set_option maxRecDepth 100000 in
theorem t187_106 : sm_at 187 106 = some (2, .istore 4, 0, 0, 0) := rfl
set_option maxRecDepth 100000 in
theorem t187_108 : sm_at 187 108 = some (2, .iload 4, 0, 0, 0) := rfl
set_option maxRecDepth 100000 in
theorem t187_110 : sm_at 187 110 = some (2, .bipush 100, 0, 0, 0) := rfl
set_option maxRecDepth 100000 in
theorem t187_112 : sm_at 187 112 = some (3, .if_icmp .ge 56, 0, 0, 0) := rfl
set_option maxRecDepth 100000 in
theorem t187_115 : sm_at 187 115 = some (2, .iload 4, 0, 0, 0) := rfl
set_option maxRecDepth 100000 in
theorem t187_117 : sm_at 187 117 = some (1, .iconst 1, 0, 0, 0) := rfl
set_option maxRecDepth 100000 in
theorem t187_118 : sm_at 187 118 = some (1, .iadd, 0, 0, 0) := rfl
set_option maxRecDepth 100000 in
theorem t187_119 : sm_at 187 119 = some (2, .istore 5, 0, 0, 0) := rfl
set_option maxRecDepth 100000 in
theorem t187_121 : sm_at 187 121 = some (2, .iload 5, 0, 0, 0) := rfl
set_option maxRecDepth 100000 in
theorem t187_123 : sm_at 187 123 = some (2, .bipush 100, 0, 0, 0) := rfl
set_option maxRecDepth 100000 in
theorem t187_125 : sm_at 187 125 = some (3, .if_icmp .ge 37, 0, 0, 0) := rfl
set_option maxRecDepth 100000 in
theorem t187_128 : sm_at 187 128 = some (1, .aload_n 0, 0, 0, 0) := rfl
set_option maxRecDepth 100000 in
theorem t187_129 : sm_at 187 129 = some (2, .iload 4, 0, 0, 0) := rfl
set_option maxRecDepth 100000 in
theorem t187_131 : sm_at 187 131 = some (3, .invokevirtual 324, 186, 2, 0) := rfl
set_option maxRecDepth 100000 in
theorem t187_134 : sm_at 187 134 = some (3, .ifCond .eq 22, 0, 0, 0) := rfl
set_option maxRecDepth 100000 in
theorem t187_137 : sm_at 187 137 = some (1, .aload_n 0, 0, 0, 0) := rfl
set_option maxRecDepth 100000 in
theorem t187_138 : sm_at 187 138 = some (2, .iload 5, 0, 0, 0) := rfl
set_option maxRecDepth 100000 in
theorem t187_140 : sm_at 187 140 = some (3, .invokevirtual 324, 186, 2, 0) := rfl
set_option maxRecDepth 100000 in
theorem t187_143 : sm_at 187 143 = some (3, .ifCond .eq 13, 0, 0, 0) := rfl
set_option maxRecDepth 100000 in
theorem t187_146 : sm_at 187 146 = some (1, .aload_n 0, 0, 0, 0) := rfl
set_option maxRecDepth 100000 in
theorem t187_147 : sm_at 187 147 = some (1, .iload_n 1, 0, 0, 0) := rfl
set_option maxRecDepth 100000 in
theorem t187_148 : sm_at 187 148 = some (1, .iload_n 2, 0, 0, 0) := rfl
set_option maxRecDepth 100000 in
theorem t187_149 : sm_at 187 149 = some (2, .iload 4, 0, 0, 0) := rfl
set_option maxRecDepth 100000 in
theorem t187_151 : sm_at 187 151 = some (2, .iload 5, 0, 0, 0) := rfl
set_option maxRecDepth 100000 in
theorem t187_153 : sm_at 187 153 = some (3, .invokevirtual 320, 185, 5, 0) := rfl
set_option maxRecDepth 100000 in
theorem t187_156 : sm_at 187 156 = some (3, .iinc 5 1, 0, 0, 0) := rfl
set_option maxRecDepth 100000 in
theorem t187_159 : sm_at 187 159 = some (3, .goto (-38), 0, 0, 0) := rfl
set_option maxRecDepth 100000 in
theorem t187_162 : sm_at 187 162 = some (3, .iinc 4 1, 0, 0, 0) := rfl
set_option maxRecDepth 100000 in
theorem t187_165 : sm_at 187 165 = some (3, .goto (-57), 0, 0, 0) := rfl
set_option maxRecDepth 100000 in
theorem t187_168 : sm_at 187 168 = some (1, .aload_n 0, 0, 0, 0) := rfl
set_option maxRecDepth 100000 in
theorem t187_169 : sm_at 187 169 = some (3, .getfield 308, 11, 31, 0) := rfl
set_option maxRecDepth 100000 in
theorem t187_172 : sm_at 187 172 = some (1, .iconst (-1), 0, 0, 0) := rfl
set_option maxRecDepth 100000 in
theorem t187_173 : sm_at 187 173 = some (3, .if_icmp .ne 5, 0, 0, 0) := rfl
set_option maxRecDepth 100000 in
theorem t187_176 : sm_at 187 176 = some (1, .iconst (-1), 0, 0, 0) := rfl
set_option maxRecDepth 100000 in
theorem t187_177 : sm_at 187 177 = some (1, .ireturn, 0, 0, 0) := rfl
set_option maxRecDepth 100000 in
theorem t187_178 : sm_at 187 178 = some (1, .iload_n 3, 0, 0, 0) := rfl
set_option maxRecDepth 100000 in
theorem t187_179 : sm_at 187 179 = some (3, .ifCond .ne 10, 0, 0, 0) := rfl
set_option maxRecDepth 100000 in
theorem t187_182 : sm_at 187 182 = some (1, .aload_n 0, 0, 0, 0) := rfl
set_option maxRecDepth 100000 in
theorem t187_183 : sm_at 187 183 = some (3, .getfield 308, 11, 31, 0) := rfl
set_option maxRecDepth 100000 in
theorem t187_186 : sm_at 187 186 = some (3, .goto 31, 0, 0, 0) := rfl
set_option maxRecDepth 100000 in
theorem t187_189 : sm_at 187 189 = some (1, .iload_n 3, 0, 0, 0) := rfl
set_option maxRecDepth 100000 in
theorem t187_190 : sm_at 187 190 = some (1, .iconst 1, 0, 0, 0) := rfl
set_option maxRecDepth 100000 in
theorem t187_191 : sm_at 187 191 = some (3, .if_icmp .ne 10, 0, 0, 0) := rfl
set_option maxRecDepth 100000 in
theorem t187_194 : sm_at 187 194 = some (1, .aload_n 0, 0, 0, 0) := rfl
set_option maxRecDepth 100000 in
theorem t187_195 : sm_at 187 195 = some (3, .getfield 311, 11, 32, 0) := rfl
set_option maxRecDepth 100000 in
theorem t187_198 : sm_at 187 198 = some (3, .goto 19, 0, 0, 0) := rfl
set_option maxRecDepth 100000 in
theorem t187_201 : sm_at 187 201 = some (1, .iload_n 3, 0, 0, 0) := rfl
set_option maxRecDepth 100000 in
theorem t187_202 : sm_at 187 202 = some (1, .iconst 2, 0, 0, 0) := rfl
set_option maxRecDepth 100000 in
theorem t187_203 : sm_at 187 203 = some (3, .if_icmp .ne 10, 0, 0, 0) := rfl
set_option maxRecDepth 100000 in
theorem t187_206 : sm_at 187 206 = some (1, .aload_n 0, 0, 0, 0) := rfl
set_option maxRecDepth 100000 in
theorem t187_207 : sm_at 187 207 = some (3, .getfield 314, 11, 33, 0) := rfl
set_option maxRecDepth 100000 in
theorem t187_210 : sm_at 187 210 = some (3, .goto 7, 0, 0, 0) := rfl
set_option maxRecDepth 100000 in
theorem t187_213 : sm_at 187 213 = some (1, .aload_n 0, 0, 0, 0) := rfl
set_option maxRecDepth 100000 in
theorem t187_214 : sm_at 187 214 = some (3, .getfield 317, 11, 34, 0) := rfl
set_option maxRecDepth 100000 in
theorem t187_217 : sm_at 187 217 = some (1, .ireturn, 0, 0, 0) := rfl
set_option maxRecDepth 10000 in
theorem b187_0 {d : Nat} {r0 : Nat} {x1 : Int} {l2 : Option sm_V} {l3 : Option sm_V} {l4 : Option sm_V} {l5 : Option sm_V} {Z : Nat → Nat → Int} {Rf : Nat → Nat → Option Nat} {K : Nat → Nat × Nat} {n z : Nat} {Q : Option sm_V → sm_S → Prop} : sm_wp (d + 1) 187 0 [some (.inr (some r0)), some (.inl x1), l2, l3, l4, l5] [] (Z, Rf, K, n, z) Q = ((K r0).1 = 11 ∧ sm_call d 122 [.inr (some r0), .inl x1] (Z, Rf, K, n, z) (sm_cont (d + 1) 187 5 [some (.inr (some r0)), some (.inl x1), l2, l3, l4, l5] [] Q)) := (w_aload_n t187_0 rfl rfl).trans ((w_iload_n t187_1 rfl rfl).trans (w_callV t187_2 rfl rfl rfl rfl (Nat.le_of_ble_eq_true rfl) (Nat.le_of_ble_eq_true rfl) rfl (by decide)))
set_option maxRecDepth 10000 in
theorem b187_5 {d : Nat} {l0 : Option sm_V} {l1 : Option sm_V} {l2 : Option sm_V} {l3 : Option sm_V} {l4 : Option sm_V} {l5 : Option sm_V} {s0 : Int} {Z : Nat → Nat → Int} {Rf : Nat → Nat → Option Nat} {K : Nat → Nat × Nat} {n z : Nat} {Q : Option sm_V → sm_S → Prop} : sm_wp d 187 5 [l0, l1, l2, l3, l4, l5] [.inl s0] (Z, Rf, K, n, z) Q = (if wr s0 = 0 then sm_wp d 187 48 [l0, l1, l2, l3, l4, l5] [] (Z, Rf, K, n, z) Q else sm_wp d 187 8 [l0, l1, l2, l3, l4, l5] [] (Z, Rf, K, n, z) Q) := w_ifeq t187_5 rfl rfl rfl
set_option maxRecDepth 10000 in
theorem b187_8 {d : Nat} {r0 : Nat} {l1 : Option sm_V} {x2 : Int} {l3 : Option sm_V} {l4 : Option sm_V} {l5 : Option sm_V} {Z : Nat → Nat → Int} {Rf : Nat → Nat → Option Nat} {K : Nat → Nat × Nat} {n z : Nat} {Q : Option sm_V → sm_S → Prop} : sm_wp (d + 1) 187 8 [some (.inr (some r0)), l1, some (.inl x2), l3, l4, l5] [] (Z, Rf, K, n, z) Q = ((K r0).1 = 11 ∧ sm_call d 122 [.inr (some r0), .inl x2] (Z, Rf, K, n, z) (sm_cont (d + 1) 187 13 [some (.inr (some r0)), l1, some (.inl x2), l3, l4, l5] [] Q)) := (w_aload_n t187_8 rfl rfl).trans ((w_iload_n t187_9 rfl rfl).trans (w_callV t187_10 rfl rfl rfl rfl (Nat.le_of_ble_eq_true rfl) (Nat.le_of_ble_eq_true rfl) rfl (by decide)))
set_option maxRecDepth 10000 in
theorem b187_13 {d : Nat} {l0 : Option sm_V} {l1 : Option sm_V} {l2 : Option sm_V} {l3 : Option sm_V} {l4 : Option sm_V} {l5 : Option sm_V} {s0 : Int} {Z : Nat → Nat → Int} {Rf : Nat → Nat → Option Nat} {K : Nat → Nat × Nat} {n z : Nat} {Q : Option sm_V → sm_S → Prop} : sm_wp d 187 13 [l0, l1, l2, l3, l4, l5] [.inl s0] (Z, Rf, K, n, z) Q = (if wr s0 = 0 then sm_wp d 187 48 [l0, l1, l2, l3, l4, l5] [] (Z, Rf, K, n, z) Q else sm_wp d 187 16 [l0, l1, l2, l3, l4, l5] [] (Z, Rf, K, n, z) Q) := w_ifeq t187_13 rfl rfl rfl
set_option maxRecDepth 10000 in
theorem b187_16 {d : Nat} {l0 : Option sm_V} {x1 : Int} {x2 : Int} {l3 : Option sm_V} {l4 : Option sm_V} {l5 : Option sm_V} {Z : Nat → Nat → Int} {Rf : Nat → Nat → Option Nat} {K : Nat → Nat × Nat} {n z : Nat} {Q : Option sm_V → sm_S → Prop} : sm_wp d 187 16 [l0, some (.inl x1), some (.inl x2), l3, l4, l5] [] (Z, Rf, K, n, z) Q = (if wr x1 = wr x2 then sm_wp d 187 48 [l0, some (.inl x1), some (.inl x2), l3, l4, l5] [] (Z, Rf, K, n, z) Q else sm_wp d 187 21 [l0, some (.inl x1), some (.inl x2), l3, l4, l5] [] (Z, Rf, K, n, z) Q) := (w_iload_n t187_16 rfl rfl).trans ((w_iload_n t187_17 rfl rfl).trans (w_iceq t187_18 rfl rfl rfl rfl))
set_option maxRecDepth 10000 in
theorem b187_21 {d : Nat} {r0 : Nat} {l1 : Option sm_V} {l2 : Option sm_V} {l3 : Option sm_V} {l4 : Option sm_V} {l5 : Option sm_V} {Z : Nat → Nat → Int} {Rf : Nat → Nat → Option Nat} {K : Nat → Nat × Nat} {n z : Nat} {Q : Option sm_V → sm_S → Prop} : sm_wp d 187 21 [some (.inr (some r0)), l1, l2, l3, l4, l5] [] (Z, Rf, K, n, z) Q = ((K r0).1 = 11 ∧ (Rf r0 0).isSome = true ∧ sm_rd (K (((Rf r0 0).getD 0))) ((0 : Int)) ∧ (K r0).1 = 11 ∧ (Rf r0 0).isSome = true ∧ sm_rd (K (((Rf r0 0).getD 0))) ((1 : Int)) ∧ (if (36 : Int) < wr ((Z (((Rf r0 0).getD 0)) 0) * (Z (((Rf r0 0).getD 0)) 1)) then sm_wp d 187 48 [some (.inr (some r0)), l1, l2, l3, l4, l5] [] (Z, Rf, K, n, z) Q else sm_wp d 187 39 [some (.inr (some r0)), l1, l2, l3, l4, l5] [] (Z, Rf, K, n, z) Q)) := (w_aload_n t187_21 rfl rfl).trans ((w_getR t187_22 rfl (by decide)).trans (congrArg (And _) (congrArg (And _) ((w_iconst t187_25 rfl).trans ((w_iald t187_26 rfl wl_0).trans (congrArg (And _) ((w_aload_n t187_27 rfl rfl).trans ((w_getR t187_28 rfl (by decide)).trans (congrArg (And _) (congrArg (And _) ((w_iconst t187_31 rfl).trans ((w_iald t187_32 rfl wl_1).trans (congrArg (And _) ((w_imul t187_33 rfl).trans ((w_bipush t187_34 rfl).trans (w_icgt t187_36 rfl wl_36 rfl rfl))))))))))))))))
set_option maxRecDepth 10000 in
theorem b187_39 {d : Nat} {l0 : Option sm_V} {l1 : Option sm_V} {l2 : Option sm_V} {x3 : Int} {l4 : Option sm_V} {l5 : Option sm_V} {Z : Nat → Nat → Int} {Rf : Nat → Nat → Option Nat} {K : Nat → Nat × Nat} {n z : Nat} {Q : Option sm_V → sm_S → Prop} : sm_wp (d + 1) 187 39 [l0, l1, l2, some (.inl x3), l4, l5] [] (Z, Rf, K, n, z) Q = (sm_call d 120 [.inl x3, .inl 0, .inl 3] (Z, Rf, K, n, z) (sm_cont (d + 1) 187 45 [l0, l1, l2, some (.inl x3), l4, l5] [] Q)) := (w_iload_n t187_39 rfl rfl).trans ((w_iconst t187_40 rfl).trans ((w_iconst t187_41 rfl).trans (w_callS t187_42 rfl rfl rfl rfl (Nat.le_of_ble_eq_true rfl) (Nat.le_of_ble_eq_true rfl) rfl)))
set_option maxRecDepth 10000 in
theorem b187_45 {d : Nat} {l0 : Option sm_V} {l1 : Option sm_V} {l2 : Option sm_V} {l3 : Option sm_V} {l4 : Option sm_V} {l5 : Option sm_V} {s0 : Int} {Z : Nat → Nat → Int} {Rf : Nat → Nat → Option Nat} {K : Nat → Nat × Nat} {n z : Nat} {Q : Option sm_V → sm_S → Prop} : sm_wp d 187 45 [l0, l1, l2, l3, l4, l5] [.inl s0] (Z, Rf, K, n, z) Q = (if wr s0 = 0 then sm_wp d 187 48 [l0, l1, l2, l3, l4, l5] [] (Z, Rf, K, n, z) Q else sm_wp d 187 50 [l0, l1, l2, l3, l4, l5] [] (Z, Rf, K, n, z) Q) := w_ifne t187_45 rfl rfl rfl
set_option maxRecDepth 10000 in
theorem b187_48 {d : Nat} {l0 : Option sm_V} {l1 : Option sm_V} {l2 : Option sm_V} {l3 : Option sm_V} {l4 : Option sm_V} {l5 : Option sm_V} {Z : Nat → Nat → Int} {Rf : Nat → Nat → Option Nat} {K : Nat → Nat × Nat} {n z : Nat} {Q : Option sm_V → sm_S → Prop} : sm_wp d 187 48 [l0, l1, l2, l3, l4, l5] [] (Z, Rf, K, n, z) Q = (Q (some (.inl ((-1)))) (Z, Rf, K, n, z)) := (w_iconst t187_48 rfl).trans (w_iret t187_49)
set_option maxRecDepth 10000 in
theorem b187_50 {d : Nat} {r0 : Nat} {x1 : Int} {x2 : Int} {l3 : Option sm_V} {l4 : Option sm_V} {l5 : Option sm_V} {Z : Nat → Nat → Int} {Rf : Nat → Nat → Option Nat} {K : Nat → Nat × Nat} {n z : Nat} {Q : Option sm_V → sm_S → Prop} : sm_wp (d + 1) 187 50 [some (.inr (some r0)), some (.inl x1), some (.inl x2), l3, l4, l5] [] (Z, Rf, K, n, z) Q = ((K r0).1 = 11 ∧ (K r0).1 = 11 ∧ sm_call d 185 [.inr (some r0), .inl x1, .inl x2, .inl ((-1)), .inl ((-1))] (sm_u Z r0 31 ((-1)), Rf, K, n, z) (sm_cont (d + 1) 187 63 [some (.inr (some r0)), some (.inl x1), some (.inl x2), l3, l4, l5] [] Q)) := (w_aload_n t187_50 rfl rfl).trans ((w_iconst t187_51 rfl).trans ((w_putI t187_52 rfl (by decide)).trans (congrArg (And _) ((w_aload_n t187_55 rfl rfl).trans ((w_iload_n t187_56 rfl rfl).trans ((w_iload_n t187_57 rfl rfl).trans ((w_iconst t187_58 rfl).trans ((w_iconst t187_59 rfl).trans (w_callV t187_60 rfl rfl rfl rfl (Nat.le_of_ble_eq_true rfl) (Nat.le_of_ble_eq_true rfl) rfl (by decide))))))))))
set_option maxRecDepth 10000 in
theorem b187_63 {d : Nat} {r0 : Nat} {l1 : Option sm_V} {l2 : Option sm_V} {l3 : Option sm_V} {l4 : Option sm_V} {l5 : Option sm_V} {Z : Nat → Nat → Int} {Rf : Nat → Nat → Option Nat} {K : Nat → Nat × Nat} {n z : Nat} {Q : Option sm_V → sm_S → Prop} : sm_wp d 187 63 [some (.inr (some r0)), l1, l2, l3, l4, l5] [] (Z, Rf, K, n, z) Q = ((K r0).1 = 11 ∧ (if wr (Z r0 31) = (-1 : Int) then sm_wp d 187 71 [some (.inr (some r0)), l1, l2, l3, l4, l5] [] (Z, Rf, K, n, z) Q else sm_wp d 187 168 [some (.inr (some r0)), l1, l2, l3, l4, l5] [] (Z, Rf, K, n, z) Q)) := (w_aload_n t187_63 rfl rfl).trans ((w_getI t187_64 rfl (by decide)).trans (congrArg (And _) ((w_iconst t187_67 rfl).trans (w_icne t187_68 rfl wl_m1 rfl rfl))))
set_option maxRecDepth 10000 in
theorem b187_71 {d : Nat} {l0 : Option sm_V} {l1 : Option sm_V} {l2 : Option sm_V} {l3 : Option sm_V} {l4 : Option sm_V} {l5 : Option sm_V} {Z : Nat → Nat → Int} {Rf : Nat → Nat → Option Nat} {K : Nat → Nat × Nat} {n z : Nat} {Q : Option sm_V → sm_S → Prop} : sm_wp d 187 71 [l0, l1, l2, l3, l4, l5] [] (Z, Rf, K, n, z) Q = (sm_wp d 187 74 [l0, l1, l2, l3, some (.inl 0), l5] [] (Z, Rf, K, n, z) Q) := (w_iconst t187_71 rfl).trans (w_istore t187_72 rfl (Nat.le_of_ble_eq_true rfl) rfl)
set_option maxRecDepth 10000 in
theorem b187_74 {d : Nat} {l0 : Option sm_V} {l1 : Option sm_V} {l2 : Option sm_V} {l3 : Option sm_V} {x4 : Int} {l5 : Option sm_V} {Z : Nat → Nat → Int} {Rf : Nat → Nat → Option Nat} {K : Nat → Nat × Nat} {n z : Nat} {Q : Option sm_V → sm_S → Prop} : sm_wp d 187 74 [l0, l1, l2, l3, some (.inl x4), l5] [] (Z, Rf, K, n, z) Q = (if (100 : Int) ≤ wr x4 then sm_wp d 187 105 [l0, l1, l2, l3, some (.inl x4), l5] [] (Z, Rf, K, n, z) Q else sm_wp d 187 81 [l0, l1, l2, l3, some (.inl x4), l5] [] (Z, Rf, K, n, z) Q) := (w_iload t187_74 rfl rfl).trans ((w_bipush t187_76 rfl).trans (w_icge t187_78 rfl wl_100 rfl rfl))
set_option maxRecDepth 10000 in
theorem b187_81 {d : Nat} {r0 : Nat} {l1 : Option sm_V} {l2 : Option sm_V} {l3 : Option sm_V} {x4 : Int} {l5 : Option sm_V} {Z : Nat → Nat → Int} {Rf : Nat → Nat → Option Nat} {K : Nat → Nat × Nat} {n z : Nat} {Q : Option sm_V → sm_S → Prop} : sm_wp (d + 1) 187 81 [some (.inr (some r0)), l1, l2, l3, some (.inl x4), l5] [] (Z, Rf, K, n, z) Q = ((K r0).1 = 11 ∧ sm_call d 186 [.inr (some r0), .inl x4] (Z, Rf, K, n, z) (sm_cont (d + 1) 187 87 [some (.inr (some r0)), l1, l2, l3, some (.inl x4), l5] [] Q)) := (w_aload_n t187_81 rfl rfl).trans ((w_iload t187_82 rfl rfl).trans (w_callV t187_84 rfl rfl rfl rfl (Nat.le_of_ble_eq_true rfl) (Nat.le_of_ble_eq_true rfl) rfl (by decide)))
set_option maxRecDepth 10000 in
theorem b187_87 {d : Nat} {l0 : Option sm_V} {l1 : Option sm_V} {l2 : Option sm_V} {l3 : Option sm_V} {l4 : Option sm_V} {l5 : Option sm_V} {s0 : Int} {Z : Nat → Nat → Int} {Rf : Nat → Nat → Option Nat} {K : Nat → Nat × Nat} {n z : Nat} {Q : Option sm_V → sm_S → Prop} : sm_wp d 187 87 [l0, l1, l2, l3, l4, l5] [.inl s0] (Z, Rf, K, n, z) Q = (if wr s0 = 0 then sm_wp d 187 99 [l0, l1, l2, l3, l4, l5] [] (Z, Rf, K, n, z) Q else sm_wp d 187 90 [l0, l1, l2, l3, l4, l5] [] (Z, Rf, K, n, z) Q) := w_ifeq t187_87 rfl rfl rfl
set_option maxRecDepth 10000 in
theorem b187_90 {d : Nat} {r0 : Nat} {x1 : Int} {x2 : Int} {l3 : Option sm_V} {x4 : Int} {l5 : Option sm_V} {Z : Nat → Nat → Int} {Rf : Nat → Nat → Option Nat} {K : Nat → Nat × Nat} {n z : Nat} {Q : Option sm_V → sm_S → Prop} : sm_wp (d + 1) 187 90 [some (.inr (some r0)), some (.inl x1), some (.inl x2), l3, some (.inl x4), l5] [] (Z, Rf, K, n, z) Q = ((K r0).1 = 11 ∧ sm_call d 185 [.inr (some r0), .inl x1, .inl x2, .inl x4, .inl ((-1))] (Z, Rf, K, n, z) (sm_cont (d + 1) 187 99 [some (.inr (some r0)), some (.inl x1), some (.inl x2), l3, some (.inl x4), l5] [] Q)) := (w_aload_n t187_90 rfl rfl).trans ((w_iload_n t187_91 rfl rfl).trans ((w_iload_n t187_92 rfl rfl).trans ((w_iload t187_93 rfl rfl).trans ((w_iconst t187_95 rfl).trans (w_callV t187_96 rfl rfl rfl rfl (Nat.le_of_ble_eq_true rfl) (Nat.le_of_ble_eq_true rfl) rfl (by decide))))))
set_option maxRecDepth 10000 in
theorem b187_99 {d : Nat} {l0 : Option sm_V} {l1 : Option sm_V} {l2 : Option sm_V} {l3 : Option sm_V} {x4 : Int} {l5 : Option sm_V} {Z : Nat → Nat → Int} {Rf : Nat → Nat → Option Nat} {K : Nat → Nat × Nat} {n z : Nat} {Q : Option sm_V → sm_S → Prop} : sm_wp d 187 99 [l0, l1, l2, l3, some (.inl x4), l5] [] (Z, Rf, K, n, z) Q = (sm_wp d 187 74 [l0, l1, l2, l3, some (.inl (x4 + 1)), l5] [] (Z, Rf, K, n, z) Q) := (w_iinc t187_99 rfl rfl (Nat.le_of_ble_eq_true rfl) rfl).trans (w_goto t187_102 rfl)
set_option maxRecDepth 10000 in
theorem b187_105 {d : Nat} {l0 : Option sm_V} {l1 : Option sm_V} {l2 : Option sm_V} {l3 : Option sm_V} {l4 : Option sm_V} {l5 : Option sm_V} {Z : Nat → Nat → Int} {Rf : Nat → Nat → Option Nat} {K : Nat → Nat × Nat} {n z : Nat} {Q : Option sm_V → sm_S → Prop} : sm_wp d 187 105 [l0, l1, l2, l3, l4, l5] [] (Z, Rf, K, n, z) Q = (sm_wp d 187 108 [l0, l1, l2, l3, some (.inl 0), l5] [] (Z, Rf, K, n, z) Q) := (w_iconst t187_105 rfl).trans (w_istore t187_106 rfl (Nat.le_of_ble_eq_true rfl) rfl)
set_option maxRecDepth 10000 in
theorem b187_108 {d : Nat} {l0 : Option sm_V} {l1 : Option sm_V} {l2 : Option sm_V} {l3 : Option sm_V} {x4 : Int} {l5 : Option sm_V} {Z : Nat → Nat → Int} {Rf : Nat → Nat → Option Nat} {K : Nat → Nat × Nat} {n z : Nat} {Q : Option sm_V → sm_S → Prop} : sm_wp d 187 108 [l0, l1, l2, l3, some (.inl x4), l5] [] (Z, Rf, K, n, z) Q = (if (100 : Int) ≤ wr x4 then sm_wp d 187 168 [l0, l1, l2, l3, some (.inl x4), l5] [] (Z, Rf, K, n, z) Q else sm_wp d 187 115 [l0, l1, l2, l3, some (.inl x4), l5] [] (Z, Rf, K, n, z) Q) := (w_iload t187_108 rfl rfl).trans ((w_bipush t187_110 rfl).trans (w_icge t187_112 rfl wl_100 rfl rfl))
set_option maxRecDepth 10000 in
theorem b187_115 {d : Nat} {l0 : Option sm_V} {l1 : Option sm_V} {l2 : Option sm_V} {l3 : Option sm_V} {x4 : Int} {l5 : Option sm_V} {Z : Nat → Nat → Int} {Rf : Nat → Nat → Option Nat} {K : Nat → Nat × Nat} {n z : Nat} {Q : Option sm_V → sm_S → Prop} : sm_wp d 187 115 [l0, l1, l2, l3, some (.inl x4), l5] [] (Z, Rf, K, n, z) Q = (sm_wp d 187 121 [l0, l1, l2, l3, some (.inl x4), some (.inl (x4 + 1))] [] (Z, Rf, K, n, z) Q) := (w_iload t187_115 rfl rfl).trans ((w_iconst t187_117 rfl).trans ((w_iadd t187_118 rfl).trans (w_istore t187_119 rfl (Nat.le_of_ble_eq_true rfl) rfl)))
set_option maxRecDepth 10000 in
theorem b187_121 {d : Nat} {l0 : Option sm_V} {l1 : Option sm_V} {l2 : Option sm_V} {l3 : Option sm_V} {l4 : Option sm_V} {x5 : Int} {Z : Nat → Nat → Int} {Rf : Nat → Nat → Option Nat} {K : Nat → Nat × Nat} {n z : Nat} {Q : Option sm_V → sm_S → Prop} : sm_wp d 187 121 [l0, l1, l2, l3, l4, some (.inl x5)] [] (Z, Rf, K, n, z) Q = (if (100 : Int) ≤ wr x5 then sm_wp d 187 162 [l0, l1, l2, l3, l4, some (.inl x5)] [] (Z, Rf, K, n, z) Q else sm_wp d 187 128 [l0, l1, l2, l3, l4, some (.inl x5)] [] (Z, Rf, K, n, z) Q) := (w_iload t187_121 rfl rfl).trans ((w_bipush t187_123 rfl).trans (w_icge t187_125 rfl wl_100 rfl rfl))
set_option maxRecDepth 10000 in
theorem b187_128 {d : Nat} {r0 : Nat} {l1 : Option sm_V} {l2 : Option sm_V} {l3 : Option sm_V} {x4 : Int} {l5 : Option sm_V} {Z : Nat → Nat → Int} {Rf : Nat → Nat → Option Nat} {K : Nat → Nat × Nat} {n z : Nat} {Q : Option sm_V → sm_S → Prop} : sm_wp (d + 1) 187 128 [some (.inr (some r0)), l1, l2, l3, some (.inl x4), l5] [] (Z, Rf, K, n, z) Q = ((K r0).1 = 11 ∧ sm_call d 186 [.inr (some r0), .inl x4] (Z, Rf, K, n, z) (sm_cont (d + 1) 187 134 [some (.inr (some r0)), l1, l2, l3, some (.inl x4), l5] [] Q)) := (w_aload_n t187_128 rfl rfl).trans ((w_iload t187_129 rfl rfl).trans (w_callV t187_131 rfl rfl rfl rfl (Nat.le_of_ble_eq_true rfl) (Nat.le_of_ble_eq_true rfl) rfl (by decide)))
set_option maxRecDepth 10000 in
theorem b187_134 {d : Nat} {l0 : Option sm_V} {l1 : Option sm_V} {l2 : Option sm_V} {l3 : Option sm_V} {l4 : Option sm_V} {l5 : Option sm_V} {s0 : Int} {Z : Nat → Nat → Int} {Rf : Nat → Nat → Option Nat} {K : Nat → Nat × Nat} {n z : Nat} {Q : Option sm_V → sm_S → Prop} : sm_wp d 187 134 [l0, l1, l2, l3, l4, l5] [.inl s0] (Z, Rf, K, n, z) Q = (if wr s0 = 0 then sm_wp d 187 156 [l0, l1, l2, l3, l4, l5] [] (Z, Rf, K, n, z) Q else sm_wp d 187 137 [l0, l1, l2, l3, l4, l5] [] (Z, Rf, K, n, z) Q) := w_ifeq t187_134 rfl rfl rfl
set_option maxRecDepth 10000 in
theorem b187_137 {d : Nat} {r0 : Nat} {l1 : Option sm_V} {l2 : Option sm_V} {l3 : Option sm_V} {l4 : Option sm_V} {x5 : Int} {Z : Nat → Nat → Int} {Rf : Nat → Nat → Option Nat} {K : Nat → Nat × Nat} {n z : Nat} {Q : Option sm_V → sm_S → Prop} : sm_wp (d + 1) 187 137 [some (.inr (some r0)), l1, l2, l3, l4, some (.inl x5)] [] (Z, Rf, K, n, z) Q = ((K r0).1 = 11 ∧ sm_call d 186 [.inr (some r0), .inl x5] (Z, Rf, K, n, z) (sm_cont (d + 1) 187 143 [some (.inr (some r0)), l1, l2, l3, l4, some (.inl x5)] [] Q)) := (w_aload_n t187_137 rfl rfl).trans ((w_iload t187_138 rfl rfl).trans (w_callV t187_140 rfl rfl rfl rfl (Nat.le_of_ble_eq_true rfl) (Nat.le_of_ble_eq_true rfl) rfl (by decide)))
set_option maxRecDepth 10000 in
theorem b187_143 {d : Nat} {l0 : Option sm_V} {l1 : Option sm_V} {l2 : Option sm_V} {l3 : Option sm_V} {l4 : Option sm_V} {l5 : Option sm_V} {s0 : Int} {Z : Nat → Nat → Int} {Rf : Nat → Nat → Option Nat} {K : Nat → Nat × Nat} {n z : Nat} {Q : Option sm_V → sm_S → Prop} : sm_wp d 187 143 [l0, l1, l2, l3, l4, l5] [.inl s0] (Z, Rf, K, n, z) Q = (if wr s0 = 0 then sm_wp d 187 156 [l0, l1, l2, l3, l4, l5] [] (Z, Rf, K, n, z) Q else sm_wp d 187 146 [l0, l1, l2, l3, l4, l5] [] (Z, Rf, K, n, z) Q) := w_ifeq t187_143 rfl rfl rfl
set_option maxRecDepth 10000 in
theorem b187_146 {d : Nat} {r0 : Nat} {x1 : Int} {x2 : Int} {l3 : Option sm_V} {x4 : Int} {x5 : Int} {Z : Nat → Nat → Int} {Rf : Nat → Nat → Option Nat} {K : Nat → Nat × Nat} {n z : Nat} {Q : Option sm_V → sm_S → Prop} : sm_wp (d + 1) 187 146 [some (.inr (some r0)), some (.inl x1), some (.inl x2), l3, some (.inl x4), some (.inl x5)] [] (Z, Rf, K, n, z) Q = ((K r0).1 = 11 ∧ sm_call d 185 [.inr (some r0), .inl x1, .inl x2, .inl x4, .inl x5] (Z, Rf, K, n, z) (sm_cont (d + 1) 187 156 [some (.inr (some r0)), some (.inl x1), some (.inl x2), l3, some (.inl x4), some (.inl x5)] [] Q)) := (w_aload_n t187_146 rfl rfl).trans ((w_iload_n t187_147 rfl rfl).trans ((w_iload_n t187_148 rfl rfl).trans ((w_iload t187_149 rfl rfl).trans ((w_iload t187_151 rfl rfl).trans (w_callV t187_153 rfl rfl rfl rfl (Nat.le_of_ble_eq_true rfl) (Nat.le_of_ble_eq_true rfl) rfl (by decide))))))
set_option maxRecDepth 10000 in
theorem b187_156 {d : Nat} {l0 : Option sm_V} {l1 : Option sm_V} {l2 : Option sm_V} {l3 : Option sm_V} {l4 : Option sm_V} {x5 : Int} {Z : Nat → Nat → Int} {Rf : Nat → Nat → Option Nat} {K : Nat → Nat × Nat} {n z : Nat} {Q : Option sm_V → sm_S → Prop} : sm_wp d 187 156 [l0, l1, l2, l3, l4, some (.inl x5)] [] (Z, Rf, K, n, z) Q = (sm_wp d 187 121 [l0, l1, l2, l3, l4, some (.inl (x5 + 1))] [] (Z, Rf, K, n, z) Q) := (w_iinc t187_156 rfl rfl (Nat.le_of_ble_eq_true rfl) rfl).trans (w_goto t187_159 rfl)
set_option maxRecDepth 10000 in
theorem b187_162 {d : Nat} {l0 : Option sm_V} {l1 : Option sm_V} {l2 : Option sm_V} {l3 : Option sm_V} {x4 : Int} {l5 : Option sm_V} {Z : Nat → Nat → Int} {Rf : Nat → Nat → Option Nat} {K : Nat → Nat × Nat} {n z : Nat} {Q : Option sm_V → sm_S → Prop} : sm_wp d 187 162 [l0, l1, l2, l3, some (.inl x4), l5] [] (Z, Rf, K, n, z) Q = (sm_wp d 187 108 [l0, l1, l2, l3, some (.inl (x4 + 1)), l5] [] (Z, Rf, K, n, z) Q) := (w_iinc t187_162 rfl rfl (Nat.le_of_ble_eq_true rfl) rfl).trans (w_goto t187_165 rfl)
set_option maxRecDepth 10000 in
theorem b187_168 {d : Nat} {r0 : Nat} {l1 : Option sm_V} {l2 : Option sm_V} {l3 : Option sm_V} {l4 : Option sm_V} {l5 : Option sm_V} {Z : Nat → Nat → Int} {Rf : Nat → Nat → Option Nat} {K : Nat → Nat × Nat} {n z : Nat} {Q : Option sm_V → sm_S → Prop} : sm_wp d 187 168 [some (.inr (some r0)), l1, l2, l3, l4, l5] [] (Z, Rf, K, n, z) Q = ((K r0).1 = 11 ∧ (if wr (Z r0 31) = (-1 : Int) then sm_wp d 187 176 [some (.inr (some r0)), l1, l2, l3, l4, l5] [] (Z, Rf, K, n, z) Q else sm_wp d 187 178 [some (.inr (some r0)), l1, l2, l3, l4, l5] [] (Z, Rf, K, n, z) Q)) := (w_aload_n t187_168 rfl rfl).trans ((w_getI t187_169 rfl (by decide)).trans (congrArg (And _) ((w_iconst t187_172 rfl).trans (w_icne t187_173 rfl wl_m1 rfl rfl))))
set_option maxRecDepth 10000 in
theorem b187_176 {d : Nat} {l0 : Option sm_V} {l1 : Option sm_V} {l2 : Option sm_V} {l3 : Option sm_V} {l4 : Option sm_V} {l5 : Option sm_V} {Z : Nat → Nat → Int} {Rf : Nat → Nat → Option Nat} {K : Nat → Nat × Nat} {n z : Nat} {Q : Option sm_V → sm_S → Prop} : sm_wp d 187 176 [l0, l1, l2, l3, l4, l5] [] (Z, Rf, K, n, z) Q = (Q (some (.inl ((-1)))) (Z, Rf, K, n, z)) := (w_iconst t187_176 rfl).trans (w_iret t187_177)
set_option maxRecDepth 10000 in
theorem b187_178 {d : Nat} {l0 : Option sm_V} {l1 : Option sm_V} {l2 : Option sm_V} {x3 : Int} {l4 : Option sm_V} {l5 : Option sm_V} {Z : Nat → Nat → Int} {Rf : Nat → Nat → Option Nat} {K : Nat → Nat × Nat} {n z : Nat} {Q : Option sm_V → sm_S → Prop} : sm_wp d 187 178 [l0, l1, l2, some (.inl x3), l4, l5] [] (Z, Rf, K, n, z) Q = (if wr x3 = 0 then sm_wp d 187 182 [l0, l1, l2, some (.inl x3), l4, l5] [] (Z, Rf, K, n, z) Q else sm_wp d 187 189 [l0, l1, l2, some (.inl x3), l4, l5] [] (Z, Rf, K, n, z) Q) := (w_iload_n t187_178 rfl rfl).trans (w_ifne t187_179 rfl rfl rfl)
set_option maxRecDepth 10000 in
theorem b187_182 {d : Nat} {r0 : Nat} {l1 : Option sm_V} {l2 : Option sm_V} {l3 : Option sm_V} {l4 : Option sm_V} {l5 : Option sm_V} {Z : Nat → Nat → Int} {Rf : Nat → Nat → Option Nat} {K : Nat → Nat × Nat} {n z : Nat} {Q : Option sm_V → sm_S → Prop} : sm_wp d 187 182 [some (.inr (some r0)), l1, l2, l3, l4, l5] [] (Z, Rf, K, n, z) Q = ((K r0).1 = 11 ∧ sm_wp d 187 217 [some (.inr (some r0)), l1, l2, l3, l4, l5] [.inl (Z r0 31)] (Z, Rf, K, n, z) Q) := (w_aload_n t187_182 rfl rfl).trans ((w_getI t187_183 rfl (by decide)).trans (congrArg (And _) (w_goto t187_186 rfl)))
set_option maxRecDepth 10000 in
theorem b187_189 {d : Nat} {l0 : Option sm_V} {l1 : Option sm_V} {l2 : Option sm_V} {x3 : Int} {l4 : Option sm_V} {l5 : Option sm_V} {Z : Nat → Nat → Int} {Rf : Nat → Nat → Option Nat} {K : Nat → Nat × Nat} {n z : Nat} {Q : Option sm_V → sm_S → Prop} : sm_wp d 187 189 [l0, l1, l2, some (.inl x3), l4, l5] [] (Z, Rf, K, n, z) Q = (if wr x3 = (1 : Int) then sm_wp d 187 194 [l0, l1, l2, some (.inl x3), l4, l5] [] (Z, Rf, K, n, z) Q else sm_wp d 187 201 [l0, l1, l2, some (.inl x3), l4, l5] [] (Z, Rf, K, n, z) Q) := (w_iload_n t187_189 rfl rfl).trans ((w_iconst t187_190 rfl).trans (w_icne t187_191 rfl wl_1 rfl rfl))
set_option maxRecDepth 10000 in
theorem b187_194 {d : Nat} {r0 : Nat} {l1 : Option sm_V} {l2 : Option sm_V} {l3 : Option sm_V} {l4 : Option sm_V} {l5 : Option sm_V} {Z : Nat → Nat → Int} {Rf : Nat → Nat → Option Nat} {K : Nat → Nat × Nat} {n z : Nat} {Q : Option sm_V → sm_S → Prop} : sm_wp d 187 194 [some (.inr (some r0)), l1, l2, l3, l4, l5] [] (Z, Rf, K, n, z) Q = ((K r0).1 = 11 ∧ sm_wp d 187 217 [some (.inr (some r0)), l1, l2, l3, l4, l5] [.inl (Z r0 32)] (Z, Rf, K, n, z) Q) := (w_aload_n t187_194 rfl rfl).trans ((w_getI t187_195 rfl (by decide)).trans (congrArg (And _) (w_goto t187_198 rfl)))
set_option maxRecDepth 10000 in
theorem b187_201 {d : Nat} {l0 : Option sm_V} {l1 : Option sm_V} {l2 : Option sm_V} {x3 : Int} {l4 : Option sm_V} {l5 : Option sm_V} {Z : Nat → Nat → Int} {Rf : Nat → Nat → Option Nat} {K : Nat → Nat × Nat} {n z : Nat} {Q : Option sm_V → sm_S → Prop} : sm_wp d 187 201 [l0, l1, l2, some (.inl x3), l4, l5] [] (Z, Rf, K, n, z) Q = (if wr x3 = (2 : Int) then sm_wp d 187 206 [l0, l1, l2, some (.inl x3), l4, l5] [] (Z, Rf, K, n, z) Q else sm_wp d 187 213 [l0, l1, l2, some (.inl x3), l4, l5] [] (Z, Rf, K, n, z) Q) := (w_iload_n t187_201 rfl rfl).trans ((w_iconst t187_202 rfl).trans (w_icne t187_203 rfl wl_2 rfl rfl))
set_option maxRecDepth 10000 in
theorem b187_206 {d : Nat} {r0 : Nat} {l1 : Option sm_V} {l2 : Option sm_V} {l3 : Option sm_V} {l4 : Option sm_V} {l5 : Option sm_V} {Z : Nat → Nat → Int} {Rf : Nat → Nat → Option Nat} {K : Nat → Nat × Nat} {n z : Nat} {Q : Option sm_V → sm_S → Prop} : sm_wp d 187 206 [some (.inr (some r0)), l1, l2, l3, l4, l5] [] (Z, Rf, K, n, z) Q = ((K r0).1 = 11 ∧ sm_wp d 187 217 [some (.inr (some r0)), l1, l2, l3, l4, l5] [.inl (Z r0 33)] (Z, Rf, K, n, z) Q) := (w_aload_n t187_206 rfl rfl).trans ((w_getI t187_207 rfl (by decide)).trans (congrArg (And _) (w_goto t187_210 rfl)))
set_option maxRecDepth 10000 in
theorem b187_213 {d : Nat} {r0 : Nat} {l1 : Option sm_V} {l2 : Option sm_V} {l3 : Option sm_V} {l4 : Option sm_V} {l5 : Option sm_V} {Z : Nat → Nat → Int} {Rf : Nat → Nat → Option Nat} {K : Nat → Nat × Nat} {n z : Nat} {Q : Option sm_V → sm_S → Prop} : sm_wp d 187 213 [some (.inr (some r0)), l1, l2, l3, l4, l5] [] (Z, Rf, K, n, z) Q = ((K r0).1 = 11 ∧ sm_wp d 187 217 [some (.inr (some r0)), l1, l2, l3, l4, l5] [.inl (Z r0 34)] (Z, Rf, K, n, z) Q) := (w_aload_n t187_213 rfl rfl).trans ((w_getI t187_214 rfl (by decide)).trans (congrArg (And _) rfl))
set_option maxRecDepth 10000 in
theorem b187_217 {d : Nat} {l0 : Option sm_V} {l1 : Option sm_V} {l2 : Option sm_V} {l3 : Option sm_V} {l4 : Option sm_V} {l5 : Option sm_V} {s0 : Int} {Z : Nat → Nat → Int} {Rf : Nat → Nat → Option Nat} {K : Nat → Nat × Nat} {n z : Nat} {Q : Option sm_V → sm_S → Prop} : sm_wp d 187 217 [l0, l1, l2, l3, l4, l5] [.inl s0] (Z, Rf, K, n, z) Q = (Q (some (.inl s0)) (Z, Rf, K, n, z)) := w_iret t187_217
theorem t188_0 : sm_at 188 0 = some (1, .aload_n 0, 0, 0, 0) := rfl
theorem t188_1 : sm_at 188 1 = some (1, .iload_n 1, 0, 0, 0) := rfl
theorem t188_2 : sm_at 188 2 = some (3, .invokevirtual 85, 122, 2, 0) := rfl
theorem t188_5 : sm_at 188 5 = some (3, .ifCond .eq 35, 0, 0, 0) := rfl
theorem t188_8 : sm_at 188 8 = some (1, .iload_n 2, 0, 0, 0) := rfl
theorem t188_9 : sm_at 188 9 = some (1, .iconst 0, 0, 0, 0) := rfl
theorem t188_10 : sm_at 188 10 = some (2, .bipush 99, 0, 0, 0) := rfl
theorem t188_12 : sm_at 188 12 = some (3, .invokestatic 75, 120, 3, 0) := rfl
theorem t188_15 : sm_at 188 15 = some (3, .ifCond .eq 25, 0, 0, 0) := rfl
theorem t188_18 : sm_at 188 18 = some (1, .iload_n 3, 0, 0, 0) := rfl
theorem t188_19 : sm_at 188 19 = some (1, .iconst 0, 0, 0, 0) := rfl
theorem t188_20 : sm_at 188 20 = some (2, .bipush 10, 0, 0, 0) := rfl
theorem t188_22 : sm_at 188 22 = some (3, .invokestatic 75, 120, 3, 0) := rfl
theorem t188_25 : sm_at 188 25 = some (3, .ifCond .eq 15, 0, 0, 0) := rfl
theorem t188_28 : sm_at 188 28 = some (1, .aload_n 0, 0, 0, 0) := rfl
theorem t188_29 : sm_at 188 29 = some (3, .getfield 7, 11, 0, 0) := rfl
theorem t188_32 : sm_at 188 32 = some (2, .bipush 7, 0, 0, 0) := rfl
theorem t188_34 : sm_at 188 34 = some (1, .iaload, 0, 0, 0) := rfl
theorem t188_35 : sm_at 188 35 = some (2, .bipush 6, 0, 0, 0) := rfl
theorem t188_37 : sm_at 188 37 = some (3, .if_icmp .ne 5, 0, 0, 0) := rfl
theorem t188_40 : sm_at 188 40 = some (1, .iconst (-1), 0, 0, 0) := rfl
theorem t188_41 : sm_at 188 41 = some (1, .ireturn, 0, 0, 0) := rfl
theorem t188_42 : sm_at 188 42 = some (1, .iconst 0, 0, 0, 0) := rfl
theorem t188_43 : sm_at 188 43 = some (2, .istore 4, 0, 0, 0) := rfl
theorem t188_45 : sm_at 188 45 = some (2, .iload 4, 0, 0, 0) := rfl
theorem t188_47 : sm_at 188 47 = some (1, .aload_n 0, 0, 0, 0) := rfl
theorem t188_48 : sm_at 188 48 = some (3, .getfield 7, 11, 0, 0) := rfl
theorem t188_51 : sm_at 188 51 = some (2, .bipush 7, 0, 0, 0) := rfl
theorem t188_53 : sm_at 188 53 = some (1, .iaload, 0, 0, 0) := rfl
theorem t188_54 : sm_at 188 54 = some (3, .if_icmp .ge 28, 0, 0, 0) := rfl
theorem t188_57 : sm_at 188 57 = some (1, .aload_n 0, 0, 0, 0) := rfl
theorem t188_58 : sm_at 188 58 = some (3, .getfield 7, 11, 0, 0) := rfl
theorem t188_61 : sm_at 188 61 = some (3, .sipush 1900, 0, 0, 0) := rfl
theorem t188_64 : sm_at 188 64 = some (1, .iconst 3, 0, 0, 0) := rfl
theorem t188_65 : sm_at 188 65 = some (2, .iload 4, 0, 0, 0) := rfl
theorem t188_67 : sm_at 188 67 = some (1, .imul, 0, 0, 0) := rfl
theorem t188_68 : sm_at 188 68 = some (1, .iadd, 0, 0, 0) := rfl
theorem t188_69 : sm_at 188 69 = some (1, .iaload, 0, 0, 0) := rfl
theorem t188_70 : sm_at 188 70 = some (1, .iload_n 1, 0, 0, 0) := rfl
theorem t188_71 : sm_at 188 71 = some (3, .if_icmp .ne 5, 0, 0, 0) := rfl
theorem t188_74 : sm_at 188 74 = some (1, .iconst (-1), 0, 0, 0) := rfl
theorem t188_75 : sm_at 188 75 = some (1, .ireturn, 0, 0, 0) := rfl
theorem t188_76 : sm_at 188 76 = some (3, .iinc 4 1, 0, 0, 0) := rfl
theorem t188_79 : sm_at 188 79 = some (3, .goto (-34), 0, 0, 0) := rfl
theorem t188_82 : sm_at 188 82 = some (3, .sipush 1900, 0, 0, 0) := rfl
theorem t188_85 : sm_at 188 85 = some (1, .iconst 3, 0, 0, 0) := rfl
theorem t188_86 : sm_at 188 86 = some (1, .aload_n 0, 0, 0, 0) := rfl
theorem t188_87 : sm_at 188 87 = some (3, .getfield 7, 11, 0, 0) := rfl
theorem t188_90 : sm_at 188 90 = some (2, .bipush 7, 0, 0, 0) := rfl
theorem t188_92 : sm_at 188 92 = some (1, .iaload, 0, 0, 0) := rfl
theorem t188_93 : sm_at 188 93 = some (1, .imul, 0, 0, 0) := rfl
theorem t188_94 : sm_at 188 94 = some (1, .iadd, 0, 0, 0) := rfl
theorem t188_95 : sm_at 188 95 = some (2, .istore 4, 0, 0, 0) := rfl
theorem t188_97 : sm_at 188 97 = some (1, .aload_n 0, 0, 0, 0) := rfl
theorem t188_98 : sm_at 188 98 = some (3, .getfield 7, 11, 0, 0) := rfl
theorem t188_101 : sm_at 188 101 = some (2, .iload 4, 0, 0, 0) := rfl
theorem t188_103 : sm_at 188 103 = some (1, .iload_n 1, 0, 0, 0) := rfl
theorem t188_104 : sm_at 188 104 = some (1, .iastore, 0, 0, 0) := rfl
theorem t188_105 : sm_at 188 105 = some (1, .aload_n 0, 0, 0, 0) := rfl
theorem t188_106 : sm_at 188 106 = some (3, .getfield 7, 11, 0, 0) := rfl
set_option maxRecDepth 100000 in
theorem t188_109 : sm_at 188 109 = some (2, .iload 4, 0, 0, 0) := rfl
set_option maxRecDepth 100000 in
theorem t188_111 : sm_at 188 111 = some (1, .iconst 1, 0, 0, 0) := rfl
set_option maxRecDepth 100000 in
theorem t188_112 : sm_at 188 112 = some (1, .iadd, 0, 0, 0) := rfl
set_option maxRecDepth 100000 in
theorem t188_113 : sm_at 188 113 = some (1, .iload_n 2, 0, 0, 0) := rfl
set_option maxRecDepth 100000 in
theorem t188_114 : sm_at 188 114 = some (1, .iastore, 0, 0, 0) := rfl
set_option maxRecDepth 100000 in
theorem t188_115 : sm_at 188 115 = some (1, .aload_n 0, 0, 0, 0) := rfl
set_option maxRecDepth 100000 in
theorem t188_116 : sm_at 188 116 = some (3, .getfield 7, 11, 0, 0) := rfl
set_option maxRecDepth 100000 in
theorem t188_119 : sm_at 188 119 = some (2, .iload 4, 0, 0, 0) := rfl
set_option maxRecDepth 100000 in
theorem t188_121 : sm_at 188 121 = some (1, .iconst 2, 0, 0, 0) := rfl
set_option maxRecDepth 100000 in
theorem t188_122 : sm_at 188 122 = some (1, .iadd, 0, 0, 0) := rfl
set_option maxRecDepth 100000 in
theorem t188_123 : sm_at 188 123 = some (1, .iload_n 3, 0, 0, 0) := rfl
set_option maxRecDepth 100000 in
theorem t188_124 : sm_at 188 124 = some (1, .iastore, 0, 0, 0) := rfl
set_option maxRecDepth 100000 in
theorem t188_125 : sm_at 188 125 = some (1, .aload_n 0, 0, 0, 0) := rfl
set_option maxRecDepth 100000 in
theorem t188_126 : sm_at 188 126 = some (3, .getfield 7, 11, 0, 0) := rfl
set_option maxRecDepth 100000 in
theorem t188_129 : sm_at 188 129 = some (2, .bipush 7, 0, 0, 0) := rfl
set_option maxRecDepth 100000 in
theorem t188_131 : sm_at 188 131 = some (1, .dup2, 0, 0, 0) := rfl
set_option maxRecDepth 100000 in
theorem t188_132 : sm_at 188 132 = some (1, .iaload, 0, 0, 0) := rfl
set_option maxRecDepth 100000 in
theorem t188_133 : sm_at 188 133 = some (1, .iconst 1, 0, 0, 0) := rfl
set_option maxRecDepth 100000 in
theorem t188_134 : sm_at 188 134 = some (1, .iadd, 0, 0, 0) := rfl
set_option maxRecDepth 100000 in
theorem t188_135 : sm_at 188 135 = some (1, .iastore, 0, 0, 0) := rfl
set_option maxRecDepth 100000 in
theorem t188_136 : sm_at 188 136 = some (1, .aload_n 0, 0, 0, 0) := rfl
set_option maxRecDepth 100000 in
theorem t188_137 : sm_at 188 137 = some (3, .getfield 7, 11, 0, 0) := rfl
set_option maxRecDepth 100000 in
theorem t188_140 : sm_at 188 140 = some (2, .bipush 7, 0, 0, 0) := rfl
set_option maxRecDepth 100000 in
theorem t188_142 : sm_at 188 142 = some (1, .iaload, 0, 0, 0) := rfl
set_option maxRecDepth 100000 in
theorem t188_143 : sm_at 188 143 = some (1, .iconst 1, 0, 0, 0) := rfl
set_option maxRecDepth 100000 in
theorem t188_144 : sm_at 188 144 = some (1, .isub, 0, 0, 0) := rfl
set_option maxRecDepth 100000 in
theorem t188_145 : sm_at 188 145 = some (1, .ireturn, 0, 0, 0) := rfl
set_option maxRecDepth 10000 in
theorem b188_0 {d : Nat} {r0 : Nat} {x1 : Int} {l2 : Option sm_V} {l3 : Option sm_V} {l4 : Option sm_V} {Z : Nat → Nat → Int} {Rf : Nat → Nat → Option Nat} {K : Nat → Nat × Nat} {n z : Nat} {Q : Option sm_V → sm_S → Prop} : sm_wp (d + 1) 188 0 [some (.inr (some r0)), some (.inl x1), l2, l3, l4] [] (Z, Rf, K, n, z) Q = ((K r0).1 = 11 ∧ sm_call d 122 [.inr (some r0), .inl x1] (Z, Rf, K, n, z) (sm_cont (d + 1) 188 5 [some (.inr (some r0)), some (.inl x1), l2, l3, l4] [] Q)) := (w_aload_n t188_0 rfl rfl).trans ((w_iload_n t188_1 rfl rfl).trans (w_callV t188_2 rfl rfl rfl rfl (Nat.le_of_ble_eq_true rfl) (Nat.le_of_ble_eq_true rfl) rfl (by decide)))
set_option maxRecDepth 10000 in
theorem b188_5 {d : Nat} {l0 : Option sm_V} {l1 : Option sm_V} {l2 : Option sm_V} {l3 : Option sm_V} {l4 : Option sm_V} {s0 : Int} {Z : Nat → Nat → Int} {Rf : Nat → Nat → Option Nat} {K : Nat → Nat × Nat} {n z : Nat} {Q : Option sm_V → sm_S → Prop} : sm_wp d 188 5 [l0, l1, l2, l3, l4] [.inl s0] (Z, Rf, K, n, z) Q = (if wr s0 = 0 then sm_wp d 188 40 [l0, l1, l2, l3, l4] [] (Z, Rf, K, n, z) Q else sm_wp d 188 8 [l0, l1, l2, l3, l4] [] (Z, Rf, K, n, z) Q) := w_ifeq t188_5 rfl rfl rfl
set_option maxRecDepth 10000 in
theorem b188_8 {d : Nat} {l0 : Option sm_V} {l1 : Option sm_V} {x2 : Int} {l3 : Option sm_V} {l4 : Option sm_V} {Z : Nat → Nat → Int} {Rf : Nat → Nat → Option Nat} {K : Nat → Nat × Nat} {n z : Nat} {Q : Option sm_V → sm_S → Prop} : sm_wp (d + 1) 188 8 [l0, l1, some (.inl x2), l3, l4] [] (Z, Rf, K, n, z) Q = (sm_call d 120 [.inl x2, .inl 0, .inl 99] (Z, Rf, K, n, z) (sm_cont (d + 1) 188 15 [l0, l1, some (.inl x2), l3, l4] [] Q)) := (w_iload_n t188_8 rfl rfl).trans ((w_iconst t188_9 rfl).trans ((w_bipush t188_10 rfl).trans (w_callS t188_12 rfl rfl rfl rfl (Nat.le_of_ble_eq_true rfl) (Nat.le_of_ble_eq_true rfl) rfl)))
set_option maxRecDepth 10000 in
theorem b188_15 {d : Nat} {l0 : Option sm_V} {l1 : Option sm_V} {l2 : Option sm_V} {l3 : Option sm_V} {l4 : Option sm_V} {s0 : Int} {Z : Nat → Nat → Int} {Rf : Nat → Nat → Option Nat} {K : Nat → Nat × Nat} {n z : Nat} {Q : Option sm_V → sm_S → Prop} : sm_wp d 188 15 [l0, l1, l2, l3, l4] [.inl s0] (Z, Rf, K, n, z) Q = (if wr s0 = 0 then sm_wp d 188 40 [l0, l1, l2, l3, l4] [] (Z, Rf, K, n, z) Q else sm_wp d 188 18 [l0, l1, l2, l3, l4] [] (Z, Rf, K, n, z) Q) := w_ifeq t188_15 rfl rfl rfl
set_option maxRecDepth 10000 in
theorem b188_18 {d : Nat} {l0 : Option sm_V} {l1 : Option sm_V} {l2 : Option sm_V} {x3 : Int} {l4 : Option sm_V} {Z : Nat → Nat → Int} {Rf : Nat → Nat → Option Nat} {K : Nat → Nat × Nat} {n z : Nat} {Q : Option sm_V → sm_S → Prop} : sm_wp (d + 1) 188 18 [l0, l1, l2, some (.inl x3), l4] [] (Z, Rf, K, n, z) Q = (sm_call d 120 [.inl x3, .inl 0, .inl 10] (Z, Rf, K, n, z) (sm_cont (d + 1) 188 25 [l0, l1, l2, some (.inl x3), l4] [] Q)) := (w_iload_n t188_18 rfl rfl).trans ((w_iconst t188_19 rfl).trans ((w_bipush t188_20 rfl).trans (w_callS t188_22 rfl rfl rfl rfl (Nat.le_of_ble_eq_true rfl) (Nat.le_of_ble_eq_true rfl) rfl)))
set_option maxRecDepth 10000 in
theorem b188_25 {d : Nat} {l0 : Option sm_V} {l1 : Option sm_V} {l2 : Option sm_V} {l3 : Option sm_V} {l4 : Option sm_V} {s0 : Int} {Z : Nat → Nat → Int} {Rf : Nat → Nat → Option Nat} {K : Nat → Nat × Nat} {n z : Nat} {Q : Option sm_V → sm_S → Prop} : sm_wp d 188 25 [l0, l1, l2, l3, l4] [.inl s0] (Z, Rf, K, n, z) Q = (if wr s0 = 0 then sm_wp d 188 40 [l0, l1, l2, l3, l4] [] (Z, Rf, K, n, z) Q else sm_wp d 188 28 [l0, l1, l2, l3, l4] [] (Z, Rf, K, n, z) Q) := w_ifeq t188_25 rfl rfl rfl
set_option maxRecDepth 10000 in
theorem b188_28 {d : Nat} {r0 : Nat} {l1 : Option sm_V} {l2 : Option sm_V} {l3 : Option sm_V} {l4 : Option sm_V} {Z : Nat → Nat → Int} {Rf : Nat → Nat → Option Nat} {K : Nat → Nat × Nat} {n z : Nat} {Q : Option sm_V → sm_S → Prop} : sm_wp d 188 28 [some (.inr (some r0)), l1, l2, l3, l4] [] (Z, Rf, K, n, z) Q = ((K r0).1 = 11 ∧ (Rf r0 0).isSome = true ∧ sm_rd (K (((Rf r0 0).getD 0))) ((7 : Int)) ∧ (if wr (Z (((Rf r0 0).getD 0)) 7) = (6 : Int) then sm_wp d 188 40 [some (.inr (some r0)), l1, l2, l3, l4] [] (Z, Rf, K, n, z) Q else sm_wp d 188 42 [some (.inr (some r0)), l1, l2, l3, l4] [] (Z, Rf, K, n, z) Q)) := (w_aload_n t188_28 rfl rfl).trans ((w_getR t188_29 rfl (by decide)).trans (congrArg (And _) (congrArg (And _) ((w_bipush t188_32 rfl).trans ((w_iald t188_34 rfl wl_7).trans (congrArg (And _) ((w_bipush t188_35 rfl).trans (w_icne t188_37 rfl wl_6 rfl rfl))))))))
set_option maxRecDepth 10000 in
theorem b188_40 {d : Nat} {l0 : Option sm_V} {l1 : Option sm_V} {l2 : Option sm_V} {l3 : Option sm_V} {l4 : Option sm_V} {Z : Nat → Nat → Int} {Rf : Nat → Nat → Option Nat} {K : Nat → Nat × Nat} {n z : Nat} {Q : Option sm_V → sm_S → Prop} : sm_wp d 188 40 [l0, l1, l2, l3, l4] [] (Z, Rf, K, n, z) Q = (Q (some (.inl ((-1)))) (Z, Rf, K, n, z)) := (w_iconst t188_40 rfl).trans (w_iret t188_41)
set_option maxRecDepth 10000 in
theorem b188_42 {d : Nat} {l0 : Option sm_V} {l1 : Option sm_V} {l2 : Option sm_V} {l3 : Option sm_V} {l4 : Option sm_V} {Z : Nat → Nat → Int} {Rf : Nat → Nat → Option Nat} {K : Nat → Nat × Nat} {n z : Nat} {Q : Option sm_V → sm_S → Prop} : sm_wp d 188 42 [l0, l1, l2, l3, l4] [] (Z, Rf, K, n, z) Q = (sm_wp d 188 45 [l0, l1, l2, l3, some (.inl 0)] [] (Z, Rf, K, n, z) Q) := (w_iconst t188_42 rfl).trans (w_istore t188_43 rfl (Nat.le_of_ble_eq_true rfl) rfl)
set_option maxRecDepth 10000 in
theorem b188_45 {d : Nat} {r0 : Nat} {l1 : Option sm_V} {l2 : Option sm_V} {l3 : Option sm_V} {x4 : Int} {Z : Nat → Nat → Int} {Rf : Nat → Nat → Option Nat} {K : Nat → Nat × Nat} {n z : Nat} {Q : Option sm_V → sm_S → Prop} : sm_wp d 188 45 [some (.inr (some r0)), l1, l2, l3, some (.inl x4)] [] (Z, Rf, K, n, z) Q = ((K r0).1 = 11 ∧ (Rf r0 0).isSome = true ∧ sm_rd (K (((Rf r0 0).getD 0))) ((7 : Int)) ∧ (if wr (Z (((Rf r0 0).getD 0)) 7) ≤ wr x4 then sm_wp d 188 82 [some (.inr (some r0)), l1, l2, l3, some (.inl x4)] [] (Z, Rf, K, n, z) Q else sm_wp d 188 57 [some (.inr (some r0)), l1, l2, l3, some (.inl x4)] [] (Z, Rf, K, n, z) Q)) := (w_iload t188_45 rfl rfl).trans ((w_aload_n t188_47 rfl rfl).trans ((w_getR t188_48 rfl (by decide)).trans (congrArg (And _) (congrArg (And _) ((w_bipush t188_51 rfl).trans ((w_iald t188_53 rfl wl_7).trans (congrArg (And _) (w_icge t188_54 rfl rfl rfl rfl))))))))
set_option maxRecDepth 10000 in
theorem b188_57 {d : Nat} {r0 : Nat} {x1 : Int} {l2 : Option sm_V} {l3 : Option sm_V} {x4 : Int} {Z : Nat → Nat → Int} {Rf : Nat → Nat → Option Nat} {K : Nat → Nat × Nat} {n z : Nat} {Q : Option sm_V → sm_S → Prop} : sm_wp d 188 57 [some (.inr (some r0)), some (.inl x1), l2, l3, some (.inl x4)] [] (Z, Rf, K, n, z) Q = ((K r0).1 = 11 ∧ (Rf r0 0).isSome = true ∧ sm_rd (K (((Rf r0 0).getD 0))) (wr (1900 + (3 * x4))) ∧ (if wr (Z (((Rf r0 0).getD 0)) ((wr (1900 + (3 * x4))).toNat)) = wr x1 then sm_wp d 188 74 [some (.inr (some r0)), some (.inl x1), l2, l3, some (.inl x4)] [] (Z, Rf, K, n, z) Q else sm_wp d 188 76 [some (.inr (some r0)), some (.inl x1), l2, l3, some (.inl x4)] [] (Z, Rf, K, n, z) Q)) := (w_aload_n t188_57 rfl rfl).trans ((w_getR t188_58 rfl (by decide)).trans (congrArg (And _) (congrArg (And _) ((w_sipush t188_61 rfl).trans ((w_iconst t188_64 rfl).trans ((w_iload t188_65 rfl rfl).trans ((w_imul t188_67 rfl).trans ((w_iadd t188_68 rfl).trans ((w_iald t188_69 rfl rfl).trans (congrArg (And _) ((w_iload_n t188_70 rfl rfl).trans (w_icne t188_71 rfl rfl rfl rfl))))))))))))
set_option maxRecDepth 10000 in
theorem b188_74 {d : Nat} {l0 : Option sm_V} {l1 : Option sm_V} {l2 : Option sm_V} {l3 : Option sm_V} {l4 : Option sm_V} {Z : Nat → Nat → Int} {Rf : Nat → Nat → Option Nat} {K : Nat → Nat × Nat} {n z : Nat} {Q : Option sm_V → sm_S → Prop} : sm_wp d 188 74 [l0, l1, l2, l3, l4] [] (Z, Rf, K, n, z) Q = (Q (some (.inl ((-1)))) (Z, Rf, K, n, z)) := (w_iconst t188_74 rfl).trans (w_iret t188_75)
set_option maxRecDepth 10000 in
theorem b188_76 {d : Nat} {l0 : Option sm_V} {l1 : Option sm_V} {l2 : Option sm_V} {l3 : Option sm_V} {x4 : Int} {Z : Nat → Nat → Int} {Rf : Nat → Nat → Option Nat} {K : Nat → Nat × Nat} {n z : Nat} {Q : Option sm_V → sm_S → Prop} : sm_wp d 188 76 [l0, l1, l2, l3, some (.inl x4)] [] (Z, Rf, K, n, z) Q = (sm_wp d 188 45 [l0, l1, l2, l3, some (.inl (x4 + 1))] [] (Z, Rf, K, n, z) Q) := (w_iinc t188_76 rfl rfl (Nat.le_of_ble_eq_true rfl) rfl).trans (w_goto t188_79 rfl)
set_option maxRecDepth 10000 in
theorem b188_82 {d : Nat} {r0 : Nat} {x1 : Int} {x2 : Int} {x3 : Int} {l4 : Option sm_V} {Z : Nat → Nat → Int} {Rf : Nat → Nat → Option Nat} {K : Nat → Nat × Nat} {n z : Nat} {Q : Option sm_V → sm_S → Prop} : sm_wp d 188 82 [some (.inr (some r0)), some (.inl x1), some (.inl x2), some (.inl x3), l4] [] (Z, Rf, K, n, z) Q = ((K r0).1 = 11 ∧ (Rf r0 0).isSome = true ∧ sm_rd (K (((Rf r0 0).getD 0))) ((7 : Int)) ∧ (K r0).1 = 11 ∧ (Rf r0 0).isSome = true ∧ sm_wt (K (((Rf r0 0).getD 0))) (wr (1900 + (3 * (Z (((Rf r0 0).getD 0)) 7)))) ∧ (K r0).1 = 11 ∧ (Rf r0 0).isSome = true ∧ sm_wt (K (((Rf r0 0).getD 0))) (wr ((1900 + (3 * (Z (((Rf r0 0).getD 0)) 7))) + 1)) ∧ (K r0).1 = 11 ∧ (Rf r0 0).isSome = true ∧ sm_wt (K (((Rf r0 0).getD 0))) (wr ((1900 + (3 * (Z (((Rf r0 0).getD 0)) 7))) + 2)) ∧ (K r0).1 = 11 ∧ (Rf r0 0).isSome = true ∧ sm_rd (K (((Rf r0 0).getD 0))) ((7 : Int)) ∧ sm_wt (K (((Rf r0 0).getD 0))) ((7 : Int)) ∧ (K r0).1 = 11 ∧ (Rf r0 0).isSome = true ∧ sm_rd (K (((Rf r0 0).getD 0))) ((7 : Int)) ∧ Q (some (.inl (((sm_u (sm_u (sm_u (sm_u Z (((Rf r0 0).getD 0)) ((wr (1900 + (3 * (Z (((Rf r0 0).getD 0)) 7)))).toNat) x1) (((Rf r0 0).getD 0)) ((wr ((1900 + (3 * (Z (((Rf r0 0).getD 0)) 7))) + 1)).toNat) x2) (((Rf r0 0).getD 0)) ((wr ((1900 + (3 * (Z (((Rf r0 0).getD 0)) 7))) + 2)).toNat) x3) (((Rf r0 0).getD 0)) 7 (((sm_u (sm_u (sm_u Z (((Rf r0 0).getD 0)) ((wr (1900 + (3 * (Z (((Rf r0 0).getD 0)) 7)))).toNat) x1) (((Rf r0 0).getD 0)) ((wr ((1900 + (3 * (Z (((Rf r0 0).getD 0)) 7))) + 1)).toNat) x2) (((Rf r0 0).getD 0)) ((wr ((1900 + (3 * (Z (((Rf r0 0).getD 0)) 7))) + 2)).toNat) x3) (((Rf r0 0).getD 0)) 7) + 1)) (((Rf r0 0).getD 0)) 7) - 1))) (sm_u (sm_u (sm_u (sm_u Z (((Rf r0 0).getD 0)) ((wr (1900 + (3 * (Z (((Rf r0 0).getD 0)) 7)))).toNat) x1) (((Rf r0 0).getD 0)) ((wr ((1900 + (3 * (Z (((Rf r0 0).getD 0)) 7))) + 1)).toNat) x2) (((Rf r0 0).getD 0)) ((wr ((1900 + (3 * (Z (((Rf r0 0).getD 0)) 7))) + 2)).toNat) x3) (((Rf r0 0).getD 0)) 7 (((sm_u (sm_u (sm_u Z (((Rf r0 0).getD 0)) ((wr (1900 + (3 * (Z (((Rf r0 0).getD 0)) 7)))).toNat) x1) (((Rf r0 0).getD 0)) ((wr ((1900 + (3 * (Z (((Rf r0 0).getD 0)) 7))) + 1)).toNat) x2) (((Rf r0 0).getD 0)) ((wr ((1900 + (3 * (Z (((Rf r0 0).getD 0)) 7))) + 2)).toNat) x3) (((Rf r0 0).getD 0)) 7) + 1), Rf, K, n, z)) := (w_sipush t188_82 rfl).trans ((w_iconst t188_85 rfl).trans ((w_aload_n t188_86 rfl rfl).trans ((w_getR t188_87 rfl (by decide)).trans (congrArg (And _) (congrArg (And _) ((w_bipush t188_90 rfl).trans ((w_iald t188_92 rfl wl_7).trans (congrArg (And _) ((w_imul t188_93 rfl).trans ((w_iadd t188_94 rfl).trans ((w_istore t188_95 rfl (Nat.le_of_ble_eq_true rfl) rfl).trans ((w_aload_n t188_97 rfl rfl).trans ((w_getR t188_98 rfl (by decide)).trans (congrArg (And _) (congrArg (And _) ((w_iload t188_101 rfl rfl).trans ((w_iload_n t188_103 rfl rfl).trans ((w_iast t188_104 rfl rfl).trans (congrArg (And _) ((w_aload_n t188_105 rfl rfl).trans ((w_getR t188_106 rfl (by decide)).trans (congrArg (And _) (congrArg (And _) ((w_iload t188_109 rfl rfl).trans ((w_iconst t188_111 rfl).trans ((w_iadd t188_112 rfl).trans ((w_iload_n t188_113 rfl rfl).trans ((w_iast t188_114 rfl rfl).trans (congrArg (And _) ((w_aload_n t188_115 rfl rfl).trans ((w_getR t188_116 rfl (by decide)).trans (congrArg (And _) (congrArg (And _) ((w_iload t188_119 rfl rfl).trans ((w_iconst t188_121 rfl).trans ((w_iadd t188_122 rfl).trans ((w_iload_n t188_123 rfl rfl).trans ((w_iast t188_124 rfl rfl).trans (congrArg (And _) ((w_aload_n t188_125 rfl rfl).trans ((w_getR t188_126 rfl (by decide)).trans (congrArg (And _) (congrArg (And _) ((w_bipush t188_129 rfl).trans ((w_dup2 t188_131 rfl).trans ((w_iald t188_132 rfl wl_7).trans (congrArg (And _) ((w_iconst t188_133 rfl).trans ((w_iadd t188_134 rfl).trans ((w_iast t188_135 rfl wl_7).trans (congrArg (And _) ((w_aload_n t188_136 rfl rfl).trans ((w_getR t188_137 rfl (by decide)).trans (congrArg (And _) (congrArg (And _) ((w_bipush t188_140 rfl).trans ((w_iald t188_142 rfl wl_7).trans (congrArg (And _) ((w_iconst t188_143 rfl).trans ((w_isub t188_144 rfl).trans (w_iret t188_145)))))))))))))))))))))))))))))))))))))))))))))))))))))))))))))
theorem t189_0 : sm_at 189 0 = some (1, .aload_n 0, 0, 0, 0) := rfl
theorem t189_1 : sm_at 189 1 = some (3, .invokevirtual 302, 182, 1, 0) := rfl
theorem t189_4 : sm_at 189 4 = some (1, .iconst 0, 0, 0, 0) := rfl
theorem t189_5 : sm_at 189 5 = some (1, .istore_n 2, 0, 0, 0) := rfl
theorem t189_6 : sm_at 189 6 = some (1, .iload_n 2, 0, 0, 0) := rfl
theorem t189_7 : sm_at 189 7 = some (1, .aload_n 0, 0, 0, 0) := rfl
theorem t189_8 : sm_at 189 8 = some (3, .getfield 7, 11, 0, 0) := rfl
theorem t189_11 : sm_at 189 11 = some (2, .bipush 7, 0, 0, 0) := rfl
theorem t189_13 : sm_at 189 13 = some (1, .iaload, 0, 0, 0) := rfl
theorem t189_14 : sm_at 189 14 = some (3, .if_icmp .ge 52, 0, 0, 0) := rfl
theorem t189_17 : sm_at 189 17 = some (1, .aload_n 0, 0, 0, 0) := rfl
theorem t189_18 : sm_at 189 18 = some (3, .getfield 7, 11, 0, 0) := rfl
theorem t189_21 : sm_at 189 21 = some (2, .bipush 20, 0, 0, 0) := rfl
theorem t189_23 : sm_at 189 23 = some (1, .aload_n 0, 0, 0, 0) := rfl
theorem t189_24 : sm_at 189 24 = some (3, .getfield 7, 11, 0, 0) := rfl
theorem t189_27 : sm_at 189 27 = some (3, .sipush 1900, 0, 0, 0) := rfl
theorem t189_30 : sm_at 189 30 = some (1, .iconst 3, 0, 0, 0) := rfl
theorem t189_31 : sm_at 189 31 = some (1, .iload_n 2, 0, 0, 0) := rfl
theorem t189_32 : sm_at 189 32 = some (1, .imul, 0, 0, 0) := rfl
theorem t189_33 : sm_at 189 33 = some (1, .iadd, 0, 0, 0) := rfl
theorem t189_34 : sm_at 189 34 = some (1, .iaload, 0, 0, 0) := rfl
theorem t189_35 : sm_at 189 35 = some (1, .iadd, 0, 0, 0) := rfl
theorem t189_36 : sm_at 189 36 = some (1, .dup2, 0, 0, 0) := rfl
theorem t189_37 : sm_at 189 37 = some (1, .iaload, 0, 0, 0) := rfl
theorem t189_38 : sm_at 189 38 = some (1, .iload_n 1, 0, 0, 0) := rfl
theorem t189_39 : sm_at 189 39 = some (1, .iload_n 2, 0, 0, 0) := rfl
theorem t189_40 : sm_at 189 40 = some (1, .ishr, 0, 0, 0) := rfl
theorem t189_41 : sm_at 189 41 = some (1, .iconst 1, 0, 0, 0) := rfl
theorem t189_42 : sm_at 189 42 = some (1, .iand, 0, 0, 0) := rfl
theorem t189_43 : sm_at 189 43 = some (1, .aload_n 0, 0, 0, 0) := rfl
theorem t189_44 : sm_at 189 44 = some (3, .getfield 7, 11, 0, 0) := rfl
theorem t189_47 : sm_at 189 47 = some (3, .sipush 1900, 0, 0, 0) := rfl
theorem t189_50 : sm_at 189 50 = some (1, .iconst 3, 0, 0, 0) := rfl
theorem t189_51 : sm_at 189 51 = some (1, .iload_n 2, 0, 0, 0) := rfl
theorem t189_52 : sm_at 189 52 = some (1, .imul, 0, 0, 0) := rfl
theorem t189_53 : sm_at 189 53 = some (1, .iadd, 0, 0, 0) := rfl
theorem t189_54 : sm_at 189 54 = some (1, .iconst 1, 0, 0, 0) := rfl
theorem t189_55 : sm_at 189 55 = some (1, .iadd, 0, 0, 0) := rfl
theorem t189_56 : sm_at 189 56 = some (1, .iaload, 0, 0, 0) := rfl
theorem t189_57 : sm_at 189 57 = some (1, .imul, 0, 0, 0) := rfl
theorem t189_58 : sm_at 189 58 = some (1, .iadd, 0, 0, 0) := rfl
theorem t189_59 : sm_at 189 59 = some (1, .iastore, 0, 0, 0) := rfl
theorem t189_60 : sm_at 189 60 = some (3, .iinc 2 1, 0, 0, 0) := rfl
theorem t189_63 : sm_at 189 63 = some (3, .goto (-57), 0, 0, 0) := rfl
theorem t189_66 : sm_at 189 66 = some (1, .aload_n 0, 0, 0, 0) := rfl
theorem t189_67 : sm_at 189 67 = some (3, .invokevirtual 287, 171, 1, 0) := rfl
theorem t189_70 : sm_at 189 70 = some (1, .aload_n 0, 0, 0, 0) := rfl
theorem t189_71 : sm_at 189 71 = some (3, .invokevirtual 290, 174, 1, 0) := rfl
theorem t189_74 : sm_at 189 74 = some (1, .aload_n 0, 0, 0, 0) := rfl
theorem t189_75 : sm_at 189 75 = some (3, .invokevirtual 305, 183, 1, 0) := rfl
theorem t189_78 : sm_at 189 78 = some (1, .return_, 0, 0, 0) := rfl
set_option maxRecDepth 10000 in
theorem b189_0 {d : Nat} {r0 : Nat} {l1 : Option sm_V} {l2 : Option sm_V} {Z : Nat → Nat → Int} {Rf : Nat → Nat → Option Nat} {K : Nat → Nat × Nat} {n z : Nat} {Q : Option sm_V → sm_S → Prop} : sm_wp (d + 1) 189 0 [some (.inr (some r0)), l1, l2] [] (Z, Rf, K, n, z) Q = ((K r0).1 = 11 ∧ sm_call d 182 [.inr (some r0)] (Z, Rf, K, n, z) (sm_cont (d + 1) 189 4 [some (.inr (some r0)), l1, l2] [] Q)) := (w_aload_n t189_0 rfl rfl).trans (w_callV t189_1 rfl rfl rfl rfl (Nat.le_of_ble_eq_true rfl) (Nat.le_of_ble_eq_true rfl) rfl (by decide))
set_option maxRecDepth 10000 in
theorem b189_4 {d : Nat} {l0 : Option sm_V} {l1 : Option sm_V} {l2 : Option sm_V} {Z : Nat → Nat → Int} {Rf : Nat → Nat → Option Nat} {K : Nat → Nat × Nat} {n z : Nat} {Q : Option sm_V → sm_S → Prop} : sm_wp d 189 4 [l0, l1, l2] [] (Z, Rf, K, n, z) Q = (sm_wp d 189 6 [l0, l1, some (.inl 0)] [] (Z, Rf, K, n, z) Q) := (w_iconst t189_4 rfl).trans (w_istore_n t189_5 rfl (Nat.le_of_ble_eq_true rfl) rfl)
set_option maxRecDepth 10000 in
theorem b189_6 {d : Nat} {r0 : Nat} {l1 : Option sm_V} {x2 : Int} {Z : Nat → Nat → Int} {Rf : Nat → Nat → Option Nat} {K : Nat → Nat × Nat} {n z : Nat} {Q : Option sm_V → sm_S → Prop} : sm_wp d 189 6 [some (.inr (some r0)), l1, some (.inl x2)] [] (Z, Rf, K, n, z) Q = ((K r0).1 = 11 ∧ (Rf r0 0).isSome = true ∧ sm_rd (K (((Rf r0 0).getD 0))) ((7 : Int)) ∧ (if wr (Z (((Rf r0 0).getD 0)) 7) ≤ wr x2 then sm_wp d 189 66 [some (.inr (some r0)), l1, some (.inl x2)] [] (Z, Rf, K, n, z) Q else sm_wp d 189 17 [some (.inr (some r0)), l1, some (.inl x2)] [] (Z, Rf, K, n, z) Q)) := (w_iload_n t189_6 rfl rfl).trans ((w_aload_n t189_7 rfl rfl).trans ((w_getR t189_8 rfl (by decide)).trans (congrArg (And _) (congrArg (And _) ((w_bipush t189_11 rfl).trans ((w_iald t189_13 rfl wl_7).trans (congrArg (And _) (w_icge t189_14 rfl rfl rfl rfl))))))))
set_option maxRecDepth 10000 in
theorem b189_17 {d : Nat} {r0 : Nat} {x1 : Int} {x2 : Int} {Z : Nat → Nat → Int} {Rf : Nat → Nat → Option Nat} {K : Nat → Nat × Nat} {n z : Nat} {Q : Option sm_V → sm_S → Prop} : sm_wp d 189 17 [some (.inr (some r0)), some (.inl x1), some (.inl x2)] [] (Z, Rf, K, n, z) Q = ((K r0).1 = 11 ∧ (Rf r0 0).isSome = true ∧ (K r0).1 = 11 ∧ (Rf r0 0).isSome = true ∧ sm_rd (K (((Rf r0 0).getD 0))) (wr (1900 + (3 * x2))) ∧ sm_rd (K (((Rf r0 0).getD 0))) (wr (20 + (Z (((Rf r0 0).getD 0)) ((wr (1900 + (3 * x2))).toNat)))) ∧ (K r0).1 = 11 ∧ (Rf r0 0).isSome = true ∧ sm_rd (K (((Rf r0 0).getD 0))) (wr ((1900 + (3 * x2)) + 1)) ∧ sm_wt (K (((Rf r0 0).getD 0))) (wr (20 + (Z (((Rf r0 0).getD 0)) ((wr (1900 + (3 * x2))).toNat)))) ∧ sm_wp d 189 6 [some (.inr (some r0)), some (.inl x1), some (.inl (x2 + 1))] [] (sm_u Z (((Rf r0 0).getD 0)) ((wr (20 + (Z (((Rf r0 0).getD 0)) ((wr (1900 + (3 * x2))).toNat)))).toNat) ((Z (((Rf r0 0).getD 0)) ((wr (20 + (Z (((Rf r0 0).getD 0)) ((wr (1900 + (3 * x2))).toNat)))).toNat)) + ((sm_and (sm_shr x1 x2) 1) * (Z (((Rf r0 0).getD 0)) ((wr ((1900 + (3 * x2)) + 1)).toNat)))), Rf, K, n, z) Q) := (w_aload_n t189_17 rfl rfl).trans ((w_getR t189_18 rfl (by decide)).trans (congrArg (And _) (congrArg (And _) ((w_bipush t189_21 rfl).trans ((w_aload_n t189_23 rfl rfl).trans ((w_getR t189_24 rfl (by decide)).trans (congrArg (And _) (congrArg (And _) ((w_sipush t189_27 rfl).trans ((w_iconst t189_30 rfl).trans ((w_iload_n t189_31 rfl rfl).trans ((w_imul t189_32 rfl).trans ((w_iadd t189_33 rfl).trans ((w_iald t189_34 rfl rfl).trans (congrArg (And _) ((w_iadd t189_35 rfl).trans ((w_dup2 t189_36 rfl).trans ((w_iald t189_37 rfl rfl).trans (congrArg (And _) ((w_iload_n t189_38 rfl rfl).trans ((w_iload_n t189_39 rfl rfl).trans ((w_ishr t189_40 rfl).trans ((w_iconst t189_41 rfl).trans ((w_iand t189_42 rfl).trans ((w_aload_n t189_43 rfl rfl).trans ((w_getR t189_44 rfl (by decide)).trans (congrArg (And _) (congrArg (And _) ((w_sipush t189_47 rfl).trans ((w_iconst t189_50 rfl).trans ((w_iload_n t189_51 rfl rfl).trans ((w_imul t189_52 rfl).trans ((w_iadd t189_53 rfl).trans ((w_iconst t189_54 rfl).trans ((w_iadd t189_55 rfl).trans ((w_iald t189_56 rfl rfl).trans (congrArg (And _) ((w_imul t189_57 rfl).trans ((w_iadd t189_58 rfl).trans ((w_iast t189_59 rfl rfl).trans (congrArg (And _) ((w_iinc t189_60 rfl rfl (Nat.le_of_ble_eq_true rfl) rfl).trans (w_goto t189_63 rfl)))))))))))))))))))))))))))))))))))))))))))
set_option maxRecDepth 10000 in
theorem b189_66 {d : Nat} {r0 : Nat} {l1 : Option sm_V} {l2 : Option sm_V} {Z : Nat → Nat → Int} {Rf : Nat → Nat → Option Nat} {K : Nat → Nat × Nat} {n z : Nat} {Q : Option sm_V → sm_S → Prop} : sm_wp (d + 1) 189 66 [some (.inr (some r0)), l1, l2] [] (Z, Rf, K, n, z) Q = ((K r0).1 = 11 ∧ sm_call d 171 [.inr (some r0)] (Z, Rf, K, n, z) (sm_cont (d + 1) 189 70 [some (.inr (some r0)), l1, l2] [] Q)) := (w_aload_n t189_66 rfl rfl).trans (w_callV t189_67 rfl rfl rfl rfl (Nat.le_of_ble_eq_true rfl) (Nat.le_of_ble_eq_true rfl) rfl (by decide))
set_option maxRecDepth 10000 in
theorem b189_70 {d : Nat} {r0 : Nat} {l1 : Option sm_V} {l2 : Option sm_V} {Z : Nat → Nat → Int} {Rf : Nat → Nat → Option Nat} {K : Nat → Nat × Nat} {n z : Nat} {Q : Option sm_V → sm_S → Prop} : sm_wp (d + 1) 189 70 [some (.inr (some r0)), l1, l2] [] (Z, Rf, K, n, z) Q = ((K r0).1 = 11 ∧ sm_call d 174 [.inr (some r0)] (Z, Rf, K, n, z) (sm_cont (d + 1) 189 74 [some (.inr (some r0)), l1, l2] [] Q)) := (w_aload_n t189_70 rfl rfl).trans (w_callV t189_71 rfl rfl rfl rfl (Nat.le_of_ble_eq_true rfl) (Nat.le_of_ble_eq_true rfl) rfl (by decide))
set_option maxRecDepth 10000 in
theorem b189_74 {d : Nat} {r0 : Nat} {l1 : Option sm_V} {l2 : Option sm_V} {Z : Nat → Nat → Int} {Rf : Nat → Nat → Option Nat} {K : Nat → Nat × Nat} {n z : Nat} {Q : Option sm_V → sm_S → Prop} : sm_wp (d + 1) 189 74 [some (.inr (some r0)), l1, l2] [] (Z, Rf, K, n, z) Q = ((K r0).1 = 11 ∧ sm_call d 183 [.inr (some r0)] (Z, Rf, K, n, z) (sm_cont (d + 1) 189 78 [some (.inr (some r0)), l1, l2] [] Q)) := (w_aload_n t189_74 rfl rfl).trans (w_callV t189_75 rfl rfl rfl rfl (Nat.le_of_ble_eq_true rfl) (Nat.le_of_ble_eq_true rfl) rfl (by decide))
set_option maxRecDepth 10000 in
theorem b189_78 {d : Nat} {l0 : Option sm_V} {l1 : Option sm_V} {l2 : Option sm_V} {Z : Nat → Nat → Int} {Rf : Nat → Nat → Option Nat} {K : Nat → Nat × Nat} {n z : Nat} {Q : Option sm_V → sm_S → Prop} : sm_wp d 189 78 [l0, l1, l2] [] (Z, Rf, K, n, z) Q = (Q none (Z, Rf, K, n, z)) := w_vret t189_78
